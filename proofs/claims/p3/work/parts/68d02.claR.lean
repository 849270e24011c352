set_option maxHeartbeats 4000000 in
set_option maxRecDepth 100000 in
theorem r_X14_classes (l : Launch) (dC : Nat → ClassId) (dI : Nat → Nat → Nat) (L : List Nat) (kd : Nat → Nat) (tys : List (ClassId × FieldType)) (f0 : Nat → va_E) (sz : Nat) (hWT : WT L kd tys f0) (adK adV : Nat → Nat) (a0_ : Nat) (ma0_ : a0_ ∈ L) (ka0_ : kd a0_ = 14) (n_ : Nat) (mn_ : n_ ∈ L) (kn_ : kd n_ = 12) (q0_ : Nat) (mq0_ : q0_ ∈ L) (kq0_ : kd q0_ = 12) (W_ : PV) (dn_ : Nat → Nat) (hRI : RI f0 a0_ n_ q0_ W_ dn_) (K_ : Nat) (hK_ : 602 ≤ K_) (hfx : Fs L kd f0 [(14, 1, a0_, .ref n_), (14, 2, a0_, .ref q0_)]) : MetX l yX14_classes (.codeWith yX14_classes cX14_classes 2 (some .int) [(108, 124, 127, 7)] :: lw_g) ({ frames := 516, cells := K_, slots := 3 * K_, locals := 29768 }) (va_Pc [.ref a0_] (P3A (dC, dI) L tys f0 sz adK adV)) (q3Z (dC, dI) L kd tys [(12, 0), (12, 27), (12, 46), (12, 57), (12, 58), (14, 1), (14, 2), (14, 4), (14, 5), (14, 6), (14, 7), (14, 8), (14, 9), (14, 10), (14, 11), (14, 12), (14, 13), (14, 14), (14, 15), (14, 16), (14, 17), (14, 20), (14, 21), (14, 22), (14, 23), (14, 24), (14, 25), (14, 26), (14, 30), (14, 39), (14, 40), (14, 51), (14, 52), (14, 55), (14, 58), (14, 59)] [157, 158, 159, 160, 161, 162, 163, 164, 165, 166, 167, 168, 169, 170, 171, 172, 173, 174, 175, 176, 177, 178, 179, 180, 181, 182, 183, 184, 185, 186, 187, 188, 189, 190, 191, 192, 193, 194, 195, 196, 197, 198, 199, 200, 201, 202, 203, 204, 205, 206, 207, 208, 209, 210, 211, 213, 214, 228, 229] f0 sz (pXi (fun (r : Int32) (f : Nat → va_E) (k : Nat) => (∃ (V1 : PV) (δ1 : Nat → Nat), RI f a0_ n_ q0_ V1 δ1 ∨ RI f a0_ q0_ n_ V1 δ1) ∧ (2 * k ≤ 1202) ∧ (fV f a0_ 4 = .int 0) ∧ True)) (fun (f : Nat → va_E) (k : Nat) => False)) (pA L sz) := by
  refine MetX.ofWH (cc := cX14_classes) (maxL := 2) (ret := (some .int)) (by decide) rfl ?_
  intro p e s m args below meth c s₁ B hml htab hv
  obtain ⟨rfl, ⟨hsz, hP, hK, hD0⟩, hAm⟩ := hv
  have hx := B.exec
  have hb := B.bytes
  have hr := B.returns
  have hts := atoms_spec (ws := (.codeWith yX14_classes cX14_classes 2 (some .int) [(108, 124, 127, 7)] :: lw_g)) B.pre
  have hown : s.vm.findClass RX14 = some m.cls := findClass_of_methodNamed B.named
  have hlocks := B.notSynchronized
  subst hsz
  have g : G3 (dC, dI) L kd tys s f0 [(12, 0), (12, 27), (12, 46), (12, 57), (12, 58), (14, 1), (14, 2), (14, 4), (14, 5), (14, 6), (14, 7), (14, 8), (14, 9), (14, 10), (14, 11), (14, 12), (14, 13), (14, 14), (14, 15), (14, 16), (14, 17), (14, 20), (14, 21), (14, 22), (14, 23), (14, 24), (14, 25), (14, 26), (14, 30), (14, 39), (14, 40), (14, 51), (14, 52), (14, 55), (14, 58), (14, 59)] [157, 158, 159, 160, 161, 162, 163, 164, 165, 166, 167, 168, 169, 170, 171, 172, 173, 174, 175, 176, 177, 178, 179, 180, 181, 182, 183, 184, 185, 186, 187, 188, 189, 190, 191, 192, 193, 194, 195, 196, 197, 198, 199, 200, 201, 202, 203, 204, 205, 206, 207, 208, 209, 210, 211, 213, 214, 228, 229] f0 s.heap [] [(14, 1, a0_, .ref n_), (14, 2, a0_, .ref q0_)] := G3.start hP hD0 hWT hfx
  have hl := lv_entry ([.ref a0_]) (n := 2) (Nat.le_of_ble_eq_true rfl)
  rw [lg_entry_eq]
  generalize (lg_sl ([.ref a0_]) ++ List.replicate (2 - (lg_sl ([.ref a0_])).length) Slot.unset).toArray = ls at hl ⊢
  have hl : lv_has ls 2 [(0, .ref a0_)] := hl
  refine W_q (fun Q hQ => ?_)
  obtain ⟨V_, hV⟩ := isV.ex g mq0_ kq0_
  obtain ⟨hNV, hNW, hNM, hNw, hNo, hNa, -, -⟩ := hRI
  refine W_c0 (fun cl_0 hc_0 => ?_)
  have hck_0 : cl_0 ≤ K_ := by omega
  have hC_0 : cEq f0 a0_ (cF f0 a0_) := rfl
  have hm_0 : cF f0 a0_ ≤ 1202 := cF_le g ma0_ ka0_
  have hm_1 : -1 ≤ cF f0 a0_ := cF_ge g ma0_ ka0_
  refine lv_aload_n hx hb dX14_classes_0 rfl (lv_at hl 0 rfl) ?_
  refine lv_aload_n hx hb dX14_classes_1 rfl (lv_at hl 0 rfl) ?_
  refine g_geti (C := RX14) (T := TX14) (N := 67) hx hb hts (mc_ inX14) hown hK g ma0_ ka0_ (by decide) rfl 4 (by decide) rfl (hts _ (List.mem_cons_of_mem _ t_2150)) (fun _ h9 => h9) rfl dX14_classes_2 (fun x_1 bx_1 g => ?_)
  have go_ := g
  refine g_put (C := RX14) (T := TX14) (N := 67) hx hb hts (mc_ inX14) tyX14 tyX14_ok nmX14 hown hK g ma0_ ka0_ (by decide) rfl 5 (by decide) (hts _ (List.mem_cons_of_mem _ t_2151)) (fun _ h9 => h9) rfl rfl (okV_i bx_1) rfl rfl (by decide) (Or.inr (Or.inl (by decide))) (fx' := [(14, 4, a0_, .int x_1), (14, 1, a0_, .ref n_), (14, 2, a0_, .ref q0_)]) rfl dX14_classes_5 (fun f H locs hM_2 g => ?_)
  have hG_3 := isV.frame hM_2 go_.2.2.2.1 mq0_ kq0_ (by decide) (by decide) hV
  have hG_4 := FR.frame hM_2 go_.2.2.2.1 mq0_ kq0_ (by decide) (by decide) FR.refl
  have hG_5 := cEq.frame hM_2 go_.2.2.2.1 ma0_ ka0_ (by decide) (by decide) hC_0
  have hG_6 := rOK.frame hM_2 go_.2.2.2.1 ma0_ ka0_ (by decide) (by decide) hNw
  have hG_7 := oOK.frame hM_2 go_.2.2.2.1 ma0_ ka0_ (by decide) (by decide) hNo
  refine lv_aload_n hx hb dX14_classes_8 rfl (lv_at hl 0 rfl) ?_
  refine lv_iconst (v := 0) hx hb dX14_classes_9 (by decide) ?_
  have kb_0 : bd 0 0 (0 : Int32) := ⟨by decide, by decide⟩
  have go_ := g
  refine g_put (C := RX14) (T := TX14) (N := 67) hx hb hts (mc_ inX14) tyX14 tyX14_ok nmX14 hown hK g ma0_ ka0_ (by decide) rfl 4 (by decide) (hts _ (List.mem_cons_of_mem _ t_2150)) (fun _ h9 => h9) rfl rfl (okV_i (bd_sub kb_0 (by decide))) rfl rfl (by decide) (Or.inr (Or.inl (by decide))) (fx' := [(14, 5, a0_, .int x_1), (14, 1, a0_, .ref n_), (14, 2, a0_, .ref q0_)]) rfl dX14_classes_10 (fun f H locs hM_8 g => ?_)
  have hG_9 := isV.frame hM_8 go_.2.2.2.1 mq0_ kq0_ (by decide) (by decide) hG_3
  have hG_10 := FR.frame hM_8 go_.2.2.2.1 mq0_ kq0_ (by decide) (by decide) hG_4
  have hG_11 := cEq.frame hM_8 go_.2.2.2.1 ma0_ ka0_ (by decide) (by decide) hG_5
  have hG_12 := rOK.frame hM_8 go_.2.2.2.1 ma0_ ka0_ (by decide) (by decide) hG_6
  have hG_13 := oOK.frame hM_8 go_.2.2.2.1 ma0_ ka0_ (by decide) (by decide) hG_7
  refine lv_aload_n hx hb dX14_classes_13 rfl (lv_at hl 0 rfl) ?_
  refine lv_iconst (v := 0) hx hb dX14_classes_14 (by decide) ?_
  have go_ := g
  refine g_put (C := RX14) (T := TX14) (N := 67) hx hb hts (mc_ inX14) tyX14 tyX14_ok nmX14 hown hK g ma0_ ka0_ (by decide) rfl 9 (by decide) (hts _ (List.mem_cons_of_mem _ t_2155)) (fun _ h9 => h9) rfl rfl (okV_i (bd_sub kb_0 (by decide))) rfl rfl (by decide) (Or.inr (Or.inl (by decide))) (fx' := [(14, 4, a0_, .int 0), (14, 5, a0_, .int x_1), (14, 1, a0_, .ref n_), (14, 2, a0_, .ref q0_)]) rfl dX14_classes_15 (fun f H locs hM_14 g => ?_)
  have hG_15 := isV.frame hM_14 go_.2.2.2.1 mq0_ kq0_ (by decide) (by decide) hG_9
  have hG_16 := FR.frame hM_14 go_.2.2.2.1 mq0_ kq0_ (by decide) (by decide) hG_10
  have hG_17 := cEq.frame hM_14 go_.2.2.2.1 ma0_ ka0_ (by decide) (by decide) hG_11
  have hG_18 := rOK.frame hM_14 go_.2.2.2.1 ma0_ ka0_ (by decide) (by decide) hG_12
  have hG_19 := oOK.frame hM_14 go_.2.2.2.1 ma0_ ka0_ (by decide) (by decide) hG_13
  refine lv_aload_n hx hb dX14_classes_18 rfl (lv_at hl 0 rfl) ?_
  refine lv_iconst (v := 0) hx hb dX14_classes_19 (by decide) ?_
  have go_ := g
  refine g_put (C := RX14) (T := TX14) (N := 67) hx hb hts (mc_ inX14) tyX14 tyX14_ok nmX14 hown hK g ma0_ ka0_ (by decide) rfl 10 (by decide) (hts _ (List.mem_cons_of_mem _ t_2156)) (fun _ h9 => h9) rfl rfl (okV_i (bd_sub kb_0 (by decide))) rfl rfl (by decide) (Or.inr (Or.inl (by decide))) (fx' := [(14, 9, a0_, .int 0), (14, 4, a0_, .int 0), (14, 5, a0_, .int x_1), (14, 1, a0_, .ref n_), (14, 2, a0_, .ref q0_)]) rfl dX14_classes_20 (fun f H locs hM_20 g => ?_)
  have hG_21 := isV.frame hM_20 go_.2.2.2.1 mq0_ kq0_ (by decide) (by decide) hG_15
  have hG_22 := FR.frame hM_20 go_.2.2.2.1 mq0_ kq0_ (by decide) (by decide) hG_16
  have hG_23 := rOK.frame hM_20 go_.2.2.2.1 ma0_ ka0_ (by decide) (by decide) hG_18
  have hG_24 := oOK.frame hM_20 go_.2.2.2.1 ma0_ ka0_ (by decide) (by decide) hG_19
  refine lv_aload_n hx hb dX14_classes_23 rfl (lv_at hl 0 rfl) ?_
  refine lv_iconst (v := 0) hx hb dX14_classes_24 (by decide) ?_
  have go_ := g
  refine g_put (C := RX14) (T := TX14) (N := 67) hx hb hts (mc_ inX14) tyX14 tyX14_ok nmX14 hown hK g ma0_ ka0_ (by decide) rfl 14 (by decide) (hts _ (List.mem_cons_of_mem _ t_2160)) (fun _ h9 => h9) rfl rfl (okV_i (bd_sub kb_0 (by decide))) rfl rfl (by decide) (Or.inr (Or.inl (by decide))) (fx' := [(14, 10, a0_, .int 0), (14, 9, a0_, .int 0), (14, 4, a0_, .int 0), (14, 5, a0_, .int x_1), (14, 1, a0_, .ref n_), (14, 2, a0_, .ref q0_)]) rfl dX14_classes_25 (fun f H locs hM_25 g => ?_)
  have hG_26 := isV.frame hM_25 go_.2.2.2.1 mq0_ kq0_ (by decide) (by decide) hG_21
  have hG_27 := FR.frame hM_25 go_.2.2.2.1 mq0_ kq0_ (by decide) (by decide) hG_22
  have hG_28 := rOK.frame hM_25 go_.2.2.2.1 ma0_ ka0_ (by decide) (by decide) hG_23
  have hG_29 := oOK.frame hM_25 go_.2.2.2.1 ma0_ ka0_ (by decide) (by decide) hG_24
  refine lv_aload_n hx hb dX14_classes_28 rfl (lv_at hl 0 rfl) ?_
  refine lv_iconst (v := (-1)) hx hb dX14_classes_29 (by decide) ?_
  have kb_m1 : bd (-1) (-1) ((-1) : Int32) := ⟨by decide, by decide⟩
  have go_ := g
  refine g_put (C := RX14) (T := TX14) (N := 67) hx hb hts (mc_ inX14) tyX14 tyX14_ok nmX14 hown hK g ma0_ ka0_ (by decide) rfl 15 (by decide) (hts _ (List.mem_cons_of_mem _ t_2161)) (fun _ h9 => h9) rfl rfl (okV_i (bd_sub kb_m1 (by decide))) rfl rfl (by decide) (Or.inr (Or.inl (by decide))) (fx' := [(14, 14, a0_, .int 0), (14, 10, a0_, .int 0), (14, 9, a0_, .int 0), (14, 4, a0_, .int 0), (14, 5, a0_, .int x_1), (14, 1, a0_, .ref n_), (14, 2, a0_, .ref q0_)]) rfl dX14_classes_30 (fun f H locs hM_30 g => ?_)
  have hG_31 := isV.frame hM_30 go_.2.2.2.1 mq0_ kq0_ (by decide) (by decide) hG_26
  have hG_32 := FR.frame hM_30 go_.2.2.2.1 mq0_ kq0_ (by decide) (by decide) hG_27
  have hG_33 := rOK.frame hM_30 go_.2.2.2.1 ma0_ ka0_ (by decide) (by decide) hG_28
  have hG_34 := oOK.frame hM_30 go_.2.2.2.1 ma0_ ka0_ (by decide) (by decide) hG_29
  refine lv_aload_n hx hb dX14_classes_33 rfl (lv_at hl 0 rfl) ?_
  refine g_getk (C := RX14) (T := TX14) (N := 67) hx hb hts (mc_ inX14) hown hK g rfl 2 (by decide) rfl (hts _ (List.mem_cons_of_mem _ t_2148)) (fun _ h9 => h9) 7 rfl dX14_classes_34 ?_
  refine lv_iconst (v := 0) hx hb dX14_classes_37 (by decide) ?_
  have gp_35 := g
  have go_ := g
  refine g_putX (C := RX12) (T := TX12) (N := 60) hx hb hts (mc_ inX12) tyX12 tyX12_ok nmX12 hown hK g mq0_ kq0_ (by decide) rfl 0 (by decide) (hts _ (List.mem_cons_of_mem _ t_1906)) (fun _ h9 => h9) rfl rfl (okV_i (bd_sub kb_0 (by decide))) rfl rfl (by decide) (Or.inr (Or.inl (by decide))) (fx' := [(14, 15, a0_, .int (-1)), (14, 14, a0_, .int 0), (14, 10, a0_, .int 0), (14, 9, a0_, .int 0), (14, 4, a0_, .int 0), (14, 5, a0_, .int x_1), (14, 1, a0_, .ref n_), (14, 2, a0_, .ref q0_)]) rfl dX14_classes_38 (fun f H locs hM_36 u_39 g => ?_)
  have hG_37 := rOK.frame hM_36 go_.2.2.2.1 ma0_ ka0_ (by decide) (by decide) hG_33
  have hG_38 := oOK.frame hM_36 go_.2.2.2.1 ma0_ ka0_ (by decide) (by decide) hG_34
  have hV_40 := isV.un hG_31 gp_35.2.2.2.1 mq0_ kq0_ rfl u_39
  have hF_41 := FR.fld hG_32 u_39
  refine lv_aload_n hx hb dX14_classes_41 rfl (lv_at hl 0 rfl) ?_
  refine g_getk (C := RX14) (T := TX14) (N := 67) hx hb hts (mc_ inX14) hown hK g rfl 2 (by decide) rfl (hts _ (List.mem_cons_of_mem _ t_2148)) (fun _ h9 => h9) 8 rfl dX14_classes_42 ?_
  refine lv_iconst (v := 0) hx hb dX14_classes_45 (by decide) ?_
  have gp_42 := g
  have go_ := g
  refine g_putX (C := RX12) (T := TX12) (N := 60) hx hb hts (mc_ inX12) tyX12 tyX12_ok nmX12 hown hK g mq0_ kq0_ (by decide) rfl 27 (by decide) (hts _ (List.mem_cons_of_mem _ t_1959)) (fun _ h9 => h9) rfl rfl (okV_i (bd_sub kb_0 (by decide))) rfl rfl (by decide) (Or.inr (Or.inl (by decide))) (fx' := [(12, 0, q0_, .int 0), (14, 15, a0_, .int (-1)), (14, 14, a0_, .int 0), (14, 10, a0_, .int 0), (14, 9, a0_, .int 0), (14, 4, a0_, .int 0), (14, 5, a0_, .int x_1), (14, 1, a0_, .ref n_), (14, 2, a0_, .ref q0_)]) rfl dX14_classes_46 (fun f H locs hM_43 u_46 g => ?_)
  have hG_44 := rOK.frame hM_43 go_.2.2.2.1 ma0_ ka0_ (by decide) (by decide) hG_37
  have hG_45 := oOK.frame hM_43 go_.2.2.2.1 ma0_ ka0_ (by decide) (by decide) hG_38
  have hV_47 := isV.un hV_40 gp_42.2.2.2.1 mq0_ kq0_ rfl u_46
  have hF_48 := FR.fld hF_41 u_46
  refine lv_aload_n hx hb dX14_classes_49 rfl (lv_at hl 0 rfl) ?_
  refine g_getk (C := RX14) (T := TX14) (N := 67) hx hb hts (mc_ inX14) hown hK g rfl 2 (by decide) rfl (hts _ (List.mem_cons_of_mem _ t_2148)) (fun _ h9 => h9) 9 rfl dX14_classes_50 ?_
  refine lv_iconst (v := 0) hx hb dX14_classes_53 (by decide) ?_
  have gp_49 := g
  have go_ := g
  refine g_putX (C := RX12) (T := TX12) (N := 60) hx hb hts (mc_ inX12) tyX12 tyX12_ok nmX12 hown hK g mq0_ kq0_ (by decide) rfl 46 (by decide) (hts _ (List.mem_cons_of_mem _ t_1996)) (fun _ h9 => h9) rfl rfl (okV_i (bd_sub kb_0 (by decide))) rfl rfl (by decide) (Or.inr (Or.inl (by decide))) (fx' := [(12, 27, q0_, .int 0), (12, 0, q0_, .int 0), (14, 15, a0_, .int (-1)), (14, 14, a0_, .int 0), (14, 10, a0_, .int 0), (14, 9, a0_, .int 0), (14, 4, a0_, .int 0), (14, 5, a0_, .int x_1), (14, 1, a0_, .ref n_), (14, 2, a0_, .ref q0_)]) rfl dX14_classes_54 (fun f H locs hM_50 u_53 g => ?_)
  have hG_51 := rOK.frame hM_50 go_.2.2.2.1 ma0_ ka0_ (by decide) (by decide) hG_44
  have hG_52 := oOK.frame hM_50 go_.2.2.2.1 ma0_ ka0_ (by decide) (by decide) hG_45
  have hV_54 := isV.un hV_47 gp_49.2.2.2.1 mq0_ kq0_ rfl u_53
  have hF_55 := FR.fld hF_48 u_53
  refine lv_aload_n hx hb dX14_classes_57 rfl (lv_at hl 0 rfl) ?_
  refine g_getk (C := RX14) (T := TX14) (N := 67) hx hb hts (mc_ inX14) hown hK g rfl 2 (by decide) rfl (hts _ (List.mem_cons_of_mem _ t_2148)) (fun _ h9 => h9) 10 rfl dX14_classes_58 ?_
  refine lv_iconst (v := 0) hx hb dX14_classes_61 (by decide) ?_
  have gp_56 := g
  have go_ := g
  refine g_putX (C := RX12) (T := TX12) (N := 60) hx hb hts (mc_ inX12) tyX12 tyX12_ok nmX12 hown hK g mq0_ kq0_ (by decide) rfl 57 (by decide) (hts _ (List.mem_cons_of_mem _ t_2017)) (fun _ h9 => h9) rfl rfl (okV_i (bd_sub kb_0 (by decide))) rfl rfl (by decide) (Or.inr (Or.inl (by decide))) (fx' := [(12, 46, q0_, .int 0), (12, 27, q0_, .int 0), (12, 0, q0_, .int 0), (14, 15, a0_, .int (-1)), (14, 14, a0_, .int 0), (14, 10, a0_, .int 0), (14, 9, a0_, .int 0), (14, 4, a0_, .int 0), (14, 5, a0_, .int x_1), (14, 1, a0_, .ref n_), (14, 2, a0_, .ref q0_)]) rfl dX14_classes_62 (fun f H locs hM_57 u_60 g => ?_)
  have hG_58 := rOK.frame hM_57 go_.2.2.2.1 ma0_ ka0_ (by decide) (by decide) hG_51
  have hG_59 := oOK.frame hM_57 go_.2.2.2.1 ma0_ ka0_ (by decide) (by decide) hG_52
  have hV_61 := isV.un hV_54 gp_56.2.2.2.1 mq0_ kq0_ rfl u_60
  have hF_62 := FR.fld hF_55 u_60
  refine lv_aload_n hx hb dX14_classes_65 rfl (lv_at hl 0 rfl) ?_
  refine g_getk (C := RX14) (T := TX14) (N := 67) hx hb hts (mc_ inX14) hown hK g rfl 2 (by decide) rfl (hts _ (List.mem_cons_of_mem _ t_2148)) (fun _ h9 => h9) 11 rfl dX14_classes_66 ?_
  refine lv_iconst (v := 0) hx hb dX14_classes_69 (by decide) ?_
  have gp_63 := g
  have go_ := g
  refine g_putX (C := RX12) (T := TX12) (N := 60) hx hb hts (mc_ inX12) tyX12 tyX12_ok nmX12 hown hK g mq0_ kq0_ (by decide) rfl 58 (by decide) (hts _ (List.mem_cons_of_mem _ t_2018)) (fun _ h9 => h9) rfl rfl (okV_i (bd_sub kb_0 (by decide))) rfl rfl (by decide) (Or.inr (Or.inl (by decide))) (fx' := [(12, 57, q0_, .int 0), (12, 46, q0_, .int 0), (12, 27, q0_, .int 0), (12, 0, q0_, .int 0), (14, 15, a0_, .int (-1)), (14, 14, a0_, .int 0), (14, 10, a0_, .int 0), (14, 9, a0_, .int 0), (14, 4, a0_, .int 0), (14, 5, a0_, .int x_1), (14, 1, a0_, .ref n_), (14, 2, a0_, .ref q0_)]) rfl dX14_classes_70 (fun f H locs hM_64 u_67 g => ?_)
  have hG_65 := rOK.frame hM_64 go_.2.2.2.1 ma0_ ka0_ (by decide) (by decide) hG_58
  have hG_66 := oOK.frame hM_64 go_.2.2.2.1 ma0_ ka0_ (by decide) (by decide) hG_59
  have hV_68 := isV.u58 hV_61 gp_63.2.2.2.1 mq0_ kq0_ u_67
  have hF_69 := FR.fld hF_62 u_67
  refine lv_aload_n hx hb dX14_classes_73 rfl (lv_at hl 0 rfl) ?_
  refine lv_iconst (v := 0) hx hb dX14_classes_74 (by decide) ?_
  have go_ := g
  refine g_put (C := RX14) (T := TX14) (N := 67) hx hb hts (mc_ inX14) tyX14 tyX14_ok nmX14 hown hK g ma0_ ka0_ (by decide) rfl 20 (by decide) (hts _ (List.mem_cons_of_mem _ t_2166)) (fun _ h9 => h9) rfl rfl (okV_i (bd_sub kb_0 (by decide))) rfl rfl (by decide) (Or.inr (Or.inl (by decide))) (fx' := [(12, 58, q0_, .int 0), (12, 57, q0_, .int 0), (12, 46, q0_, .int 0), (12, 27, q0_, .int 0), (12, 0, q0_, .int 0), (14, 15, a0_, .int (-1)), (14, 14, a0_, .int 0), (14, 10, a0_, .int 0), (14, 9, a0_, .int 0), (14, 4, a0_, .int 0), (14, 5, a0_, .int x_1), (14, 1, a0_, .ref n_), (14, 2, a0_, .ref q0_)]) rfl dX14_classes_75 (fun f H locs hM_70 g => ?_)
  have hG_71 := rOK.frame hM_70 go_.2.2.2.1 ma0_ ka0_ (by decide) (by decide) hG_65
  have hG_72 := oOK.frame hM_70 go_.2.2.2.1 ma0_ ka0_ (by decide) (by decide) hG_66
  have hG_73 := isV.frame hM_70 go_.2.2.2.1 mq0_ kq0_ (by decide) (by decide) hV_68
  have hG_74 := FR.frame hM_70 go_.2.2.2.1 mq0_ kq0_ (by decide) (by decide) hF_69
  refine lv_aload_n hx hb dX14_classes_78 rfl (lv_at hl 0 rfl) ?_
  refine lv_iconst (v := 0) hx hb dX14_classes_79 (by decide) ?_
  have go_ := g
  refine g_put (C := RX14) (T := TX14) (N := 67) hx hb hts (mc_ inX14) tyX14 tyX14_ok nmX14 hown hK g ma0_ ka0_ (by decide) rfl 21 (by decide) (hts _ (List.mem_cons_of_mem _ t_2167)) (fun _ h9 => h9) rfl rfl (okV_i (bd_sub kb_0 (by decide))) rfl rfl (by decide) (Or.inr (Or.inl (by decide))) (fx' := [(14, 20, a0_, .int 0), (12, 58, q0_, .int 0), (12, 57, q0_, .int 0), (12, 46, q0_, .int 0), (12, 27, q0_, .int 0), (12, 0, q0_, .int 0), (14, 15, a0_, .int (-1)), (14, 14, a0_, .int 0), (14, 10, a0_, .int 0), (14, 9, a0_, .int 0), (14, 4, a0_, .int 0), (14, 5, a0_, .int x_1), (14, 1, a0_, .ref n_), (14, 2, a0_, .ref q0_)]) rfl dX14_classes_80 (fun f H locs hM_75 g => ?_)
  have hG_76 := rOK.frame hM_75 go_.2.2.2.1 ma0_ ka0_ (by decide) (by decide) hG_71
  have hG_77 := oOK.frame hM_75 go_.2.2.2.1 ma0_ ka0_ (by decide) (by decide) hG_72
  have hG_78 := isV.frame hM_75 go_.2.2.2.1 mq0_ kq0_ (by decide) (by decide) hG_73
  have hG_79 := FR.frame hM_75 go_.2.2.2.1 mq0_ kq0_ (by decide) (by decide) hG_74
  refine lv_aload_n hx hb dX14_classes_83 rfl (lv_at hl 0 rfl) ?_
  refine lv_iconst (v := 0) hx hb dX14_classes_84 (by decide) ?_
  have go_ := g
  refine g_put (C := RX14) (T := TX14) (N := 67) hx hb hts (mc_ inX14) tyX14 tyX14_ok nmX14 hown hK g ma0_ ka0_ (by decide) rfl 22 (by decide) (hts _ (List.mem_cons_of_mem _ t_2168)) (fun _ h9 => h9) rfl rfl (okV_i (bd_sub kb_0 (by decide))) rfl rfl (by decide) (Or.inr (Or.inl (by decide))) (fx' := [(14, 21, a0_, .int 0), (14, 20, a0_, .int 0), (12, 58, q0_, .int 0), (12, 57, q0_, .int 0), (12, 46, q0_, .int 0), (12, 27, q0_, .int 0), (12, 0, q0_, .int 0), (14, 15, a0_, .int (-1)), (14, 14, a0_, .int 0), (14, 10, a0_, .int 0), (14, 9, a0_, .int 0), (14, 4, a0_, .int 0), (14, 5, a0_, .int x_1), (14, 1, a0_, .ref n_), (14, 2, a0_, .ref q0_)]) rfl dX14_classes_85 (fun f H locs hM_80 g => ?_)
  have hG_81 := rOK.frame hM_80 go_.2.2.2.1 ma0_ ka0_ (by decide) (by decide) hG_76
  have hG_82 := oOK.frame hM_80 go_.2.2.2.1 ma0_ ka0_ (by decide) (by decide) hG_77
  have hG_83 := isV.frame hM_80 go_.2.2.2.1 mq0_ kq0_ (by decide) (by decide) hG_78
  have hG_84 := FR.frame hM_80 go_.2.2.2.1 mq0_ kq0_ (by decide) (by decide) hG_79
  refine lv_aload_n hx hb dX14_classes_88 rfl (lv_at hl 0 rfl) ?_
  refine lv_iconst (v := 0) hx hb dX14_classes_89 (by decide) ?_
  have go_ := g
  refine g_put (C := RX14) (T := TX14) (N := 67) hx hb hts (mc_ inX14) tyX14 tyX14_ok nmX14 hown hK g ma0_ ka0_ (by decide) rfl 23 (by decide) (hts _ (List.mem_cons_of_mem _ t_2169)) (fun _ h9 => h9) rfl rfl (okV_i (bd_sub kb_0 (by decide))) rfl rfl (by decide) (Or.inr (Or.inl (by decide))) (fx' := [(14, 22, a0_, .int 0), (14, 21, a0_, .int 0), (14, 20, a0_, .int 0), (12, 58, q0_, .int 0), (12, 57, q0_, .int 0), (12, 46, q0_, .int 0), (12, 27, q0_, .int 0), (12, 0, q0_, .int 0), (14, 15, a0_, .int (-1)), (14, 14, a0_, .int 0), (14, 10, a0_, .int 0), (14, 9, a0_, .int 0), (14, 4, a0_, .int 0), (14, 5, a0_, .int x_1), (14, 1, a0_, .ref n_), (14, 2, a0_, .ref q0_)]) rfl dX14_classes_90 (fun f H locs hM_85 g => ?_)
  have hG_86 := rOK.frame hM_85 go_.2.2.2.1 ma0_ ka0_ (by decide) (by decide) hG_81
  have hG_87 := oOK.frame hM_85 go_.2.2.2.1 ma0_ ka0_ (by decide) (by decide) hG_82
  have hG_88 := isV.frame hM_85 go_.2.2.2.1 mq0_ kq0_ (by decide) (by decide) hG_83
  have hG_89 := FR.frame hM_85 go_.2.2.2.1 mq0_ kq0_ (by decide) (by decide) hG_84
  refine lv_aload_n hx hb dX14_classes_93 rfl (lv_at hl 0 rfl) ?_
  refine lv_iconst (v := 0) hx hb dX14_classes_94 (by decide) ?_
  have go_ := g
  refine g_put (C := RX14) (T := TX14) (N := 67) hx hb hts (mc_ inX14) tyX14 tyX14_ok nmX14 hown hK g ma0_ ka0_ (by decide) rfl 24 (by decide) (hts _ (List.mem_cons_of_mem _ t_2170)) (fun _ h9 => h9) rfl rfl (okV_i (bd_sub kb_0 (by decide))) rfl rfl (by decide) (Or.inr (Or.inl (by decide))) (fx' := [(14, 23, a0_, .int 0), (14, 22, a0_, .int 0), (14, 21, a0_, .int 0), (14, 20, a0_, .int 0), (12, 58, q0_, .int 0), (12, 57, q0_, .int 0), (12, 46, q0_, .int 0), (12, 27, q0_, .int 0), (12, 0, q0_, .int 0), (14, 15, a0_, .int (-1)), (14, 14, a0_, .int 0), (14, 10, a0_, .int 0), (14, 9, a0_, .int 0), (14, 4, a0_, .int 0), (14, 5, a0_, .int x_1), (14, 1, a0_, .ref n_), (14, 2, a0_, .ref q0_)]) rfl dX14_classes_95 (fun f H locs hM_90 g => ?_)
  have hG_91 := rOK.frame hM_90 go_.2.2.2.1 ma0_ ka0_ (by decide) (by decide) hG_86
  have hG_92 := oOK.frame hM_90 go_.2.2.2.1 ma0_ ka0_ (by decide) (by decide) hG_87
  have hG_93 := isV.frame hM_90 go_.2.2.2.1 mq0_ kq0_ (by decide) (by decide) hG_88
  have hG_94 := FR.frame hM_90 go_.2.2.2.1 mq0_ kq0_ (by decide) (by decide) hG_89
  refine lv_aload_n hx hb dX14_classes_98 rfl (lv_at hl 0 rfl) ?_
  refine lv_iconst (v := 0) hx hb dX14_classes_99 (by decide) ?_
  have go_ := g
  refine g_put (C := RX14) (T := TX14) (N := 67) hx hb hts (mc_ inX14) tyX14 tyX14_ok nmX14 hown hK g ma0_ ka0_ (by decide) rfl 25 (by decide) (hts _ (List.mem_cons_of_mem _ t_2171)) (fun _ h9 => h9) rfl rfl (okV_i (bd_sub kb_0 (by decide))) rfl rfl (by decide) (Or.inr (Or.inl (by decide))) (fx' := [(14, 24, a0_, .int 0), (14, 23, a0_, .int 0), (14, 22, a0_, .int 0), (14, 21, a0_, .int 0), (14, 20, a0_, .int 0), (12, 58, q0_, .int 0), (12, 57, q0_, .int 0), (12, 46, q0_, .int 0), (12, 27, q0_, .int 0), (12, 0, q0_, .int 0), (14, 15, a0_, .int (-1)), (14, 14, a0_, .int 0), (14, 10, a0_, .int 0), (14, 9, a0_, .int 0), (14, 4, a0_, .int 0), (14, 5, a0_, .int x_1), (14, 1, a0_, .ref n_), (14, 2, a0_, .ref q0_)]) rfl dX14_classes_100 (fun f H locs hM_95 g => ?_)
  have hG_96 := rOK.frame hM_95 go_.2.2.2.1 ma0_ ka0_ (by decide) (by decide) hG_91
  have hG_97 := oOK.frame hM_95 go_.2.2.2.1 ma0_ ka0_ (by decide) (by decide) hG_92
  have hG_98 := isV.frame hM_95 go_.2.2.2.1 mq0_ kq0_ (by decide) (by decide) hG_93
  have hG_99 := FR.frame hM_95 go_.2.2.2.1 mq0_ kq0_ (by decide) (by decide) hG_94
  refine lv_aload_n hx hb dX14_classes_103 rfl (lv_at hl 0 rfl) ?_
  refine lv_iconst (v := 0) hx hb dX14_classes_104 (by decide) ?_
  have go_ := g
  refine g_put (C := RX14) (T := TX14) (N := 67) hx hb hts (mc_ inX14) tyX14 tyX14_ok nmX14 hown hK g ma0_ ka0_ (by decide) rfl 26 (by decide) (hts _ (List.mem_cons_of_mem _ t_2172)) (fun _ h9 => h9) rfl rfl (okV_i (bd_sub kb_0 (by decide))) rfl rfl (by decide) (Or.inr (Or.inl (by decide))) (fx' := [(14, 25, a0_, .int 0), (14, 24, a0_, .int 0), (14, 23, a0_, .int 0), (14, 22, a0_, .int 0), (14, 21, a0_, .int 0), (14, 20, a0_, .int 0), (12, 58, q0_, .int 0), (12, 57, q0_, .int 0), (12, 46, q0_, .int 0), (12, 27, q0_, .int 0), (12, 0, q0_, .int 0), (14, 15, a0_, .int (-1)), (14, 14, a0_, .int 0), (14, 10, a0_, .int 0), (14, 9, a0_, .int 0), (14, 4, a0_, .int 0), (14, 5, a0_, .int x_1), (14, 1, a0_, .ref n_), (14, 2, a0_, .ref q0_)]) rfl dX14_classes_105 (fun f H locs hM_100 g => ?_)
  have hG_101 := rOK.frame hM_100 go_.2.2.2.1 ma0_ ka0_ (by decide) (by decide) hG_96
  have hG_102 := oOK.frame hM_100 go_.2.2.2.1 ma0_ ka0_ (by decide) (by decide) hG_97
  have hG_103 := isV.frame hM_100 go_.2.2.2.1 mq0_ kq0_ (by decide) (by decide) hG_98
  have hG_104 := FR.frame hM_100 go_.2.2.2.1 mq0_ kq0_ (by decide) (by decide) hG_99
  refine lv_aload_n hx hb dX14_classes_108 rfl (lv_at hl 0 rfl) ?_
  have hC_105 : cEq f a0_ (cF f a0_) := rfl
  have htk : tk f a0_ = 0 := by unfold tk; rw [show fV f a0_ 10 = .int 0 from (fx_at g (i := 14) rfl).2.2.2]; decide
  have hz_1 : (((((V_.un 0 (0 : Int32)).un 27 (0 : Int32)).un 46 (0 : Int32)).un 57 (0 : Int32)).n 0).toInt = 0 ∧ (((((V_.un 0 (0 : Int32)).un 27 (0 : Int32)).un 46 (0 : Int32)).un 57 (0 : Int32)).n 27).toInt = 0 ∧ (((((V_.un 0 (0 : Int32)).un 27 (0 : Int32)).un 46 (0 : Int32)).un 57 (0 : Int32)).n 46).toInt = 0 ∧ (((((V_.un 0 (0 : Int32)).un 27 (0 : Int32)).un 46 (0 : Int32)).un 57 (0 : Int32)).n 57).toInt = 0 := ⟨(show (0 : Int32).toInt = 0 by decide), (show (0 : Int32).toInt = 0 by decide), (show (0 : Int32).toInt = 0 by decide), (show (0 : Int32).toInt = 0 by decide)⟩
  have hkc_106 : KC ((((V_.un 0 (0 : Int32)).un 27 (0 : Int32)).un 46 (0 : Int32)).un 57 (0 : Int32)) (fun _ => 0) (((((V_.un 0 (0 : Int32)).un 27 (0 : Int32)).un 46 (0 : Int32)).un 57 (0 : Int32)).n 0).toNatClampNeg := (KC.zero hz_1.1 hz_1.2.1 hz_1.2.2.1 hz_1.2.2.2).cn
  have hM_107 : mN f q0_ (((((V_.un 0 (0 : Int32)).un 27 (0 : Int32)).un 46 (0 : Int32)).un 57 (0 : Int32)).n 0).toNatClampNeg := mN.zero
  have go_ := g
  refine g_callv (va_runV (As := []) (rest := []) ⟨hx, hb, hml, hown, hts⟩ (r_X14_scan_2 l dC dI L kd tys f H.size g.2.2.2.1 adK adV a0_ ma0_ ka0_ (0 : Int32) (bd_sub kb_0 (by decide)) (g.fcts [14] rfl)) (cwV 0 hts (gV_ t_2360 t_2362 t_92 t_198 t_2363) rfl rfl rfl (by decide +kernel) ⟨(Nat.le_of_ble_eq_true rfl), (Nat.le_of_ble_eq_true rfl)⟩) (pre3VA g hK hAm ma0_ ka0_ (by decide) (q := (RX14, TX14, 67)) rfl) rfl rfl hl.1 rfl (lv_room (Nat.le_of_ble_eq_true rfl)) dX14_classes_109 (cl_f hck_0)) g hK (by decide) (by decide) (fx' := [(14, 26, a0_, .int 0), (14, 25, a0_, .int 0), (14, 24, a0_, .int 0), (14, 23, a0_, .int 0), (14, 22, a0_, .int 0), (14, 21, a0_, .int 0), (14, 20, a0_, .int 0), (12, 58, q0_, .int 0), (12, 57, q0_, .int 0), (12, 46, q0_, .int 0), (12, 27, q0_, .int 0), (12, 0, q0_, .int 0), (14, 15, a0_, .int (-1)), (14, 14, a0_, .int 0), (14, 4, a0_, .int 0), (14, 5, a0_, .int x_1), (14, 1, a0_, .ref n_), (14, 2, a0_, .ref q0_)]) rfl (fun fr_108 H locs hp hMr_108 g => ?_)
  obtain ⟨hx_109, x_110, ⟨h_111, rh_111⟩, hF_112⟩ := hp
  have hG_113 := rOK.frame hMr_108 go_.2.2.2.1 ma0_ ka0_ (by decide) (by decide) hG_101
  have hG_114 := oOK.frame hMr_108 go_.2.2.2.1 ma0_ ka0_ (by decide) (by decide) hG_102
  have hG_115 := isV.frame hMr_108 go_.2.2.2.1 mq0_ kq0_ (by decide) (by decide) hG_103
  have hG_116 := FR.frame hMr_108 go_.2.2.2.1 mq0_ kq0_ (by decide) (by decide) hG_104
  have hG_117 := mN.frame hMr_108 go_.2.2.2.1 mq0_ kq0_ (by decide) (by decide) hM_107
  obtain ⟨E_118, hE_118⟩ : ∃ E : Int, cEq fr_108 a0_ E := ⟨_, rfl⟩
  have mxE_118 : E_118 ≤ 1202 := by have h9 := cF_le g ma0_ ka0_; have h8 : cF _ _ = _ := hE_118; omega
  have lE_118 : (cF f a0_) ≤ E_118 := by have h9 := hx_109; have h8 : cF _ _ = _ := hE_118; have h7 : cF _ _ = _ := hC_105; have h6 := sE_bd (f := f) (t := a0_); have h5 := tk_c (f := f) (t := a0_); omega
  have g := g.more hF_112
  have loop_119 : ∀ (n : Nat) (w112_14_10_a0_ : Int32), bd 0 1202 w112_14_10_a0_ → ((n : Int) - 1 < (n : Int)) → ∀ (f : Nat → va_E) (H : Heap) (locs : List Loc) (ls : Array Slot) (cl112 : Nat), G3 (dC, dI) L kd tys s f0 [(12, 0), (12, 27), (12, 46), (12, 57), (12, 58), (14, 1), (14, 2), (14, 4), (14, 5), (14, 6), (14, 7), (14, 8), (14, 9), (14, 10), (14, 11), (14, 12), (14, 13), (14, 14), (14, 15), (14, 16), (14, 17), (14, 20), (14, 21), (14, 22), (14, 23), (14, 24), (14, 25), (14, 26), (14, 30), (14, 39), (14, 40), (14, 51), (14, 52), (14, 55), (14, 58), (14, 59)] [157, 158, 159, 160, 161, 162, 163, 164, 165, 166, 167, 168, 169, 170, 171, 172, 173, 174, 175, 176, 177, 178, 179, 180, 181, 182, 183, 184, 185, 186, 187, 188, 189, 190, 191, 192, 193, 194, 195, 196, 197, 198, 199, 200, 201, 202, 203, 204, 205, 206, 207, 208, 209, 210, 211, 213, 214, 228, 229] f H locs [(14, 10, a0_, .int w112_14_10_a0_), (14, 25, a0_, .int 0), (14, 4, a0_, .int 0), (14, 5, a0_, .int x_1), (14, 1, a0_, .ref n_), (14, 2, a0_, .ref q0_)] → (∃ (V1 : PV) (D1 : Nat → Nat) (E1 : Int), isV f q0_ V1 ∧ FR L kd f0 f q0_ ∧ cEq f a0_ E1 ∧ KC V1 D1 (V1.n 0).toNatClampNeg ∧ mN f q0_ (V1.n 0).toNatClampNeg ∧ rOK f a0_ W_ ∧ oOK f a0_ W_ ∧ (V1.n 57).toInt ≤ E1 ∧ 2 * (V1.n 46).toInt ≤ E1 ∧ 2 * (cl112 : Int) ≤ E1 ∧ 0 ≤ E1 ∧ E1 ≤ 1202 ∧ cl112 ≤ K_ ∧ w112_14_10_a0_.toInt ≤ 1201 ∧ 1202 - E1 < (n : Int)) → lv_has ls 2 [(0, .ref a0_)] → W p l e ({ frames := 516, cells := K_, slots := 3 * K_, locals := 29768 } : Room) s m [.ref a0_].toArray below meth c H locs cl112 (3 * cl112) Q (F0 m 112 ls []) := by
    intro n112
    induction n112 with
    | zero =>
      intro w112_14_10_a0_ bw112_14_10_a0_ hm112 f H locs ls cl112 g  ⟨V112, D112, E112, hV112, hF112, hC112, hkc112, hmm112, hw112, ho112, hn112, hs112, hk112, hc112, mx112, hck112, ht112, hms112⟩ hl
      exact absurd hms112 (by omega)
    | succ n112 ih112 =>
      intro w112_14_10_a0_ bw112_14_10_a0_ hm112 f H locs ls cl112 g  ⟨V112, D112, E112, hV112, hF112, hC112, hkc112, hmm112, hw112, ho112, hn112, hs112, hk112, hc112, mx112, hck112, ht112, hms112⟩ hl
      refine lv_aload_n hx hb dX14_classes_112 rfl (lv_at hl 0 rfl) ?_
      have b_120 : bd 0 1201 w112_14_10_a0_ := ⟨bw112_14_10_a0_.1, ht112⟩
      have qc__121 : cF f a0_ = _ := hC112
      have qc__122 : cF f a0_ = _ := hC112
      have go_ := g
      refine g_callZv (As := []) (rest := []) ⟨hx, hb, hml, hown, hts⟩ (r_X14_readClass l dC dI L kd tys f H.size g.2.2.2.1 adK adV a0_ ma0_ ka0_ q0_ mq0_ kq0_ V112 D112 (0 : Int32) (bd_sub kb_0 (by decide)) w112_14_10_a0_ b_120 hV112 hkc112 hmm112 (by omega) (by omega) (isV.nrg hV112 g mq0_ kq0_ (j := 46) (by decide) rfl).1 (K_ - cl112) (by omega) (g.fcts [5, 1, 0] rfl)) (cwV 0 hts (gV_ t_2391 t_2393 t_97 t_198 t_2394) rfl rfl rfl (by decide +kernel) ⟨(Nat.le_of_ble_eq_true rfl), (Nat.le_of_ble_eq_true rfl)⟩) (pre3VA g hK hAm ma0_ ka0_ (by decide) (q := (RX14, TX14, 67)) rfl) rfl hl.1 rfl (lv_room (Nat.le_of_ble_eq_true rfl)) dX14_classes_113 (cl_k (K := K_) (k := K_ - cl112) (show cl112 + (K_ - cl112) ≤ K_ by omega)) g hK (by decide) (by decide) (fx' := [(14, 4, a0_, .int 0), (14, 5, a0_, .int x_1), (14, 1, a0_, .ref n_), (14, 2, a0_, .ref q0_)]) rfl (fun xr_123 fr_123 H locs kr_123 cr_123 ecr_123 mxr_123 kxr_123 hp hMr_123 g => ?_) (fun fr_123 H locs kr_123 cr_123 ecr_123 hp hMr_123 g => ?_)
      · have hG_124 := rOK.frame hMr_123 go_.2.2.2.1 ma0_ ka0_ (by decide) (by decide) hw112
        have hG_125 := oOK.frame hMr_123 go_.2.2.2.1 ma0_ ka0_ (by decide) (by decide) ho112
        have hF_126 := FR.call (mds := []) (mas := []) hF112 go_ mq0_ kq0_ rfl hp.1
        have hpk := hp.2
        refine WX.caught (sp := 108) (ep := 124) (hp := 127) (ct := 7) (name := RX13) hown htab (by decide) (by decide) (by decide) (hts _ (List.mem_cons_of_mem _ t_1836)) (g_recv g hK mxr_123 kxr_123 (by decide) rfl) hAm.1.2.2 ?_
        refine lv_astore_n (lv' := [(1, .ref xr_123), (0, .ref a0_)]) hx hb dX14_classes_127 rfl hl (by decide) rfl (fun ls hl => ?_)
        refine lv_iconst (v := (-1)) hx hb dX14_classes_128 (by decide) ?_
        have h9c : cF fr_123 a0_ = _ := rfl
        subst hQ
        exact iretX (v := ((-1) : Int32)) hx hb hr (fun t ht hW => g_retZ g hK ⟨_, rfl, ⟨⟨_, _, Or.inl ⟨FR.isV hF_126 hWT hNa mn_ kn_ kq0_ hNV, hNW, FR.mOK_ hF_126 hWT hNa mn_ kn_ kq0_ hNM, hG_124, hG_125, (apP.call hNa g mn_ kn_ mq0_ kq0_ rfl), (fx_at g (i := 2) rfl).2.2.2, (fx_at g (i := 3) rfl).2.2.2⟩⟩, (by omega), (fx_at g (i := 0) rfl).2.2.2, trivial⟩⟩ ht hW) g.2.2.1.2.2 dX14_classes_129 hlocks
      · obtain ⟨hx_127, x_128, h_129, hF_130⟩ := hp
        have hG_131 := rOK.frame hMr_123 go_.2.2.2.1 ma0_ ka0_ (by decide) (by decide) hw112
        have hG_132 := oOK.frame hMr_123 go_.2.2.2.1 ma0_ ka0_ (by decide) (by decide) ho112
        obtain ⟨V_133, D_134, E_135, hV_136, hF_137, hE_138, hkc_139, hm_140, hn_141, hs_142, hk_143, hc_144⟩ := rdc_use hx_127 hC112
        have hF_145 := FR.call (mds := []) (mas := []) hF112 go_ mq0_ kq0_ rfl hF_137
        have mxE_135 : E_135 ≤ 1202 := by have h9 := cF_le g ma0_ ka0_; have h8 : cF _ _ = _ := hE_138; omega
        have hck_146 : cr_123 ≤ K_ := by omega
        have g := g.more hF_130
        refine lv_aload_n hx hb dX14_classes_116 rfl (lv_at hl 0 rfl) ?_
        refine g_geti (C := RX14) (T := TX14) (N := 67) hx hb hts (mc_ inX14) hown hK g ma0_ ka0_ (by decide) rfl 6 (by decide) rfl (hts _ (List.mem_cons_of_mem _ t_2152)) (fun _ h9 => h9) rfl dX14_classes_117 (fun x_147 bx_147 g => ?_)
        refine lv_iconst (v := 5) hx hb dX14_classes_120 (by decide) ?_
        have kb_5 : bd 5 5 (5 : Int32) := ⟨by decide, by decide⟩
        refine lv_icmp_ne (tgt := 112) hx hb dX14_classes_121 (by decide) (fun c_148 => ?_) (fun c_148 => ?_)
        · have fc_148 := neq_f c_148
          have b_149 : bd 0 4 x_147 := neX fc_148 bx_147 kb_5 (by decide)
          have hl9 := lv_sub hl [0] (by rfl : lv_pick [(0, .ref a0_)] [0] = [(0, .ref a0_)])
          have g9 := g.sub (fx' := [(14, 10, a0_, .int x_128), (14, 25, a0_, .int 0), (14, 4, a0_, .int 0), (14, 5, a0_, .int x_1), (14, 1, a0_, .ref n_), (14, 2, a0_, .ref q0_)]) [2, 1, 3, 4, 5, 6] rfl
          have qc__150 : cF fr_123 a0_ = _ := hE_138
          exact ih112  x_128 (bd_sub h_129 (by decide)) (by have h9_0 := bw112_14_10_a0_; unfold bd at h9_0; have h9_1 := h_129; unfold bd at h9_1; have h9_2 := kb_0; unfold bd at h9_2; have h9_3 := kb_5; unfold bd at h9_3; have h9_4 := kb_m1; unfold bd at h9_4; omega) _ _ _ _ _ g9 ⟨_, _, _, hV_136, hF_145, hE_138, hkc_139, hm_140, hG_131, hG_132, (by omega), (by omega), (by omega), (by omega), (by omega), hck_146, (by have h9_0 := b_120; unfold bd at h9_0; have h9_1 := bx_1; unfold bd at h9_1; have h9_2 := h_111; unfold bd at h9_2; have h9_3 := h_129; unfold bd at h9_3; have h9_4 := b_149; unfold bd at h9_4; have h8_0 := kb_0; unfold bd at h8_0; have h8_1 := kb_5; unfold bd at h8_1; have h8_2 := kb_m1; unfold bd at h8_2; omega), (by omega)⟩ hl9
        · have fc_148 := eq_f c_148
          have b_151 : bd 5 5 x_147 := eqX fc_148 bx_147 kb_5 (by decide)
          refine lv_goto (tgt := 130) hx hb dX14_classes_124 (by decide) ?_
          refine lv_aload_n hx hb dX14_classes_130 rfl (lv_at hl 0 rfl) ?_
          refine g_getk (C := RX14) (T := TX14) (N := 67) hx hb hts (mc_ inX14) hown hK g rfl 1 (by decide) rfl (hts _ (List.mem_cons_of_mem _ t_2147)) (fun _ h9 => h9) 5 rfl dX14_classes_131 ?_
          refine lv_astore_n (lv' := [(1, .ref n_), (0, .ref a0_)]) hx hb dX14_classes_134 rfl hl (by decide) rfl (fun ls hl => ?_)
          refine lv_aload_n hx hb dX14_classes_135 rfl (lv_at hl 1 rfl) ?_
          refine lv_aload_n hx hb dX14_classes_136 rfl (lv_at hl 1 rfl) ?_
          refine g_getk (C := RX14) (T := TX14) (N := 67) hx hb hts (mc_ inX14) hown hK g rfl 2 (by decide) rfl (hts _ (List.mem_cons_of_mem _ t_2148)) (fun _ h9 => h9) 6 rfl dX14_classes_137 ?_
          have go_ := g
          refine g_put (C := RX14) (T := TX14) (N := 67) hx hb hts (mc_ inX14) tyX14 tyX14_ok nmX14 hown hK g ma0_ ka0_ (by decide) rfl 1 (by decide) (hts _ (List.mem_cons_of_mem _ t_2147)) (fun _ h9 => h9) rfl rfl (okV_r mq0_ kq0_ (by decide)) rfl rfl (by decide) (Or.inr (Or.inl (by decide))) (fx' := [(14, 6, a0_, .int x_147), (14, 25, a0_, .int 0), (14, 10, a0_, .int x_128), (14, 4, a0_, .int 0), (14, 5, a0_, .int x_1), (14, 2, a0_, .ref q0_)]) rfl dX14_classes_140 (fun f H locs hM_152 g => ?_)
          have hG_153 := rOK.frame hM_152 go_.2.2.2.1 ma0_ ka0_ (by decide) (by decide) hG_131
          have hG_154 := oOK.frame hM_152 go_.2.2.2.1 ma0_ ka0_ (by decide) (by decide) hG_132
          have hG_155 := isV.frame hM_152 go_.2.2.2.1 mq0_ kq0_ (by decide) (by decide) hV_136
          have hG_156 := FR.frame hM_152 go_.2.2.2.1 mq0_ kq0_ (by decide) (by decide) hF_145
          have hG_157 := cEq.frame hM_152 go_.2.2.2.1 ma0_ ka0_ (by decide) (by decide) hE_138
          have hG_158 := mN.frame hM_152 go_.2.2.2.1 mq0_ kq0_ (by decide) (by decide) hm_140
          refine lv_aload_n hx hb dX14_classes_143 rfl (lv_at hl 1 rfl) ?_
          refine lv_aload_n hx hb dX14_classes_144 rfl (lv_at hl 0 rfl) ?_
          have go_ := g
          refine g_put (C := RX14) (T := TX14) (N := 67) hx hb hts (mc_ inX14) tyX14 tyX14_ok nmX14 hown hK g ma0_ ka0_ (by decide) rfl 2 (by decide) (hts _ (List.mem_cons_of_mem _ t_2148)) (fun _ h9 => h9) rfl rfl (okV_r mn_ kn_ (by decide)) rfl rfl (by decide) (Or.inr (Or.inl (by decide))) (fx' := [(14, 1, a0_, .ref q0_), (14, 6, a0_, .int x_147), (14, 25, a0_, .int 0), (14, 10, a0_, .int x_128), (14, 4, a0_, .int 0), (14, 5, a0_, .int x_1)]) rfl dX14_classes_145 (fun f H locs hM_159 g => ?_)
          have hG_160 := rOK.frame hM_159 go_.2.2.2.1 ma0_ ka0_ (by decide) (by decide) hG_153
          have hG_161 := oOK.frame hM_159 go_.2.2.2.1 ma0_ ka0_ (by decide) (by decide) hG_154
          have hG_162 := isV.frame hM_159 go_.2.2.2.1 mq0_ kq0_ (by decide) (by decide) hG_155
          have hG_163 := FR.frame hM_159 go_.2.2.2.1 mq0_ kq0_ (by decide) (by decide) hG_156
          have hG_164 := cEq.frame hM_159 go_.2.2.2.1 ma0_ ka0_ (by decide) (by decide) hG_157
          have hG_165 := mN.frame hM_159 go_.2.2.2.1 mq0_ kq0_ (by decide) (by decide) hG_158
          refine lv_aload_n hx hb dX14_classes_148 rfl (lv_at hl 1 rfl) ?_
          refine lv_iconst (v := 0) hx hb dX14_classes_149 (by decide) ?_
          obtain ⟨RW_, hW_166, -⟩ := hG_160
          have go_ := g
          refine g_put (C := RX14) (T := TX14) (N := 67) hx hb hts (mc_ inX14) tyX14 tyX14_ok nmX14 hown hK g ma0_ ka0_ (by decide) rfl 51 (by decide) (hts _ (List.mem_cons_of_mem _ t_2197)) (fun _ h9 => h9) rfl rfl (okV_i (bd_sub kb_0 (by decide))) rfl rfl (by decide) (Or.inr (Or.inl (by decide))) (fx' := [(14, 2, a0_, .ref n_), (14, 1, a0_, .ref q0_), (14, 6, a0_, .int x_147), (14, 25, a0_, .int 0), (14, 10, a0_, .int x_128), (14, 4, a0_, .int 0), (14, 5, a0_, .int x_1)]) rfl dX14_classes_150 (fun f H locs hM_167 g => ?_)
          have hG_168 := oOK.frame hM_167 go_.2.2.2.1 ma0_ ka0_ (by decide) (by decide) hG_161
          have hG_169 := isV.frame hM_167 go_.2.2.2.1 mq0_ kq0_ (by decide) (by decide) hG_162
          have hG_170 := FR.frame hM_167 go_.2.2.2.1 mq0_ kq0_ (by decide) (by decide) hG_163
          have hG_171 := cEq.frame hM_167 go_.2.2.2.1 ma0_ ka0_ (by decide) (by decide) hG_164
          have hG_172 := mN.frame hM_167 go_.2.2.2.1 mq0_ kq0_ (by decide) (by decide) hG_165
          have hG_173 := isW.frame hM_167 go_.2.2.2.1 ma0_ ka0_ (by decide) (by decide) hW_166
          refine lv_aload_n hx hb dX14_classes_153 rfl (lv_at hl 1 rfl) ?_
          refine lv_iconst (v := 0) hx hb dX14_classes_154 (by decide) ?_
          have go_ := g
          refine g_put (C := RX14) (T := TX14) (N := 67) hx hb hts (mc_ inX14) tyX14 tyX14_ok nmX14 hown hK g ma0_ ka0_ (by decide) rfl 52 (by decide) (hts _ (List.mem_cons_of_mem _ t_2198)) (fun _ h9 => h9) rfl rfl (okV_i (bd_sub kb_0 (by decide))) rfl rfl (by decide) (Or.inr (Or.inl (by decide))) (fx' := [(14, 51, a0_, .int 0), (14, 2, a0_, .ref n_), (14, 1, a0_, .ref q0_), (14, 6, a0_, .int x_147), (14, 25, a0_, .int 0), (14, 10, a0_, .int x_128), (14, 4, a0_, .int 0), (14, 5, a0_, .int x_1)]) rfl dX14_classes_155 (fun f H locs hM_174 g => ?_)
          have hG_175 := oOK.frame hM_174 go_.2.2.2.1 ma0_ ka0_ (by decide) (by decide) hG_168
          have hG_176 := isV.frame hM_174 go_.2.2.2.1 mq0_ kq0_ (by decide) (by decide) hG_169
          have hG_177 := FR.frame hM_174 go_.2.2.2.1 mq0_ kq0_ (by decide) (by decide) hG_170
          have hG_178 := cEq.frame hM_174 go_.2.2.2.1 ma0_ ka0_ (by decide) (by decide) hG_171
          have hG_179 := mN.frame hM_174 go_.2.2.2.1 mq0_ kq0_ (by decide) (by decide) hG_172
          have hG_180 := isW.frame hM_174 go_.2.2.2.1 ma0_ ka0_ (by decide) (by decide) hG_173
          refine lv_aload_n hx hb dX14_classes_158 rfl (lv_at hl 1 rfl) ?_
          have go_ := g
          refine g_callv (va_runV (As := []) (rest := []) ⟨hx, hb, hml, hown, hts⟩ (r_X14_untold l dC dI L kd tys f H.size g.2.2.2.1 a0_ ma0_ ka0_) (cwV 0 hts (gV_ t_2562 t_2564 t_136 t_198 t_2565) rfl rfl rfl (by decide +kernel) ⟨(Nat.le_of_ble_eq_true rfl), (Nat.le_of_ble_eq_true rfl)⟩) (pre3V g hK ma0_ ka0_ (by decide) (q := (RX14, TX14, 67)) rfl) rfl rfl hl.1 rfl (lv_room (Nat.le_of_ble_eq_true rfl)) dX14_classes_159 (cl_f hck_146)) g hK (by decide) (by decide) (fx' := [(14, 52, a0_, .int 0), (14, 51, a0_, .int 0), (14, 2, a0_, .ref n_), (14, 1, a0_, .ref q0_), (14, 6, a0_, .int x_147), (14, 25, a0_, .int 0), (14, 10, a0_, .int x_128), (14, 4, a0_, .int 0), (14, 5, a0_, .int x_1)]) rfl (fun fr_181 H locs hp hMr_181 g => ?_)
          have hF_182 := hp
          have hG_183 := isV.frame hMr_181 go_.2.2.2.1 mq0_ kq0_ (by decide) (by decide) hG_176
          have hG_184 := FR.frame hMr_181 go_.2.2.2.1 mq0_ kq0_ (by decide) (by decide) hG_177
          have hG_185 := cEq.frame hMr_181 go_.2.2.2.1 ma0_ ka0_ (by decide) (by decide) hG_178
          have hG_186 := mN.frame hMr_181 go_.2.2.2.1 mq0_ kq0_ (by decide) (by decide) hG_179
          have hG_187 := isW.frame hMr_181 go_.2.2.2.1 ma0_ ka0_ (by decide) (by decide) hG_180
          have g := g.more hF_182
          refine lv_aload_n hx hb dX14_classes_162 rfl (lv_at hl 1 rfl) ?_
          refine lv_iconst (v := 0) hx hb dX14_classes_163 (by decide) ?_
          have go_ := g
          refine g_put (C := RX14) (T := TX14) (N := 67) hx hb hts (mc_ inX14) tyX14 tyX14_ok nmX14 hown hK g ma0_ ka0_ (by decide) rfl 58 (by decide) (hts _ (List.mem_cons_of_mem _ t_2204)) (fun _ h9 => h9) rfl rfl (okV_i (bd_sub kb_0 (by decide))) rfl rfl (by decide) (Or.inr (Or.inl (by decide))) (fx' := [(14, 30, a0_, .int 0), (14, 55, a0_, .int 0), (14, 52, a0_, .int 0), (14, 51, a0_, .int 0), (14, 2, a0_, .ref n_), (14, 1, a0_, .ref q0_), (14, 6, a0_, .int x_147), (14, 25, a0_, .int 0), (14, 10, a0_, .int x_128), (14, 4, a0_, .int 0), (14, 5, a0_, .int x_1)]) rfl dX14_classes_164 (fun f H locs hM_188 g => ?_)
          have hG_189 := isV.frame hM_188 go_.2.2.2.1 mq0_ kq0_ (by decide) (by decide) hG_183
          have hG_190 := FR.frame hM_188 go_.2.2.2.1 mq0_ kq0_ (by decide) (by decide) hG_184
          have hG_191 := cEq.frame hM_188 go_.2.2.2.1 ma0_ ka0_ (by decide) (by decide) hG_185
          have hG_192 := mN.frame hM_188 go_.2.2.2.1 mq0_ kq0_ (by decide) (by decide) hG_186
          have hG_193 := isW.frame hM_188 go_.2.2.2.1 ma0_ ka0_ (by decide) (by decide) hG_187
          refine lv_aload_n hx hb dX14_classes_167 rfl (lv_at hl 1 rfl) ?_
          refine lv_iconst (v := 0) hx hb dX14_classes_168 (by decide) ?_
          have go_ := g
          refine g_put (C := RX14) (T := TX14) (N := 67) hx hb hts (mc_ inX14) tyX14 tyX14_ok nmX14 hown hK g ma0_ ka0_ (by decide) rfl 59 (by decide) (hts _ (List.mem_cons_of_mem _ t_2205)) (fun _ h9 => h9) rfl rfl (okV_i (bd_sub kb_0 (by decide))) rfl rfl (by decide) (Or.inr (Or.inl (by decide))) (fx' := [(14, 58, a0_, .int 0), (14, 30, a0_, .int 0), (14, 55, a0_, .int 0), (14, 52, a0_, .int 0), (14, 51, a0_, .int 0), (14, 2, a0_, .ref n_), (14, 1, a0_, .ref q0_), (14, 6, a0_, .int x_147), (14, 25, a0_, .int 0), (14, 10, a0_, .int x_128), (14, 4, a0_, .int 0), (14, 5, a0_, .int x_1)]) rfl dX14_classes_169 (fun f H locs hM_194 g => ?_)
          have hG_195 := isV.frame hM_194 go_.2.2.2.1 mq0_ kq0_ (by decide) (by decide) hG_189
          have hG_196 := FR.frame hM_194 go_.2.2.2.1 mq0_ kq0_ (by decide) (by decide) hG_190
          have hG_197 := cEq.frame hM_194 go_.2.2.2.1 ma0_ ka0_ (by decide) (by decide) hG_191
          have hG_198 := mN.frame hM_194 go_.2.2.2.1 mq0_ kq0_ (by decide) (by decide) hG_192
          have hG_199 := isW.frame hM_194 go_.2.2.2.1 ma0_ ka0_ (by decide) (by decide) hG_193
          refine lv_aload_n hx hb dX14_classes_172 rfl (lv_at hl 1 rfl) ?_
          refine g_getk (C := RX14) (T := TX14) (N := 67) hx hb hts (mc_ inX14) hown hK g rfl 1 (by decide) rfl (hts _ (List.mem_cons_of_mem _ t_2147)) (fun _ h9 => h9) 7 rfl dX14_classes_173 ?_
          refine g_geti (C := RX12) (T := TX12) (N := 60) hx hb hts (mc_ inX12) hown hK g mq0_ kq0_ (by decide) rfl 0 (by decide) rfl (hts _ (List.mem_cons_of_mem _ t_1906)) (fun _ h9 => h9) rfl dX14_classes_176 (fun x_200 bx_200 g => ?_)
          have h9c : cF f a0_ = _ := hG_197
          subst hQ
          exact iretX (v := x_200) hx hb hr (fun t ht hW => g_retZ g hK ⟨_, rfl, ⟨⟨_, _, Or.inr ⟨hG_195, hkc_139.1, mN.ok hG_198, rOK.zero hG_199 g 6 5 rfl rfl, oOK.zero g 3 rfl, (apP.call hNa g mn_ kn_ mq0_ kq0_ rfl).sym, (fx_at g (i := 8) rfl).2.2.2, (fx_at g (i := 7) rfl).2.2.2⟩⟩, (by omega), (fx_at g (i := 12) rfl).2.2.2, trivial⟩⟩ ht hW) g.2.2.1.2.2 dX14_classes_179 hlocks
  have hl9 := lv_sub hl [0] (by rfl : lv_pick [(0, .ref a0_)] [0] = [(0, .ref a0_)])
  have g9 := g.sub (fx' := [(14, 10, a0_, .int x_110), (14, 25, a0_, .int 0), (14, 4, a0_, .int 0), (14, 5, a0_, .int x_1), (14, 1, a0_, .ref n_), (14, 2, a0_, .ref q0_)]) [0, 2, 15, 16, 17, 18] rfl
  have qc__201 : cF fr_108 a0_ = _ := hE_118
  have qm__202 : cF fr_108 a0_ ≤ 1202 := cF_le g ma0_ ka0_
  exact loop_119 (1300) x_110 h_111 (by have h9_0 := h_111; unfold bd at h9_0; have h9_1 := kb_0; unfold bd at h9_1; have h9_2 := kb_m1; unfold bd at h9_2; omega) _ _ _ _ _ g9 ⟨_, _, _, hG_115, hG_116, hE_118, hkc_106, hG_117, hG_113, hG_114, (by omega), (by omega), (by omega), (by omega), (by omega), hck_0, (by have h9_0 := bx_1; unfold bd at h9_0; have h9_1 := h_111; unfold bd at h9_1; have h8_0 := kb_0; unfold bd at h8_0; have h8_1 := kb_m1; unfold bd at h8_1; omega), (by omega)⟩ hl9
