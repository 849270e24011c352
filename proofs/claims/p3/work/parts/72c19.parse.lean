set_option maxHeartbeats 4000000 in
set_option maxRecDepth 100000 in
theorem r_X0_read (l : Launch) (dC : Nat → ClassId) (dI : Nat → Nat → Nat) (L : List Nat) (kd : Nat → Nat) (tys : List (ClassId × FieldType)) (f0 : Nat → va_E) (sz : Nat) (hWT : WT L kd tys f0) (a0_ : Nat) (ma0_ : a0_ ∈ L) (ka0_ : kd a0_ = 0) (q0_ : Nat) (mq0_ : q0_ ∈ L) (kq0_ : kd q0_ = 8) (q1_ : Nat) (mq1_ : q1_ ∈ L) (kq1_ : kd q1_ = 5) (q2_ : Nat) (mq2_ : q2_ ∈ L) (kq2_ : kd q2_ = 7) (q3_ : Nat) (mq3_ : q3_ ∈ L) (kq3_ : kd q3_ = 9) (y0_ : Int32) (by0_ : bd 0 0 y0_) (T_ : Nat) (J_ : Int32 → Prop) (hGea0_ : eOK f0 a0_) (hGcq2_ : cOK f0 q2_) (hGdq2_ : dOK L kd f0 q2_ T_) (hGsq2_ : jS f0 q2_ J_) (hfx : Fs L kd f0 [(0, 0, a0_, .ref q0_), (0, 1, a0_, .ref q1_), (5, 0, q1_, .ref q2_), (5, 1, q1_, .ref q3_), (8, 8, q0_, .int y0_)]) : Met l yX0_read (.code yX0_read cX0_read 3 none :: lw_g) ({ frames := 3, cells := 0, slots := 0, locals := 75 }) (va_Pc [.ref a0_] (P3 (dC, dI) L tys f0 sz)) (va_Qv (fun (f : Nat → va_E) => (eOK f a0_ ∧ cOK f q2_ ∧ dOK L kd f q2_ T_ ∧ jS f q2_ J_ ∧ Fs L kd f [(0, 2, a0_, .ref q2_), (8, 8, q0_, .int y0_)]) ∨ (eOK f a0_ ∧ dOK L kd f q2_ T_ ∧ ∃ z0_ : Int32, bd 1201 1201 z0_ ∧ ∃ z1_ : Int32, bd 1 7 z1_ ∧ Fs L kd f [(8, 6, q0_, .int z0_), (8, 8, q0_, .int z1_), (0, 2, a0_, .ref q2_)])) (Q3 (dC, dI) L kd tys [(0, 2), (0, 8), (0, 10), (0, 11), (0, 12), (0, 13), (7, 6), (7, 18), (8, 6), (8, 8), (8, 9)] [110, 111, 112, 113, 114, 115, 138, 139] f0 sz) (pA L sz)) 0 0 (pA L sz) := by
  refine Met.ofW (cc := cX0_read) (maxL := 3) (ret := none) (by decide) rfl ?_
  intro p e s m args below meth c s₁ B hml hv
  obtain ⟨rfl, hsz, hP, hK, hD0⟩ := hv
  have hx := B.exec
  have hb := B.bytes
  have hr := B.returns
  have hts := atoms_spec (ws := (.code yX0_read cX0_read 3 none :: lw_g)) B.pre
  have hown : s.vm.findClass RX0 = some m.cls := findClass_of_methodNamed B.named
  have hlocks := B.notSynchronized
  subst hsz
  have g : G3 (dC, dI) L kd tys s f0 [(0, 2), (0, 8), (0, 10), (0, 11), (0, 12), (0, 13), (7, 6), (7, 18), (8, 6), (8, 8), (8, 9)] [110, 111, 112, 113, 114, 115, 138, 139] f0 s.heap [] [(0, 0, a0_, .ref q0_), (0, 1, a0_, .ref q1_), (5, 0, q1_, .ref q2_), (5, 1, q1_, .ref q3_), (8, 8, q0_, .int y0_)] := G3.start hP hD0 hWT hfx
  have hl := lv_entry ([.ref a0_]) (n := 3) (Nat.le_of_ble_eq_true rfl)
  rw [lg_entry_eq]
  generalize (lg_sl ([.ref a0_]) ++ List.replicate (3 - (lg_sl ([.ref a0_])).length) Slot.unset).toArray = ls at hl ⊢
  have hl : lv_has ls 3 [(0, .ref a0_)] := hl
  refine W_q (fun Q hQ => ?_)
  refine lv_aload_n hx hb dX0_read_0 rfl (lv_at hl 0 rfl) ?_
  refine lv_aload_n hx hb dX0_read_1 rfl (lv_at hl 0 rfl) ?_
  refine g_getk (C := RX0) (T := TX0) (N := 14) hx hb hts (mc_ inX0) hown hK g rfl 1 (by decide) rfl (hts _ (List.mem_cons_of_mem _ t_374)) (fun _ h9 => h9) 1 rfl dX0_read_2 ?_
  refine g_getk (C := RX5) (T := TX5) (N := 9) hx hb hts (mc_ inX5) hown hK g rfl 0 (by decide) rfl (hts _ (List.mem_cons_of_mem _ t_328)) (fun _ h9 => h9) 2 rfl dX0_read_5 ?_
  have go_ := g
  refine g_put (C := RX0) (T := TX0) (N := 14) hx hb hts (mc_ inX0) tyX0 tyX0_ok nmX0 hown hK g ma0_ ka0_ (by decide) rfl 2 (by decide) (hts _ (List.mem_cons_of_mem _ t_375)) (fun _ h9 => h9) rfl rfl (okV_n mq2_ kq2_ (by decide)) rfl rfl (by decide) (Or.inr (Or.inl (by decide))) (fx' := [(0, 0, a0_, .ref q0_), (0, 1, a0_, .ref q1_), (5, 0, q1_, .ref q2_), (5, 1, q1_, .ref q3_), (8, 8, q0_, .int y0_)]) rfl dX0_read_8 (fun f H locs hM_1 g => ?_)
  have hG_2 := eOK.frame hM_1 go_.2.2.2.1 ma0_ ka0_ (by decide) (by decide) hGea0_
  have hG_3 := cOK.frame hM_1 go_.2.2.2.1 mq2_ kq2_ (by decide) (by decide) hGcq2_
  have hG_4 := dOK.frame hM_1 go_.2.2.2.1 mq2_ kq2_ (by decide) (by decide) hGdq2_
  have hG_5 := jS.frame hM_1 go_.2.2.2.1 mq2_ kq2_ (by decide) (by decide) hGsq2_
  refine lv_aload_n hx hb dX0_read_11 rfl (lv_at hl 0 rfl) ?_
  refine lv_iconst (v := 0) hx hb dX0_read_12 (by decide) ?_
  have kb_0 : bd 0 0 (0 : Int32) := ⟨by decide, by decide⟩
  have go_ := g
  refine g_put (C := RX0) (T := TX0) (N := 14) hx hb hts (mc_ inX0) tyX0 tyX0_ok nmX0 hown hK g ma0_ ka0_ (by decide) rfl 8 (by decide) (hts _ (List.mem_cons_of_mem _ t_381)) (fun _ h9 => h9) rfl rfl (okV_i (bd_sub kb_0 (by decide))) rfl rfl (by decide) (Or.inr (Or.inl (by decide))) (fx' := [(0, 2, a0_, .ref q2_), (0, 0, a0_, .ref q0_), (0, 1, a0_, .ref q1_), (5, 0, q1_, .ref q2_), (5, 1, q1_, .ref q3_), (8, 8, q0_, .int y0_)]) rfl dX0_read_13 (fun f H locs hM_6 g => ?_)
  have hG_7 := eOK.frame hM_6 go_.2.2.2.1 ma0_ ka0_ (by decide) (by decide) hG_2
  have hG_8 := cOK.frame hM_6 go_.2.2.2.1 mq2_ kq2_ (by decide) (by decide) hG_3
  have hG_9 := dOK.frame hM_6 go_.2.2.2.1 mq2_ kq2_ (by decide) (by decide) hG_4
  have hG_10 := jS.frame hM_6 go_.2.2.2.1 mq2_ kq2_ (by decide) (by decide) hG_5
  have hi_11 := eJx.zero (fx_at g (i := 0) rfl).2.2.2 (by decide)
  refine lv_aload_n hx hb dX0_read_16 rfl (lv_at hl 0 rfl) ?_
  refine lv_iconst (v := 0) hx hb dX0_read_17 (by decide) ?_
  have go_ := g
  refine g_put (C := RX0) (T := TX0) (N := 14) hx hb hts (mc_ inX0) tyX0 tyX0_ok nmX0 hown hK g ma0_ ka0_ (by decide) rfl 10 (by decide) (hts _ (List.mem_cons_of_mem _ t_383)) (fun _ h9 => h9) rfl rfl (okV_i (bd_sub kb_0 (by decide))) rfl rfl (by decide) (Or.inr (Or.inl (by decide))) (fx' := [(0, 8, a0_, .int 0), (0, 2, a0_, .ref q2_), (0, 0, a0_, .ref q0_), (0, 1, a0_, .ref q1_), (5, 0, q1_, .ref q2_), (5, 1, q1_, .ref q3_), (8, 8, q0_, .int y0_)]) rfl dX0_read_18 (fun f H locs hM_12 g => ?_)
  have hG_13 := eOK.frame hM_12 go_.2.2.2.1 ma0_ ka0_ (by decide) (by decide) hG_7
  have hG_14 := cOK.frame hM_12 go_.2.2.2.1 mq2_ kq2_ (by decide) (by decide) hG_8
  have hG_15 := dOK.frame hM_12 go_.2.2.2.1 mq2_ kq2_ (by decide) (by decide) hG_9
  have hG_16 := jS.frame hM_12 go_.2.2.2.1 mq2_ kq2_ (by decide) (by decide) hG_10
  have hG_17 := eJx.frame hM_12 go_.2.2.2.1 ma0_ ka0_ (by decide) (by decide) hi_11
  refine lv_aload_n hx hb dX0_read_21 rfl (lv_at hl 0 rfl) ?_
  refine lv_iconst (v := 0) hx hb dX0_read_22 (by decide) ?_
  have go_ := g
  refine g_put (C := RX0) (T := TX0) (N := 14) hx hb hts (mc_ inX0) tyX0 tyX0_ok nmX0 hown hK g ma0_ ka0_ (by decide) rfl 11 (by decide) (hts _ (List.mem_cons_of_mem _ t_384)) (fun _ h9 => h9) rfl rfl (okV_i (bd_sub kb_0 (by decide))) rfl rfl (by decide) (Or.inr (Or.inl (by decide))) (fx' := [(0, 10, a0_, .int 0), (0, 8, a0_, .int 0), (0, 2, a0_, .ref q2_), (0, 0, a0_, .ref q0_), (0, 1, a0_, .ref q1_), (5, 0, q1_, .ref q2_), (5, 1, q1_, .ref q3_), (8, 8, q0_, .int y0_)]) rfl dX0_read_23 (fun f H locs hM_18 g => ?_)
  have hG_19 := eOK.frame hM_18 go_.2.2.2.1 ma0_ ka0_ (by decide) (by decide) hG_13
  have hG_20 := cOK.frame hM_18 go_.2.2.2.1 mq2_ kq2_ (by decide) (by decide) hG_14
  have hG_21 := dOK.frame hM_18 go_.2.2.2.1 mq2_ kq2_ (by decide) (by decide) hG_15
  have hG_22 := jS.frame hM_18 go_.2.2.2.1 mq2_ kq2_ (by decide) (by decide) hG_16
  have hG_23 := eJx.frame hM_18 go_.2.2.2.1 ma0_ ka0_ (by decide) (by decide) hG_17
  refine lv_aload_n hx hb dX0_read_26 rfl (lv_at hl 0 rfl) ?_
  refine lv_iconst (v := 1) hx hb dX0_read_27 (by decide) ?_
  have kb_1 : bd 1 1 (1 : Int32) := ⟨by decide, by decide⟩
  have go_ := g
  refine g_put (C := RX0) (T := TX0) (N := 14) hx hb hts (mc_ inX0) tyX0 tyX0_ok nmX0 hown hK g ma0_ ka0_ (by decide) rfl 12 (by decide) (hts _ (List.mem_cons_of_mem _ t_385)) (fun _ h9 => h9) rfl rfl (okV_i (bd_sub kb_1 (by decide))) rfl rfl (by decide) (Or.inr (Or.inl (by decide))) (fx' := [(0, 11, a0_, .int 0), (0, 10, a0_, .int 0), (0, 8, a0_, .int 0), (0, 2, a0_, .ref q2_), (0, 0, a0_, .ref q0_), (0, 1, a0_, .ref q1_), (5, 0, q1_, .ref q2_), (5, 1, q1_, .ref q3_), (8, 8, q0_, .int y0_)]) rfl dX0_read_28 (fun f H locs hM_24 g => ?_)
  have hG_25 := eOK.frame hM_24 go_.2.2.2.1 ma0_ ka0_ (by decide) (by decide) hG_19
  have hG_26 := cOK.frame hM_24 go_.2.2.2.1 mq2_ kq2_ (by decide) (by decide) hG_20
  have hG_27 := dOK.frame hM_24 go_.2.2.2.1 mq2_ kq2_ (by decide) (by decide) hG_21
  have hG_28 := jS.frame hM_24 go_.2.2.2.1 mq2_ kq2_ (by decide) (by decide) hG_22
  have hG_29 := eJx.frame hM_24 go_.2.2.2.1 ma0_ ka0_ (by decide) (by decide) hG_23
  refine lv_aload_n hx hb dX0_read_31 rfl (lv_at hl 0 rfl) ?_
  refine lv_iconst (v := 0) hx hb dX0_read_32 (by decide) ?_
  have go_ := g
  refine g_put (C := RX0) (T := TX0) (N := 14) hx hb hts (mc_ inX0) tyX0 tyX0_ok nmX0 hown hK g ma0_ ka0_ (by decide) rfl 13 (by decide) (hts _ (List.mem_cons_of_mem _ t_386)) (fun _ h9 => h9) rfl rfl (okV_i (bd_sub kb_0 (by decide))) rfl rfl (by decide) (Or.inr (Or.inl (by decide))) (fx' := [(0, 12, a0_, .int 1), (0, 11, a0_, .int 0), (0, 10, a0_, .int 0), (0, 8, a0_, .int 0), (0, 2, a0_, .ref q2_), (0, 0, a0_, .ref q0_), (0, 1, a0_, .ref q1_), (5, 0, q1_, .ref q2_), (5, 1, q1_, .ref q3_), (8, 8, q0_, .int y0_)]) rfl dX0_read_33 (fun f H locs hM_30 g => ?_)
  have hG_31 := eOK.frame hM_30 go_.2.2.2.1 ma0_ ka0_ (by decide) (by decide) hG_25
  have hG_32 := cOK.frame hM_30 go_.2.2.2.1 mq2_ kq2_ (by decide) (by decide) hG_26
  have hG_33 := dOK.frame hM_30 go_.2.2.2.1 mq2_ kq2_ (by decide) (by decide) hG_27
  have hG_34 := jS.frame hM_30 go_.2.2.2.1 mq2_ kq2_ (by decide) (by decide) hG_28
  have hG_35 := eJx.frame hM_30 go_.2.2.2.1 ma0_ ka0_ (by decide) (by decide) hG_29
  refine lv_iconst (v := 0) hx hb dX0_read_36 (by decide) ?_
  refine lv_istore_n (lv' := [(1, .int 0), (0, .ref a0_)]) hx hb dX0_read_37 rfl hl (by decide) rfl (fun ls hl => ?_)
  have loop_36 : ∀ (n : Nat) (v38_1 : Int32), bd 0 2401 v38_1 → (2401 - v38_1.toInt < (n : Int)) → ∀ (f : Nat → va_E) (H : Heap) (locs : List Loc) (ls : Array Slot), G3 (dC, dI) L kd tys s f0 [(0, 2), (0, 8), (0, 10), (0, 11), (0, 12), (0, 13), (7, 6), (7, 18), (8, 6), (8, 8), (8, 9)] [110, 111, 112, 113, 114, 115, 138, 139] f H locs [(0, 2, a0_, .ref q2_), (0, 0, a0_, .ref q0_), (0, 1, a0_, .ref q1_), (5, 0, q1_, .ref q2_), (5, 1, q1_, .ref q3_), (8, 8, q0_, .int y0_)] → eOK f a0_ → cOK f q2_ → dOK L kd f q2_ T_ → jS f q2_ J_ → eJx f a0_ → lv_has ls 3 [(1, .int v38_1), (0, .ref a0_)] → W p l e ({ frames := 3, cells := 0, slots := 0, locals := 75 } : Room) s m [.ref a0_].toArray below meth c H locs 0 0 Q (F0 m 38 ls []) := by
    intro n38
    induction n38 with
    | zero =>
      intro v38_1 bv38_1 hm38 f H locs ls g hG38_e_a0_ hG38_c_q2_ hG38_d_q2_ hG38_s_q2_ hG38_i_a0_ hl
      exact absurd hm38 (by have h9_v38_1 := bv38_1; unfold bd at h9_v38_1; omega)
    | succ n38 ih38 =>
      intro v38_1 bv38_1 hm38 f H locs ls g hG38_e_a0_ hG38_c_q2_ hG38_d_q2_ hG38_s_q2_ hG38_i_a0_ hl
      refine lv_iload_n hx hb dX0_read_38 rfl (lv_at hl 0 rfl) ?_
      refine lv_sipush (v := 2400) hx hb dX0_read_39 (by decide) ?_
      have kb_2400 : bd 2400 2400 (2400 : Int32) := ⟨by decide, by decide⟩
      refine lv_icmp_gt (tgt := 228) hx hb dX0_read_42 (by decide) (fun c_37 => ?_) (fun c_37 => ?_)
      · have fc_37 := lt_f c_37
        have b_38 : bd 2401 2401 v38_1 := ltR fc_37 kb_2400 bv38_1 (by decide)
        subst hQ
        exact W.vret hx hb hr (fun t ht hW => ⟨⟨_, rfl, Or.inl ⟨hG38_e_a0_, hG38_c_q2_, hG38_d_q2_, hG38_s_q2_, (g.fcts [0, 5] rfl)⟩, q3_of g hK ht hW⟩, g.2.2.1.F ht⟩) g.2.2.1.2.2 dX0_read_228
      · have fc_37 := nlt_f c_37
        have b_39 : bd 0 2400 v38_1 := leL fc_37 bv38_1 kb_2400 (by decide)
        refine lv_aload_n hx hb dX0_read_45 rfl (lv_at hl 1 rfl) ?_
        refine g_geti (C := RX0) (T := TX0) (N := 14) hx hb hts (mc_ inX0) hown hK g ma0_ ka0_ (by decide) rfl 13 (by decide) rfl (hts _ (List.mem_cons_of_mem _ t_386)) (fun _ h9 => h9) rfl dX0_read_46 (fun x_40 bx_40 g => ?_)
        refine lv_if_ne (tgt := 228) hx hb dX0_read_49 (by decide) (fun c_41 => ?_) (fun c_41 => ?_)
        · have fc_41 := neq_f c_41
          have b_42 : bd 1 1 x_40 := neX fc_41 bx_40 kb_0 (by decide)
          subst hQ
          exact W.vret hx hb hr (fun t ht hW => ⟨⟨_, rfl, Or.inl ⟨hG38_e_a0_, hG38_c_q2_, hG38_d_q2_, hG38_s_q2_, (g.fcts [1, 6] rfl)⟩, q3_of g hK ht hW⟩, g.2.2.1.F ht⟩) g.2.2.1.2.2 dX0_read_228
        · have fc_41 := eq_f c_41
          have b_43 : bd 0 0 x_40 := eqX fc_41 bx_40 kb_0 (by decide)
          refine lv_aload_n hx hb dX0_read_52 rfl (lv_at hl 1 rfl) ?_
          refine g_getk (C := RX0) (T := TX0) (N := 14) hx hb hts (mc_ inX0) hown hK g rfl 0 (by decide) rfl (hts _ (List.mem_cons_of_mem _ t_373)) (fun _ h9 => h9) 2 rfl dX0_read_53 ?_
          refine g_getk (C := RX8) (T := TX8) (N := 10) hx hb hts (mc_ inX8) hown hK g rfl 8 (by decide) rfl (hts _ (List.mem_cons_of_mem _ t_293)) (fun _ h9 => h9) 6 rfl dX0_read_56 ?_
          refine lv_if_ne (tgt := 228) hx hb dX0_read_59 (by decide) (fun c_44 => ?_) (fun c_44 => ?_)
          · have fc_44 := neq_f c_44
            have b_45 : bd 1 (-1) y0_ := neX fc_44 by0_ kb_0 (by decide)
            exact bd_no b_45 (by decide)
          · have fc_44 := eq_f c_44
            refine lv_aload_n hx hb dX0_read_62 rfl (lv_at hl 1 rfl) ?_
            refine g_getk (C := RX0) (T := TX0) (N := 14) hx hb hts (mc_ inX0) hown hK g rfl 0 (by decide) rfl (hts _ (List.mem_cons_of_mem _ t_373)) (fun _ h9 => h9) 2 rfl dX0_read_63 ?_
            have go_ := g
            refine g_calli (va_runV (As := []) (rest := []) ⟨hx, hb, hml, hown, hts⟩ (r_X8_kind l dC dI L kd tys f H.size g.2.2.2.1 q0_ mq0_ kq0_) (cwV 0 hts (gV_ t_1186 t_1119 t_1120 t_184 t_1121) rfl rfl rfl (by decide +kernel) ⟨(Nat.le_of_ble_eq_true rfl), (Nat.le_of_ble_eq_true rfl)⟩) (pre3V g hK mq0_ kq0_ (by decide) (q := (RX8, TX8, 10)) rfl) rfl rfl hl.1 rfl (lv_room (Nat.le_of_ble_eq_true rfl)) dX0_read_66 ⟨(Nat.le_of_ble_eq_true rfl), (Nat.le_of_ble_eq_true rfl)⟩) g hK (by decide) (by decide) (fx' := [(0, 13, a0_, .int x_40), (0, 2, a0_, .ref q2_), (0, 0, a0_, .ref q0_), (0, 1, a0_, .ref q1_), (5, 0, q1_, .ref q2_), (5, 1, q1_, .ref q3_), (8, 8, q0_, .int y0_)]) rfl (fun r_46 fr_46 H locs hp hMr_46 g => ?_)
            have hG_47 := eOK.frame hMr_46 go_.2.2.2.1 ma0_ ka0_ (by decide) (by decide) hG38_e_a0_
            have hG_48 := cOK.frame hMr_46 go_.2.2.2.1 mq2_ kq2_ (by decide) (by decide) hG38_c_q2_
            have hG_49 := dOK.frame hMr_46 go_.2.2.2.1 mq2_ kq2_ (by decide) (by decide) hG38_d_q2_
            have hG_50 := jS.frame hMr_46 go_.2.2.2.1 mq2_ kq2_ (by decide) (by decide) hG38_s_q2_
            have hG_51 := eJx.frame hMr_46 go_.2.2.2.1 ma0_ ka0_ (by decide) (by decide) hG38_i_a0_
            refine lv_istore_n (lv' := [(2, .int r_46), (1, .int v38_1), (0, .ref a0_)]) hx hb dX0_read_69 rfl hl (by decide) rfl (fun ls hl => ?_)
            refine lv_aload_n hx hb dX0_read_70 rfl (lv_at hl 2 rfl) ?_
            refine g_geti (C := RX0) (T := TX0) (N := 14) hx hb hts (mc_ inX0) hown hK g ma0_ ka0_ (by decide) rfl 12 (by decide) rfl (hts _ (List.mem_cons_of_mem _ t_385)) (fun _ h9 => h9) rfl dX0_read_71 (fun x_52 bx_52 g => ?_)
            refine lv_if_ne (tgt := 85) hx hb dX0_read_74 (by decide) (fun c_53 => ?_) (fun c_53 => ?_)
            · have fc_53 := neq_f c_53
              have b_54 : bd 1 1 x_52 := neX fc_53 bx_52 kb_0 (by decide)
              refine lv_iload_n hx hb dX0_read_85 rfl (lv_at hl 0 rfl) ?_
              refine lv_iconst (v := 3) hx hb dX0_read_86 (by decide) ?_
              have kb_3 : bd 3 3 (3 : Int32) := ⟨by decide, by decide⟩
              refine lv_icmp_ne (tgt := 97) hx hb dX0_read_87 (by decide) (fun c_55 => ?_) (fun c_55 => ?_)
              · have fc_55 := neq_f c_55
                refine lv_iload_n hx hb dX0_read_97 rfl (lv_at hl 0 rfl) ?_
                refine lv_iconst (v := 4) hx hb dX0_read_98 (by decide) ?_
                have kb_4 : bd 4 4 (4 : Int32) := ⟨by decide, by decide⟩
                refine lv_icmp_ne (tgt := 109) hx hb dX0_read_99 (by decide) (fun c_56 => ?_) (fun c_56 => ?_)
                · have fc_56 := neq_f c_56
                  refine lv_iload_n hx hb dX0_read_109 rfl (lv_at hl 0 rfl) ?_
                  refine lv_bipush (v := 40) hx hb dX0_read_110 (by decide) ?_
                  have kb_40 : bd 40 40 (40 : Int32) := ⟨by decide, by decide⟩
                  refine lv_icmp_eq (tgt := 127) hx hb dX0_read_112 (by decide) (fun c_57 => ?_) (fun c_57 => ?_)
                  · have fc_57 := eq_f c_57
                    have b_58 : bd 40 40 r_46 := eqX fc_57 (bdT r_46) kb_40 (by decide)
                    refine lv_aload_n hx hb dX0_read_127 rfl (lv_at hl 2 rfl) ?_
                    refine lv_iload_n hx hb dX0_read_128 rfl (lv_at hl 0 rfl) ?_
                    have go_ := g
                    refine g_callv (va_runV (As := [.int r_46]) (rest := []) ⟨hx, hb, hml, hown, hts⟩ (r_X0_openSign_2 l dC dI L kd tys fr_46 H.size g.2.2.2.1 a0_ ma0_ ka0_ r_46 q0_ mq0_ kq0_ q2_ mq2_ kq2_ y0_ by0_ hG_51 hG_47 (g.fcts [3, 2, 7] rfl)) (cwV 1 hts (gV_ t_1272 t_1274 t_26 t_190 t_1275) rfl rfl rfl (by decide +kernel) ⟨(Nat.le_of_ble_eq_true rfl), (Nat.le_of_ble_eq_true rfl)⟩) (pre3V g hK ma0_ ka0_ (by decide) (q := (RX0, TX0, 14)) rfl) rfl rfl hl.1 rfl (lv_room (Nat.le_of_ble_eq_true rfl)) dX0_read_129 ⟨(Nat.le_of_ble_eq_true rfl), (Nat.le_of_ble_eq_true rfl)⟩) g hK (by decide) (by decide) (fx' := [(0, 12, a0_, .int x_52), (0, 13, a0_, .int x_40), (0, 2, a0_, .ref q2_), (0, 0, a0_, .ref q0_), (0, 1, a0_, .ref q1_), (5, 0, q1_, .ref q2_), (5, 1, q1_, .ref q3_)]) rfl (fun fr_59 H locs hp hMr_59 g => ?_)
                    rcases hp with ⟨hG_60, hG_61, x_62, h_63, x_64, h_65, x_66, h_67, hF_68⟩ | ⟨hG_69, x_70, h_71, x_72, h_73, hF_74⟩
                    · have hG_75 := cOK.frame hMr_59 go_.2.2.2.1 mq2_ kq2_ (by decide) (by decide) hG_48
                      have hG_76 := dOK.frame hMr_59 go_.2.2.2.1 mq2_ kq2_ (by decide) (by decide) hG_49
                      have hG_77 := jS.frame hMr_59 go_.2.2.2.1 mq2_ kq2_ (by decide) (by decide) hG_50
                      have g := g.more hF_68
                      refine lv_goto (tgt := 222) hx hb dX0_read_132 (by decide) ?_
                      obtain ⟨y_78, ey_78⟩ : ∃ z : Int32, z = v38_1 + 1 := ⟨_, rfl⟩
                      refine lv_iinc (v := y_78) (lv' := [(1, .int y_78), (2, .int r_46), (0, .ref a0_)]) hx hb dX0_read_222 hl (k := 1) rfl (by rw [ey_78]; rfl) (by decide) rfl (fun ls hl => ?_)
                      have ty_78 := add_bd ey_78 b_39 kb_1 (by decide)
                      have b_79 : bd 1 2401 y_78 := add_rg ty_78 b_39 kb_1 (by decide)
                      refine lv_goto (tgt := 38) hx hb dX0_read_225 (by decide) ?_
                      have hl9 := lv_sub hl [0, 2] (by rfl : lv_pick [(1, .int y_78), (2, .int r_46), (0, .ref a0_)] [0, 2] = [(1, .int y_78), (0, .ref a0_)])
                      have g9 := g.sub (fx' := [(0, 2, a0_, .ref q2_), (0, 0, a0_, .ref q0_), (0, 1, a0_, .ref q1_), (5, 0, q1_, .ref q2_), (5, 1, q1_, .ref q3_), (8, 8, q0_, .int y0_)]) [6, 7, 8, 9, 10, 3] rfl
                      exact ih38  y_78 (bd_sub b_79 (by decide)) (by have h9_0 := b_54; unfold bd at h9_0; have h9_1 := b_79; unfold bd at h9_1; have h9_2 := bv38_1; unfold bd at h9_2; have h9_3 := h_65; unfold bd at h9_3; have h9_4 := h_67; unfold bd at h9_4; have h9_5 := kb_0; unfold bd at h9_5; have h9_6 := kb_1; unfold bd at h9_6; have h9_7 := kb_2400; unfold bd at h9_7; have h9_8 := kb_3; unfold bd at h9_8; have h9_9 := kb_4; unfold bd at h9_9; have h9_10 := kb_40; unfold bd at h9_10; omega) _ _ _ _ g9 hG_61 hG_75 hG_76 hG_77 hG_60 hl9
                    · have hG_80 := cOK.frame hMr_59 go_.2.2.2.1 mq2_ kq2_ (by decide) (by decide) hG_48
                      have hG_81 := dOK.frame hMr_59 go_.2.2.2.1 mq2_ kq2_ (by decide) (by decide) hG_49
                      have hG_82 := jS.frame hMr_59 go_.2.2.2.1 mq2_ kq2_ (by decide) (by decide) hG_50
                      have g := g.more hF_74
                      refine lv_goto (tgt := 222) hx hb dX0_read_132 (by decide) ?_
                      obtain ⟨y_83, ey_83⟩ : ∃ z : Int32, z = v38_1 + 1 := ⟨_, rfl⟩
                      refine lv_iinc (v := y_83) (lv' := [(1, .int y_83), (2, .int r_46), (0, .ref a0_)]) hx hb dX0_read_222 hl (k := 1) rfl (by rw [ey_83]; rfl) (by decide) rfl (fun ls hl => ?_)
                      have ty_83 := add_bd ey_83 b_39 kb_1 (by decide)
                      have b_84 : bd 1 2401 y_83 := add_rg ty_83 b_39 kb_1 (by decide)
                      refine lv_goto (tgt := 38) hx hb dX0_read_225 (by decide) ?_
                      refine lv_iload_n hx hb dX0_read_38 rfl (lv_at hl 0 rfl) ?_
                      refine lv_sipush (v := 2400) hx hb dX0_read_39 (by decide) ?_
                      refine lv_icmp_gt (tgt := 228) hx hb dX0_read_42 (by decide) (fun c_85 => ?_) (fun c_85 => ?_)
                      · have fc_85 := lt_f c_85
                        have b_86 : bd 2401 2401 y_83 := ltR fc_85 kb_2400 b_84 (by decide)
                        have b_87 : bd 2400 2400 v38_1 := add_inv ty_83 b_86 b_39 kb_1 (by decide)
                        have kb_1201 : bd 1201 1201 (1201 : Int32) := ⟨by decide, by decide⟩
                        subst hQ
                        exact W.vret hx hb hr (fun t ht hW => ⟨⟨_, rfl, Or.inr (⟨hG_69, hG_81, 1201, kb_1201, x_72, h_73, (g.fcts [1, 2, 5] rfl)⟩), q3_of g hK ht hW⟩, g.2.2.1.F ht⟩) g.2.2.1.2.2 dX0_read_228
                      · have fc_85 := nlt_f c_85
                        have b_88 : bd 1 2400 y_83 := leL fc_85 b_84 kb_2400 (by decide)
                        have b_89 : bd 0 2399 v38_1 := add_inv ty_83 b_88 b_39 kb_1 (by decide)
                        refine lv_aload_n hx hb dX0_read_45 rfl (lv_at hl 2 rfl) ?_
                        refine g_getk (C := RX0) (T := TX0) (N := 14) hx hb hts (mc_ inX0) hown hK g rfl 13 (by decide) rfl (hts _ (List.mem_cons_of_mem _ t_386)) (fun _ h9 => h9) 4 rfl dX0_read_46 ?_
                        refine lv_if_ne (tgt := 228) hx hb dX0_read_49 (by decide) (fun c_90 => ?_) (fun c_90 => ?_)
                        · have fc_90 := neq_f c_90
                          have b_91 : bd 1 (-1) x_40 := neX fc_90 b_43 kb_0 (by decide)
                          exact bd_no b_91 (by decide)
                        · have fc_90 := eq_f c_90
                          refine lv_aload_n hx hb dX0_read_52 rfl (lv_at hl 2 rfl) ?_
                          refine g_getk (C := RX0) (T := TX0) (N := 14) hx hb hts (mc_ inX0) hown hK g rfl 0 (by decide) rfl (hts _ (List.mem_cons_of_mem _ t_373)) (fun _ h9 => h9) 6 rfl dX0_read_53 ?_
                          refine g_getk (C := RX8) (T := TX8) (N := 10) hx hb hts (mc_ inX8) hown hK g rfl 8 (by decide) rfl (hts _ (List.mem_cons_of_mem _ t_293)) (fun _ h9 => h9) 2 rfl dX0_read_56 ?_
                          refine lv_if_ne (tgt := 228) hx hb dX0_read_59 (by decide) (fun c_92 => ?_) (fun c_92 => ?_)
                          · have fc_92 := neq_f c_92
                            have kb_1201 : bd 1201 1201 (1201 : Int32) := ⟨by decide, by decide⟩
                            subst hQ
                            exact W.vret hx hb hr (fun t ht hW => ⟨⟨_, rfl, Or.inr (⟨hG_69, hG_81, 1201, kb_1201, x_72, h_73, (g.fcts [1, 2, 5] rfl)⟩), q3_of g hK ht hW⟩, g.2.2.1.F ht⟩) g.2.2.1.2.2 dX0_read_228
                          · have fc_92 := eq_f c_92
                            have b_93 : bd 1 0 x_72 := eqX fc_92 h_73 kb_0 (by decide)
                            exact bd_no b_93 (by decide)
                  · have fc_57 := neq_f c_57
                    refine lv_iload_n hx hb dX0_read_115 rfl (lv_at hl 0 rfl) ?_
                    refine lv_bipush (v := 45) hx hb dX0_read_116 (by decide) ?_
                    have kb_45 : bd 45 45 (45 : Int32) := ⟨by decide, by decide⟩
                    refine lv_icmp_eq (tgt := 127) hx hb dX0_read_118 (by decide) (fun c_94 => ?_) (fun c_94 => ?_)
                    · have fc_94 := eq_f c_94
                      have b_95 : bd 45 45 r_46 := eqX fc_94 (bdT r_46) kb_45 (by decide)
                      refine lv_aload_n hx hb dX0_read_127 rfl (lv_at hl 2 rfl) ?_
                      refine lv_iload_n hx hb dX0_read_128 rfl (lv_at hl 0 rfl) ?_
                      have go_ := g
                      refine g_callv (va_runV (As := [.int r_46]) (rest := []) ⟨hx, hb, hml, hown, hts⟩ (r_X0_openSign_2 l dC dI L kd tys fr_46 H.size g.2.2.2.1 a0_ ma0_ ka0_ r_46 q0_ mq0_ kq0_ q2_ mq2_ kq2_ y0_ by0_ hG_51 hG_47 (g.fcts [3, 2, 7] rfl)) (cwV 1 hts (gV_ t_1272 t_1274 t_26 t_190 t_1275) rfl rfl rfl (by decide +kernel) ⟨(Nat.le_of_ble_eq_true rfl), (Nat.le_of_ble_eq_true rfl)⟩) (pre3V g hK ma0_ ka0_ (by decide) (q := (RX0, TX0, 14)) rfl) rfl rfl hl.1 rfl (lv_room (Nat.le_of_ble_eq_true rfl)) dX0_read_129 ⟨(Nat.le_of_ble_eq_true rfl), (Nat.le_of_ble_eq_true rfl)⟩) g hK (by decide) (by decide) (fx' := [(0, 12, a0_, .int x_52), (0, 13, a0_, .int x_40), (0, 2, a0_, .ref q2_), (0, 0, a0_, .ref q0_), (0, 1, a0_, .ref q1_), (5, 0, q1_, .ref q2_), (5, 1, q1_, .ref q3_)]) rfl (fun fr_96 H locs hp hMr_96 g => ?_)
                      rcases hp with ⟨hG_97, hG_98, x_99, h_100, x_101, h_102, x_103, h_104, hF_105⟩ | ⟨hG_106, x_107, h_108, x_109, h_110, hF_111⟩
                      · have hG_112 := cOK.frame hMr_96 go_.2.2.2.1 mq2_ kq2_ (by decide) (by decide) hG_48
                        have hG_113 := dOK.frame hMr_96 go_.2.2.2.1 mq2_ kq2_ (by decide) (by decide) hG_49
                        have hG_114 := jS.frame hMr_96 go_.2.2.2.1 mq2_ kq2_ (by decide) (by decide) hG_50
                        have g := g.more hF_105
                        refine lv_goto (tgt := 222) hx hb dX0_read_132 (by decide) ?_
                        obtain ⟨y_115, ey_115⟩ : ∃ z : Int32, z = v38_1 + 1 := ⟨_, rfl⟩
                        refine lv_iinc (v := y_115) (lv' := [(1, .int y_115), (2, .int r_46), (0, .ref a0_)]) hx hb dX0_read_222 hl (k := 1) rfl (by rw [ey_115]; rfl) (by decide) rfl (fun ls hl => ?_)
                        have ty_115 := add_bd ey_115 b_39 kb_1 (by decide)
                        have b_116 : bd 1 2401 y_115 := add_rg ty_115 b_39 kb_1 (by decide)
                        refine lv_goto (tgt := 38) hx hb dX0_read_225 (by decide) ?_
                        have hl9 := lv_sub hl [0, 2] (by rfl : lv_pick [(1, .int y_115), (2, .int r_46), (0, .ref a0_)] [0, 2] = [(1, .int y_115), (0, .ref a0_)])
                        have g9 := g.sub (fx' := [(0, 2, a0_, .ref q2_), (0, 0, a0_, .ref q0_), (0, 1, a0_, .ref q1_), (5, 0, q1_, .ref q2_), (5, 1, q1_, .ref q3_), (8, 8, q0_, .int y0_)]) [6, 7, 8, 9, 10, 3] rfl
                        exact ih38  y_115 (bd_sub b_116 (by decide)) (by have h9_0 := b_116; unfold bd at h9_0; have h9_1 := b_54; unfold bd at h9_1; have h9_2 := bv38_1; unfold bd at h9_2; have h9_3 := h_102; unfold bd at h9_3; have h9_4 := h_104; unfold bd at h9_4; have h9_5 := kb_0; unfold bd at h9_5; have h9_6 := kb_1; unfold bd at h9_6; have h9_7 := kb_2400; unfold bd at h9_7; have h9_8 := kb_3; unfold bd at h9_8; have h9_9 := kb_4; unfold bd at h9_9; have h9_10 := kb_40; unfold bd at h9_10; have h9_11 := kb_45; unfold bd at h9_11; omega) _ _ _ _ g9 hG_98 hG_112 hG_113 hG_114 hG_97 hl9
                      · have hG_117 := cOK.frame hMr_96 go_.2.2.2.1 mq2_ kq2_ (by decide) (by decide) hG_48
                        have hG_118 := dOK.frame hMr_96 go_.2.2.2.1 mq2_ kq2_ (by decide) (by decide) hG_49
                        have hG_119 := jS.frame hMr_96 go_.2.2.2.1 mq2_ kq2_ (by decide) (by decide) hG_50
                        have g := g.more hF_111
                        refine lv_goto (tgt := 222) hx hb dX0_read_132 (by decide) ?_
                        obtain ⟨y_120, ey_120⟩ : ∃ z : Int32, z = v38_1 + 1 := ⟨_, rfl⟩
                        refine lv_iinc (v := y_120) (lv' := [(1, .int y_120), (2, .int r_46), (0, .ref a0_)]) hx hb dX0_read_222 hl (k := 1) rfl (by rw [ey_120]; rfl) (by decide) rfl (fun ls hl => ?_)
                        have ty_120 := add_bd ey_120 b_39 kb_1 (by decide)
                        have b_121 : bd 1 2401 y_120 := add_rg ty_120 b_39 kb_1 (by decide)
                        refine lv_goto (tgt := 38) hx hb dX0_read_225 (by decide) ?_
                        refine lv_iload_n hx hb dX0_read_38 rfl (lv_at hl 0 rfl) ?_
                        refine lv_sipush (v := 2400) hx hb dX0_read_39 (by decide) ?_
                        refine lv_icmp_gt (tgt := 228) hx hb dX0_read_42 (by decide) (fun c_122 => ?_) (fun c_122 => ?_)
                        · have fc_122 := lt_f c_122
                          have b_123 : bd 2401 2401 y_120 := ltR fc_122 kb_2400 b_121 (by decide)
                          have b_124 : bd 2400 2400 v38_1 := add_inv ty_120 b_123 b_39 kb_1 (by decide)
                          have kb_1201 : bd 1201 1201 (1201 : Int32) := ⟨by decide, by decide⟩
                          subst hQ
                          exact W.vret hx hb hr (fun t ht hW => ⟨⟨_, rfl, Or.inr (⟨hG_106, hG_118, 1201, kb_1201, x_109, h_110, (g.fcts [1, 2, 5] rfl)⟩), q3_of g hK ht hW⟩, g.2.2.1.F ht⟩) g.2.2.1.2.2 dX0_read_228
                        · have fc_122 := nlt_f c_122
                          have b_125 : bd 1 2400 y_120 := leL fc_122 b_121 kb_2400 (by decide)
                          have b_126 : bd 0 2399 v38_1 := add_inv ty_120 b_125 b_39 kb_1 (by decide)
                          refine lv_aload_n hx hb dX0_read_45 rfl (lv_at hl 2 rfl) ?_
                          refine g_getk (C := RX0) (T := TX0) (N := 14) hx hb hts (mc_ inX0) hown hK g rfl 13 (by decide) rfl (hts _ (List.mem_cons_of_mem _ t_386)) (fun _ h9 => h9) 4 rfl dX0_read_46 ?_
                          refine lv_if_ne (tgt := 228) hx hb dX0_read_49 (by decide) (fun c_127 => ?_) (fun c_127 => ?_)
                          · have fc_127 := neq_f c_127
                            have b_128 : bd 1 (-1) x_40 := neX fc_127 b_43 kb_0 (by decide)
                            exact bd_no b_128 (by decide)
                          · have fc_127 := eq_f c_127
                            refine lv_aload_n hx hb dX0_read_52 rfl (lv_at hl 2 rfl) ?_
                            refine g_getk (C := RX0) (T := TX0) (N := 14) hx hb hts (mc_ inX0) hown hK g rfl 0 (by decide) rfl (hts _ (List.mem_cons_of_mem _ t_373)) (fun _ h9 => h9) 6 rfl dX0_read_53 ?_
                            refine g_getk (C := RX8) (T := TX8) (N := 10) hx hb hts (mc_ inX8) hown hK g rfl 8 (by decide) rfl (hts _ (List.mem_cons_of_mem _ t_293)) (fun _ h9 => h9) 2 rfl dX0_read_56 ?_
                            refine lv_if_ne (tgt := 228) hx hb dX0_read_59 (by decide) (fun c_129 => ?_) (fun c_129 => ?_)
                            · have fc_129 := neq_f c_129
                              have kb_1201 : bd 1201 1201 (1201 : Int32) := ⟨by decide, by decide⟩
                              subst hQ
                              exact W.vret hx hb hr (fun t ht hW => ⟨⟨_, rfl, Or.inr (⟨hG_106, hG_118, 1201, kb_1201, x_109, h_110, (g.fcts [1, 2, 5] rfl)⟩), q3_of g hK ht hW⟩, g.2.2.1.F ht⟩) g.2.2.1.2.2 dX0_read_228
                            · have fc_129 := eq_f c_129
                              have b_130 : bd 1 0 x_109 := eqX fc_129 h_110 kb_0 (by decide)
                              exact bd_no b_130 (by decide)
                    · have fc_94 := neq_f c_94
                      refine lv_iload_n hx hb dX0_read_121 rfl (lv_at hl 0 rfl) ?_
                      refine lv_bipush (v := 33) hx hb dX0_read_122 (by decide) ?_
                      have kb_33 : bd 33 33 (33 : Int32) := ⟨by decide, by decide⟩
                      refine lv_icmp_ne (tgt := 135) hx hb dX0_read_124 (by decide) (fun c_131 => ?_) (fun c_131 => ?_)
                      · have fc_131 := neq_f c_131
                        refine lv_iload_n hx hb dX0_read_135 rfl (lv_at hl 0 rfl) ?_
                        refine lv_bipush (v := 11) hx hb dX0_read_136 (by decide) ?_
                        have kb_11 : bd 11 11 (11 : Int32) := ⟨by decide, by decide⟩
                        refine lv_icmp_ne (tgt := 148) hx hb dX0_read_138 (by decide) (fun c_132 => ?_) (fun c_132 => ?_)
                        · have fc_132 := neq_f c_132
                          refine lv_iload_n hx hb dX0_read_148 rfl (lv_at hl 0 rfl) ?_
                          refine lv_bipush (v := 30) hx hb dX0_read_149 (by decide) ?_
                          have kb_30 : bd 30 30 (30 : Int32) := ⟨by decide, by decide⟩
                          refine lv_icmp_ne (tgt := 161) hx hb dX0_read_151 (by decide) (fun c_133 => ?_) (fun c_133 => ?_)
                          · have fc_133 := neq_f c_133
                            refine lv_iload_n hx hb dX0_read_161 rfl (lv_at hl 0 rfl) ?_
                            refine lv_bipush (v := 28) hx hb dX0_read_162 (by decide) ?_
                            have kb_28 : bd 28 28 (28 : Int32) := ⟨by decide, by decide⟩
                            refine lv_icmp_ne (tgt := 184) hx hb dX0_read_164 (by decide) (fun c_134 => ?_) (fun c_134 => ?_)
                            · have fc_134 := neq_f c_134
                              refine lv_iload_n hx hb dX0_read_184 rfl (lv_at hl 0 rfl) ?_
                              refine lv_bipush (v := 29) hx hb dX0_read_185 (by decide) ?_
                              have kb_29 : bd 29 29 (29 : Int32) := ⟨by decide, by decide⟩
                              refine lv_icmp_ne (tgt := 207) hx hb dX0_read_187 (by decide) (fun c_135 => ?_) (fun c_135 => ?_)
                              · have fc_135 := neq_f c_135
                                refine lv_aload_n hx hb dX0_read_207 rfl (lv_at hl 2 rfl) ?_
                                refine g_getk (C := RX0) (T := TX0) (N := 14) hx hb hts (mc_ inX0) hown hK g rfl 0 (by decide) rfl (hts _ (List.mem_cons_of_mem _ t_373)) (fun _ h9 => h9) 3 rfl dX0_read_208 ?_
                                refine lv_iconst (v := 1) hx hb dX0_read_211 (by decide) ?_
                                refine lv_aload_n hx hb dX0_read_212 rfl (lv_at hl 2 rfl) ?_
                                refine g_getk (C := RX0) (T := TX0) (N := 14) hx hb hts (mc_ inX0) hown hK g rfl 0 (by decide) rfl (hts _ (List.mem_cons_of_mem _ t_373)) (fun _ h9 => h9) 3 rfl dX0_read_213 ?_
                                have go_ := g
                                refine g_calli (va_runV (As := []) (rest := [.int 1, .ref q0_]) ⟨hx, hb, hml, hown, hts⟩ (r_X8_place l dC dI L kd tys fr_46 H.size g.2.2.2.1 q0_ mq0_ kq0_) (cwV 0 hts (gV_ t_1220 t_1111 t_1112 t_184 t_1113) rfl rfl rfl (by decide +kernel) ⟨(Nat.le_of_ble_eq_true rfl), (Nat.le_of_ble_eq_true rfl)⟩) (pre3V g hK mq0_ kq0_ (by decide) (q := (RX8, TX8, 10)) rfl) rfl rfl hl.1 rfl (lv_room (Nat.le_of_ble_eq_true rfl)) dX0_read_216 ⟨(Nat.le_of_ble_eq_true rfl), (Nat.le_of_ble_eq_true rfl)⟩) g hK (by decide) (by decide) (fx' := [(0, 12, a0_, .int x_52), (0, 13, a0_, .int x_40), (0, 2, a0_, .ref q2_), (0, 0, a0_, .ref q0_), (0, 1, a0_, .ref q1_), (5, 0, q1_, .ref q2_), (5, 1, q1_, .ref q3_), (8, 8, q0_, .int y0_)]) rfl (fun r_136 fr_136 H locs hp hMr_136 g => ?_)
                                have hG_137 := eOK.frame hMr_136 go_.2.2.2.1 ma0_ ka0_ (by decide) (by decide) hG_47
                                have hG_138 := cOK.frame hMr_136 go_.2.2.2.1 mq2_ kq2_ (by decide) (by decide) hG_48
                                have hG_139 := dOK.frame hMr_136 go_.2.2.2.1 mq2_ kq2_ (by decide) (by decide) hG_49
                                have hG_140 := jS.frame hMr_136 go_.2.2.2.1 mq2_ kq2_ (by decide) (by decide) hG_50
                                have hG_141 := eJx.frame hMr_136 go_.2.2.2.1 ma0_ ka0_ (by decide) (by decide) hG_51
                                have go_ := g
                                refine g_callv (va_runV (As := [.int 1, .int r_136]) (rest := []) ⟨hx, hb, hml, hown, hts⟩ (r_X8_fail l dC dI L kd tys fr_136 H.size g.2.2.2.1 q0_ mq0_ kq0_ 1 (bd_sub kb_1 (by decide)) r_136 y0_ by0_ (g.fcts [7] rfl)) (cwV 2 hts (gV_ t_1215 t_1107 t_1108 t_184 t_1109) rfl rfl rfl (by decide +kernel) ⟨(Nat.le_of_ble_eq_true rfl), (Nat.le_of_ble_eq_true rfl)⟩) (pre3V g hK mq0_ kq0_ (by decide) (q := (RX8, TX8, 10)) rfl) rfl rfl hl.1 rfl (lv_room (Nat.le_of_ble_eq_true rfl)) dX0_read_219 ⟨(Nat.le_of_ble_eq_true rfl), (Nat.le_of_ble_eq_true rfl)⟩) g hK (by decide) (by decide) (fx' := [(0, 12, a0_, .int x_52), (0, 13, a0_, .int x_40), (0, 2, a0_, .ref q2_), (0, 0, a0_, .ref q0_), (0, 1, a0_, .ref q1_), (5, 0, q1_, .ref q2_), (5, 1, q1_, .ref q3_)]) rfl (fun fr_142 H locs hp hMr_142 g => ?_)
                                obtain ⟨x_143, h_144, hF_145⟩ := hp
                                have hG_146 := eOK.frame hMr_142 go_.2.2.2.1 ma0_ ka0_ (by decide) (by decide) hG_137
                                have hG_147 := cOK.frame hMr_142 go_.2.2.2.1 mq2_ kq2_ (by decide) (by decide) hG_138
                                have hG_148 := dOK.frame hMr_142 go_.2.2.2.1 mq2_ kq2_ (by decide) (by decide) hG_139
                                have hG_149 := jS.frame hMr_142 go_.2.2.2.1 mq2_ kq2_ (by decide) (by decide) hG_140
                                have hG_150 := eJx.frame hMr_142 go_.2.2.2.1 ma0_ ka0_ (by decide) (by decide) hG_141
                                have g := g.more hF_145
                                obtain ⟨y_151, ey_151⟩ : ∃ z : Int32, z = v38_1 + 1 := ⟨_, rfl⟩
                                refine lv_iinc (v := y_151) (lv' := [(1, .int y_151), (2, .int r_46), (0, .ref a0_)]) hx hb dX0_read_222 hl (k := 1) rfl (by rw [ey_151]; rfl) (by decide) rfl (fun ls hl => ?_)
                                have ty_151 := add_bd ey_151 b_39 kb_1 (by decide)
                                have b_152 : bd 1 2401 y_151 := add_rg ty_151 b_39 kb_1 (by decide)
                                refine lv_goto (tgt := 38) hx hb dX0_read_225 (by decide) ?_
                                refine lv_iload_n hx hb dX0_read_38 rfl (lv_at hl 0 rfl) ?_
                                refine lv_sipush (v := 2400) hx hb dX0_read_39 (by decide) ?_
                                refine lv_icmp_gt (tgt := 228) hx hb dX0_read_42 (by decide) (fun c_153 => ?_) (fun c_153 => ?_)
                                · have fc_153 := lt_f c_153
                                  have b_154 : bd 2401 2401 y_151 := ltR fc_153 kb_2400 b_152 (by decide)
                                  have b_155 : bd 2400 2400 v38_1 := add_inv ty_151 b_154 b_39 kb_1 (by decide)
                                  have kb_1201 : bd 1201 1201 (1201 : Int32) := ⟨by decide, by decide⟩
                                  subst hQ
                                  exact W.vret hx hb hr (fun t ht hW => ⟨⟨_, rfl, Or.inr (⟨hG_146, hG_148, 1201, kb_1201, x_143, h_144, (g.fcts [0, 1, 4] rfl)⟩), q3_of g hK ht hW⟩, g.2.2.1.F ht⟩) g.2.2.1.2.2 dX0_read_228
                                · have fc_153 := nlt_f c_153
                                  have b_156 : bd 1 2400 y_151 := leL fc_153 b_152 kb_2400 (by decide)
                                  have b_157 : bd 0 2399 v38_1 := add_inv ty_151 b_156 b_39 kb_1 (by decide)
                                  refine lv_aload_n hx hb dX0_read_45 rfl (lv_at hl 2 rfl) ?_
                                  refine g_getk (C := RX0) (T := TX0) (N := 14) hx hb hts (mc_ inX0) hown hK g rfl 13 (by decide) rfl (hts _ (List.mem_cons_of_mem _ t_386)) (fun _ h9 => h9) 3 rfl dX0_read_46 ?_
                                  refine lv_if_ne (tgt := 228) hx hb dX0_read_49 (by decide) (fun c_158 => ?_) (fun c_158 => ?_)
                                  · have fc_158 := neq_f c_158
                                    have b_159 : bd 1 (-1) x_40 := neX fc_158 b_43 kb_0 (by decide)
                                    exact bd_no b_159 (by decide)
                                  · have fc_158 := eq_f c_158
                                    refine lv_aload_n hx hb dX0_read_52 rfl (lv_at hl 2 rfl) ?_
                                    refine g_getk (C := RX0) (T := TX0) (N := 14) hx hb hts (mc_ inX0) hown hK g rfl 0 (by decide) rfl (hts _ (List.mem_cons_of_mem _ t_373)) (fun _ h9 => h9) 5 rfl dX0_read_53 ?_
                                    refine g_getk (C := RX8) (T := TX8) (N := 10) hx hb hts (mc_ inX8) hown hK g rfl 8 (by decide) rfl (hts _ (List.mem_cons_of_mem _ t_293)) (fun _ h9 => h9) 1 rfl dX0_read_56 ?_
                                    refine lv_if_ne (tgt := 228) hx hb dX0_read_59 (by decide) (fun c_160 => ?_) (fun c_160 => ?_)
                                    · have fc_160 := neq_f c_160
                                      have kb_1201 : bd 1201 1201 (1201 : Int32) := ⟨by decide, by decide⟩
                                      subst hQ
                                      exact W.vret hx hb hr (fun t ht hW => ⟨⟨_, rfl, Or.inr (⟨hG_146, hG_148, 1201, kb_1201, x_143, h_144, (g.fcts [0, 1, 4] rfl)⟩), q3_of g hK ht hW⟩, g.2.2.1.F ht⟩) g.2.2.1.2.2 dX0_read_228
                                    · have fc_160 := eq_f c_160
                                      have b_161 : bd 1 0 x_143 := eqX fc_160 h_144 kb_0 (by decide)
                                      exact bd_no b_161 (by decide)
                              · have fc_135 := eq_f c_135
                                have b_162 : bd 29 29 r_46 := eqX fc_135 (bdT r_46) kb_29 (by decide)
                                refine lv_aload_n hx hb dX0_read_190 rfl (lv_at hl 2 rfl) ?_
                                refine g_getk (C := RX0) (T := TX0) (N := 14) hx hb hts (mc_ inX0) hown hK g rfl 1 (by decide) rfl (hts _ (List.mem_cons_of_mem _ t_374)) (fun _ h9 => h9) 4 rfl dX0_read_191 ?_
                                refine g_geti (C := RX5) (T := TX5) (N := 9) hx hb hts (mc_ inX5) hown hK g mq1_ kq1_ (by decide) rfl 8 (by decide) rfl (hts _ (List.mem_cons_of_mem _ t_346)) (fun _ h9 => h9) rfl dX0_read_194 (fun x_163 bx_163 g => ?_)
                                refine lv_if_eq (tgt := 207) hx hb dX0_read_197 (by decide) (fun c_164 => ?_) (fun c_164 => ?_)
                                · have fc_164 := eq_f c_164
                                  have b_165 : bd 0 0 x_163 := eqX fc_164 bx_163 kb_0 (by decide)
                                  refine lv_aload_n hx hb dX0_read_207 rfl (lv_at hl 2 rfl) ?_
                                  refine g_getk (C := RX0) (T := TX0) (N := 14) hx hb hts (mc_ inX0) hown hK g rfl 0 (by decide) rfl (hts _ (List.mem_cons_of_mem _ t_373)) (fun _ h9 => h9) 4 rfl dX0_read_208 ?_
                                  refine lv_iconst (v := 1) hx hb dX0_read_211 (by decide) ?_
                                  refine lv_aload_n hx hb dX0_read_212 rfl (lv_at hl 2 rfl) ?_
                                  refine g_getk (C := RX0) (T := TX0) (N := 14) hx hb hts (mc_ inX0) hown hK g rfl 0 (by decide) rfl (hts _ (List.mem_cons_of_mem _ t_373)) (fun _ h9 => h9) 4 rfl dX0_read_213 ?_
                                  have go_ := g
                                  refine g_calli (va_runV (As := []) (rest := [.int 1, .ref q0_]) ⟨hx, hb, hml, hown, hts⟩ (r_X8_place l dC dI L kd tys fr_46 H.size g.2.2.2.1 q0_ mq0_ kq0_) (cwV 0 hts (gV_ t_1220 t_1111 t_1112 t_184 t_1113) rfl rfl rfl (by decide +kernel) ⟨(Nat.le_of_ble_eq_true rfl), (Nat.le_of_ble_eq_true rfl)⟩) (pre3V g hK mq0_ kq0_ (by decide) (q := (RX8, TX8, 10)) rfl) rfl rfl hl.1 rfl (lv_room (Nat.le_of_ble_eq_true rfl)) dX0_read_216 ⟨(Nat.le_of_ble_eq_true rfl), (Nat.le_of_ble_eq_true rfl)⟩) g hK (by decide) (by decide) (fx' := [(5, 8, q1_, .int x_163), (0, 12, a0_, .int x_52), (0, 13, a0_, .int x_40), (0, 2, a0_, .ref q2_), (0, 0, a0_, .ref q0_), (0, 1, a0_, .ref q1_), (5, 0, q1_, .ref q2_), (5, 1, q1_, .ref q3_), (8, 8, q0_, .int y0_)]) rfl (fun r_166 fr_166 H locs hp hMr_166 g => ?_)
                                  have hG_167 := eOK.frame hMr_166 go_.2.2.2.1 ma0_ ka0_ (by decide) (by decide) hG_47
                                  have hG_168 := cOK.frame hMr_166 go_.2.2.2.1 mq2_ kq2_ (by decide) (by decide) hG_48
                                  have hG_169 := dOK.frame hMr_166 go_.2.2.2.1 mq2_ kq2_ (by decide) (by decide) hG_49
                                  have hG_170 := jS.frame hMr_166 go_.2.2.2.1 mq2_ kq2_ (by decide) (by decide) hG_50
                                  have hG_171 := eJx.frame hMr_166 go_.2.2.2.1 ma0_ ka0_ (by decide) (by decide) hG_51
                                  have go_ := g
                                  refine g_callv (va_runV (As := [.int 1, .int r_166]) (rest := []) ⟨hx, hb, hml, hown, hts⟩ (r_X8_fail l dC dI L kd tys fr_166 H.size g.2.2.2.1 q0_ mq0_ kq0_ 1 (bd_sub kb_1 (by decide)) r_166 y0_ by0_ (g.fcts [8] rfl)) (cwV 2 hts (gV_ t_1215 t_1107 t_1108 t_184 t_1109) rfl rfl rfl (by decide +kernel) ⟨(Nat.le_of_ble_eq_true rfl), (Nat.le_of_ble_eq_true rfl)⟩) (pre3V g hK mq0_ kq0_ (by decide) (q := (RX8, TX8, 10)) rfl) rfl rfl hl.1 rfl (lv_room (Nat.le_of_ble_eq_true rfl)) dX0_read_219 ⟨(Nat.le_of_ble_eq_true rfl), (Nat.le_of_ble_eq_true rfl)⟩) g hK (by decide) (by decide) (fx' := [(5, 8, q1_, .int x_163), (0, 12, a0_, .int x_52), (0, 13, a0_, .int x_40), (0, 2, a0_, .ref q2_), (0, 0, a0_, .ref q0_), (0, 1, a0_, .ref q1_), (5, 0, q1_, .ref q2_), (5, 1, q1_, .ref q3_)]) rfl (fun fr_172 H locs hp hMr_172 g => ?_)
                                  obtain ⟨x_173, h_174, hF_175⟩ := hp
                                  have hG_176 := eOK.frame hMr_172 go_.2.2.2.1 ma0_ ka0_ (by decide) (by decide) hG_167
                                  have hG_177 := cOK.frame hMr_172 go_.2.2.2.1 mq2_ kq2_ (by decide) (by decide) hG_168
                                  have hG_178 := dOK.frame hMr_172 go_.2.2.2.1 mq2_ kq2_ (by decide) (by decide) hG_169
                                  have hG_179 := jS.frame hMr_172 go_.2.2.2.1 mq2_ kq2_ (by decide) (by decide) hG_170
                                  have hG_180 := eJx.frame hMr_172 go_.2.2.2.1 ma0_ ka0_ (by decide) (by decide) hG_171
                                  have g := g.more hF_175
                                  obtain ⟨y_181, ey_181⟩ : ∃ z : Int32, z = v38_1 + 1 := ⟨_, rfl⟩
                                  refine lv_iinc (v := y_181) (lv' := [(1, .int y_181), (2, .int r_46), (0, .ref a0_)]) hx hb dX0_read_222 hl (k := 1) rfl (by rw [ey_181]; rfl) (by decide) rfl (fun ls hl => ?_)
                                  have ty_181 := add_bd ey_181 b_39 kb_1 (by decide)
                                  have b_182 : bd 1 2401 y_181 := add_rg ty_181 b_39 kb_1 (by decide)
                                  refine lv_goto (tgt := 38) hx hb dX0_read_225 (by decide) ?_
                                  refine lv_iload_n hx hb dX0_read_38 rfl (lv_at hl 0 rfl) ?_
                                  refine lv_sipush (v := 2400) hx hb dX0_read_39 (by decide) ?_
                                  refine lv_icmp_gt (tgt := 228) hx hb dX0_read_42 (by decide) (fun c_183 => ?_) (fun c_183 => ?_)
                                  · have fc_183 := lt_f c_183
                                    have b_184 : bd 2401 2401 y_181 := ltR fc_183 kb_2400 b_182 (by decide)
                                    have b_185 : bd 2400 2400 v38_1 := add_inv ty_181 b_184 b_39 kb_1 (by decide)
                                    have kb_1201 : bd 1201 1201 (1201 : Int32) := ⟨by decide, by decide⟩
                                    subst hQ
                                    exact W.vret hx hb hr (fun t ht hW => ⟨⟨_, rfl, Or.inr (⟨hG_176, hG_178, 1201, kb_1201, x_173, h_174, (g.fcts [0, 1, 5] rfl)⟩), q3_of g hK ht hW⟩, g.2.2.1.F ht⟩) g.2.2.1.2.2 dX0_read_228
                                  · have fc_183 := nlt_f c_183
                                    have b_186 : bd 1 2400 y_181 := leL fc_183 b_182 kb_2400 (by decide)
                                    have b_187 : bd 0 2399 v38_1 := add_inv ty_181 b_186 b_39 kb_1 (by decide)
                                    refine lv_aload_n hx hb dX0_read_45 rfl (lv_at hl 2 rfl) ?_
                                    refine g_getk (C := RX0) (T := TX0) (N := 14) hx hb hts (mc_ inX0) hown hK g rfl 13 (by decide) rfl (hts _ (List.mem_cons_of_mem _ t_386)) (fun _ h9 => h9) 4 rfl dX0_read_46 ?_
                                    refine lv_if_ne (tgt := 228) hx hb dX0_read_49 (by decide) (fun c_188 => ?_) (fun c_188 => ?_)
                                    · have fc_188 := neq_f c_188
                                      have b_189 : bd 1 (-1) x_40 := neX fc_188 b_43 kb_0 (by decide)
                                      exact bd_no b_189 (by decide)
                                    · have fc_188 := eq_f c_188
                                      refine lv_aload_n hx hb dX0_read_52 rfl (lv_at hl 2 rfl) ?_
                                      refine g_getk (C := RX0) (T := TX0) (N := 14) hx hb hts (mc_ inX0) hown hK g rfl 0 (by decide) rfl (hts _ (List.mem_cons_of_mem _ t_373)) (fun _ h9 => h9) 6 rfl dX0_read_53 ?_
                                      refine g_getk (C := RX8) (T := TX8) (N := 10) hx hb hts (mc_ inX8) hown hK g rfl 8 (by decide) rfl (hts _ (List.mem_cons_of_mem _ t_293)) (fun _ h9 => h9) 1 rfl dX0_read_56 ?_
                                      refine lv_if_ne (tgt := 228) hx hb dX0_read_59 (by decide) (fun c_190 => ?_) (fun c_190 => ?_)
                                      · have fc_190 := neq_f c_190
                                        have kb_1201 : bd 1201 1201 (1201 : Int32) := ⟨by decide, by decide⟩
                                        subst hQ
                                        exact W.vret hx hb hr (fun t ht hW => ⟨⟨_, rfl, Or.inr (⟨hG_176, hG_178, 1201, kb_1201, x_173, h_174, (g.fcts [0, 1, 5] rfl)⟩), q3_of g hK ht hW⟩, g.2.2.1.F ht⟩) g.2.2.1.2.2 dX0_read_228
                                      · have fc_190 := eq_f c_190
                                        have b_191 : bd 1 0 x_173 := eqX fc_190 h_174 kb_0 (by decide)
                                        exact bd_no b_191 (by decide)
                                · have fc_164 := neq_f c_164
                                  have b_192 : bd 1 1 x_163 := neX fc_164 bx_163 kb_0 (by decide)
                                  refine lv_aload_n hx hb dX0_read_200 rfl (lv_at hl 2 rfl) ?_
                                  have go_ := g
                                  refine g_callv (va_runV (As := []) (rest := []) ⟨hx, hb, hml, hown, hts⟩ (r_X0_readResult l dC dI L kd tys fr_46 H.size g.2.2.2.1 a0_ ma0_ ka0_ q0_ mq0_ kq0_ q2_ mq2_ kq2_ y0_ by0_ T_ (fun j9 => jOK fr_46 q2_ j9) hG_48 hG_49 (fun _ h9 => h9) (g.fcts [4, 3, 8] rfl)) (cwV 0 hts (gV_ t_1297 t_1299 t_31 t_190 t_1300) rfl rfl rfl (by decide +kernel) ⟨(Nat.le_of_ble_eq_true rfl), (Nat.le_of_ble_eq_true rfl)⟩) (pre3V g hK ma0_ ka0_ (by decide) (q := (RX0, TX0, 14)) rfl) rfl rfl hl.1 rfl (lv_room (Nat.le_of_ble_eq_true rfl)) dX0_read_201 ⟨(Nat.le_of_ble_eq_true rfl), (Nat.le_of_ble_eq_true rfl)⟩) g hK (by decide) (by decide) (fx' := [(5, 8, q1_, .int x_163), (0, 13, a0_, .int x_40), (0, 2, a0_, .ref q2_), (0, 0, a0_, .ref q0_), (0, 1, a0_, .ref q1_), (5, 0, q1_, .ref q2_), (5, 1, q1_, .ref q3_), (8, 8, q0_, .int y0_)]) rfl (fun fr_193 H locs hp hMr_193 g => ?_)
                                  obtain ⟨hG_194, hG_195, hG_196, x_197, h_198, x_199, h_200, hF_201⟩ := hp
                                  have hG_202 := eOK.frame hMr_193 go_.2.2.2.1 ma0_ ka0_ (by decide) (by decide) hG_47
                                  have g := g.more hF_201
                                  have hs_203 := jS.mv hG_50 hG_196
                                  have hG_204 := eJx.mv hG_51 hMr_193 go_.2.2.2.1 ma0_ ka0_ (by decide) (by decide) (((hMr_193 a0_ ma0_).1 2 (by rw [ka0_]; decide) (by rw [ka0_]; decide)).symm.trans (fx_at g (i := 5) rfl).2.2.2) hG_196
                                  refine lv_goto (tgt := 222) hx hb dX0_read_204 (by decide) ?_
                                  obtain ⟨y_205, ey_205⟩ : ∃ z : Int32, z = v38_1 + 1 := ⟨_, rfl⟩
                                  refine lv_iinc (v := y_205) (lv' := [(1, .int y_205), (2, .int r_46), (0, .ref a0_)]) hx hb dX0_read_222 hl (k := 1) rfl (by rw [ey_205]; rfl) (by decide) rfl (fun ls hl => ?_)
                                  have ty_205 := add_bd ey_205 b_39 kb_1 (by decide)
                                  have b_206 : bd 1 2401 y_205 := add_rg ty_205 b_39 kb_1 (by decide)
                                  refine lv_goto (tgt := 38) hx hb dX0_read_225 (by decide) ?_
                                  have hl9 := lv_sub hl [0, 2] (by rfl : lv_pick [(1, .int y_205), (2, .int r_46), (0, .ref a0_)] [0, 2] = [(1, .int y_205), (0, .ref a0_)])
                                  have g9 := g.sub (fx' := [(0, 2, a0_, .ref q2_), (0, 0, a0_, .ref q0_), (0, 1, a0_, .ref q1_), (5, 0, q1_, .ref q2_), (5, 1, q1_, .ref q3_), (8, 8, q0_, .int y0_)]) [5, 6, 7, 8, 9, 10] rfl
                                  exact ih38  y_205 (bd_sub b_206 (by decide)) (by have h9_0 := b_206; unfold bd at h9_0; have h9_1 := bv38_1; unfold bd at h9_1; have h9_2 := h_198; unfold bd at h9_2; have h9_3 := kb_0; unfold bd at h9_3; have h9_4 := kb_1; unfold bd at h9_4; have h9_5 := kb_11; unfold bd at h9_5; have h9_6 := kb_2400; unfold bd at h9_6; have h9_7 := kb_28; unfold bd at h9_7; have h9_8 := kb_29; unfold bd at h9_8; have h9_9 := kb_3; unfold bd at h9_9; have h9_10 := kb_30; unfold bd at h9_10; have h9_11 := kb_33; unfold bd at h9_11; have h9_12 := kb_4; unfold bd at h9_12; have h9_13 := kb_40; unfold bd at h9_13; have h9_14 := kb_45; unfold bd at h9_14; omega) _ _ _ _ g9 hG_202 hG_194 hG_195 hs_203 hG_204 hl9
                            · have fc_134 := eq_f c_134
                              have b_207 : bd 28 28 r_46 := eqX fc_134 (bdT r_46) kb_28 (by decide)
                              refine lv_aload_n hx hb dX0_read_167 rfl (lv_at hl 2 rfl) ?_
                              refine g_getk (C := RX0) (T := TX0) (N := 14) hx hb hts (mc_ inX0) hown hK g rfl 1 (by decide) rfl (hts _ (List.mem_cons_of_mem _ t_374)) (fun _ h9 => h9) 4 rfl dX0_read_168 ?_
                              refine g_geti (C := RX5) (T := TX5) (N := 9) hx hb hts (mc_ inX5) hown hK g mq1_ kq1_ (by decide) rfl 8 (by decide) rfl (hts _ (List.mem_cons_of_mem _ t_346)) (fun _ h9 => h9) rfl dX0_read_171 (fun x_208 bx_208 g => ?_)
                              refine lv_if_eq (tgt := 184) hx hb dX0_read_174 (by decide) (fun c_209 => ?_) (fun c_209 => ?_)
                              · have fc_209 := eq_f c_209
                                have b_210 : bd 0 0 x_208 := eqX fc_209 bx_208 kb_0 (by decide)
                                refine lv_iload_n hx hb dX0_read_184 rfl (lv_at hl 0 rfl) ?_
                                refine lv_bipush (v := 29) hx hb dX0_read_185 (by decide) ?_
                                have kb_29 : bd 29 29 (29 : Int32) := ⟨by decide, by decide⟩
                                refine lv_icmp_ne (tgt := 207) hx hb dX0_read_187 (by decide) (fun c_211 => ?_) (fun c_211 => ?_)
                                · have fc_211 := neq_f c_211
                                  refine lv_aload_n hx hb dX0_read_207 rfl (lv_at hl 2 rfl) ?_
                                  refine g_getk (C := RX0) (T := TX0) (N := 14) hx hb hts (mc_ inX0) hown hK g rfl 0 (by decide) rfl (hts _ (List.mem_cons_of_mem _ t_373)) (fun _ h9 => h9) 4 rfl dX0_read_208 ?_
                                  refine lv_iconst (v := 1) hx hb dX0_read_211 (by decide) ?_
                                  refine lv_aload_n hx hb dX0_read_212 rfl (lv_at hl 2 rfl) ?_
                                  refine g_getk (C := RX0) (T := TX0) (N := 14) hx hb hts (mc_ inX0) hown hK g rfl 0 (by decide) rfl (hts _ (List.mem_cons_of_mem _ t_373)) (fun _ h9 => h9) 4 rfl dX0_read_213 ?_
                                  have go_ := g
                                  refine g_calli (va_runV (As := []) (rest := [.int 1, .ref q0_]) ⟨hx, hb, hml, hown, hts⟩ (r_X8_place l dC dI L kd tys fr_46 H.size g.2.2.2.1 q0_ mq0_ kq0_) (cwV 0 hts (gV_ t_1220 t_1111 t_1112 t_184 t_1113) rfl rfl rfl (by decide +kernel) ⟨(Nat.le_of_ble_eq_true rfl), (Nat.le_of_ble_eq_true rfl)⟩) (pre3V g hK mq0_ kq0_ (by decide) (q := (RX8, TX8, 10)) rfl) rfl rfl hl.1 rfl (lv_room (Nat.le_of_ble_eq_true rfl)) dX0_read_216 ⟨(Nat.le_of_ble_eq_true rfl), (Nat.le_of_ble_eq_true rfl)⟩) g hK (by decide) (by decide) (fx' := [(5, 8, q1_, .int x_208), (0, 12, a0_, .int x_52), (0, 13, a0_, .int x_40), (0, 2, a0_, .ref q2_), (0, 0, a0_, .ref q0_), (0, 1, a0_, .ref q1_), (5, 0, q1_, .ref q2_), (5, 1, q1_, .ref q3_), (8, 8, q0_, .int y0_)]) rfl (fun r_212 fr_212 H locs hp hMr_212 g => ?_)
                                  have hG_213 := eOK.frame hMr_212 go_.2.2.2.1 ma0_ ka0_ (by decide) (by decide) hG_47
                                  have hG_214 := cOK.frame hMr_212 go_.2.2.2.1 mq2_ kq2_ (by decide) (by decide) hG_48
                                  have hG_215 := dOK.frame hMr_212 go_.2.2.2.1 mq2_ kq2_ (by decide) (by decide) hG_49
                                  have hG_216 := jS.frame hMr_212 go_.2.2.2.1 mq2_ kq2_ (by decide) (by decide) hG_50
                                  have hG_217 := eJx.frame hMr_212 go_.2.2.2.1 ma0_ ka0_ (by decide) (by decide) hG_51
                                  have go_ := g
                                  refine g_callv (va_runV (As := [.int 1, .int r_212]) (rest := []) ⟨hx, hb, hml, hown, hts⟩ (r_X8_fail l dC dI L kd tys fr_212 H.size g.2.2.2.1 q0_ mq0_ kq0_ 1 (bd_sub kb_1 (by decide)) r_212 y0_ by0_ (g.fcts [8] rfl)) (cwV 2 hts (gV_ t_1215 t_1107 t_1108 t_184 t_1109) rfl rfl rfl (by decide +kernel) ⟨(Nat.le_of_ble_eq_true rfl), (Nat.le_of_ble_eq_true rfl)⟩) (pre3V g hK mq0_ kq0_ (by decide) (q := (RX8, TX8, 10)) rfl) rfl rfl hl.1 rfl (lv_room (Nat.le_of_ble_eq_true rfl)) dX0_read_219 ⟨(Nat.le_of_ble_eq_true rfl), (Nat.le_of_ble_eq_true rfl)⟩) g hK (by decide) (by decide) (fx' := [(5, 8, q1_, .int x_208), (0, 12, a0_, .int x_52), (0, 13, a0_, .int x_40), (0, 2, a0_, .ref q2_), (0, 0, a0_, .ref q0_), (0, 1, a0_, .ref q1_), (5, 0, q1_, .ref q2_), (5, 1, q1_, .ref q3_)]) rfl (fun fr_218 H locs hp hMr_218 g => ?_)
                                  obtain ⟨x_219, h_220, hF_221⟩ := hp
                                  have hG_222 := eOK.frame hMr_218 go_.2.2.2.1 ma0_ ka0_ (by decide) (by decide) hG_213
                                  have hG_223 := cOK.frame hMr_218 go_.2.2.2.1 mq2_ kq2_ (by decide) (by decide) hG_214
                                  have hG_224 := dOK.frame hMr_218 go_.2.2.2.1 mq2_ kq2_ (by decide) (by decide) hG_215
                                  have hG_225 := jS.frame hMr_218 go_.2.2.2.1 mq2_ kq2_ (by decide) (by decide) hG_216
                                  have hG_226 := eJx.frame hMr_218 go_.2.2.2.1 ma0_ ka0_ (by decide) (by decide) hG_217
                                  have g := g.more hF_221
                                  obtain ⟨y_227, ey_227⟩ : ∃ z : Int32, z = v38_1 + 1 := ⟨_, rfl⟩
                                  refine lv_iinc (v := y_227) (lv' := [(1, .int y_227), (2, .int r_46), (0, .ref a0_)]) hx hb dX0_read_222 hl (k := 1) rfl (by rw [ey_227]; rfl) (by decide) rfl (fun ls hl => ?_)
                                  have ty_227 := add_bd ey_227 b_39 kb_1 (by decide)
                                  have b_228 : bd 1 2401 y_227 := add_rg ty_227 b_39 kb_1 (by decide)
                                  refine lv_goto (tgt := 38) hx hb dX0_read_225 (by decide) ?_
                                  refine lv_iload_n hx hb dX0_read_38 rfl (lv_at hl 0 rfl) ?_
                                  refine lv_sipush (v := 2400) hx hb dX0_read_39 (by decide) ?_
                                  refine lv_icmp_gt (tgt := 228) hx hb dX0_read_42 (by decide) (fun c_229 => ?_) (fun c_229 => ?_)
                                  · have fc_229 := lt_f c_229
                                    have b_230 : bd 2401 2401 y_227 := ltR fc_229 kb_2400 b_228 (by decide)
                                    have b_231 : bd 2400 2400 v38_1 := add_inv ty_227 b_230 b_39 kb_1 (by decide)
                                    have kb_1201 : bd 1201 1201 (1201 : Int32) := ⟨by decide, by decide⟩
                                    subst hQ
                                    exact W.vret hx hb hr (fun t ht hW => ⟨⟨_, rfl, Or.inr (⟨hG_222, hG_224, 1201, kb_1201, x_219, h_220, (g.fcts [0, 1, 5] rfl)⟩), q3_of g hK ht hW⟩, g.2.2.1.F ht⟩) g.2.2.1.2.2 dX0_read_228
                                  · have fc_229 := nlt_f c_229
                                    have b_232 : bd 1 2400 y_227 := leL fc_229 b_228 kb_2400 (by decide)
                                    have b_233 : bd 0 2399 v38_1 := add_inv ty_227 b_232 b_39 kb_1 (by decide)
                                    refine lv_aload_n hx hb dX0_read_45 rfl (lv_at hl 2 rfl) ?_
                                    refine g_getk (C := RX0) (T := TX0) (N := 14) hx hb hts (mc_ inX0) hown hK g rfl 13 (by decide) rfl (hts _ (List.mem_cons_of_mem _ t_386)) (fun _ h9 => h9) 4 rfl dX0_read_46 ?_
                                    refine lv_if_ne (tgt := 228) hx hb dX0_read_49 (by decide) (fun c_234 => ?_) (fun c_234 => ?_)
                                    · have fc_234 := neq_f c_234
                                      have b_235 : bd 1 (-1) x_40 := neX fc_234 b_43 kb_0 (by decide)
                                      exact bd_no b_235 (by decide)
                                    · have fc_234 := eq_f c_234
                                      refine lv_aload_n hx hb dX0_read_52 rfl (lv_at hl 2 rfl) ?_
                                      refine g_getk (C := RX0) (T := TX0) (N := 14) hx hb hts (mc_ inX0) hown hK g rfl 0 (by decide) rfl (hts _ (List.mem_cons_of_mem _ t_373)) (fun _ h9 => h9) 6 rfl dX0_read_53 ?_
                                      refine g_getk (C := RX8) (T := TX8) (N := 10) hx hb hts (mc_ inX8) hown hK g rfl 8 (by decide) rfl (hts _ (List.mem_cons_of_mem _ t_293)) (fun _ h9 => h9) 1 rfl dX0_read_56 ?_
                                      refine lv_if_ne (tgt := 228) hx hb dX0_read_59 (by decide) (fun c_236 => ?_) (fun c_236 => ?_)
                                      · have fc_236 := neq_f c_236
                                        have kb_1201 : bd 1201 1201 (1201 : Int32) := ⟨by decide, by decide⟩
                                        subst hQ
                                        exact W.vret hx hb hr (fun t ht hW => ⟨⟨_, rfl, Or.inr (⟨hG_222, hG_224, 1201, kb_1201, x_219, h_220, (g.fcts [0, 1, 5] rfl)⟩), q3_of g hK ht hW⟩, g.2.2.1.F ht⟩) g.2.2.1.2.2 dX0_read_228
                                      · have fc_236 := eq_f c_236
                                        have b_237 : bd 1 0 x_219 := eqX fc_236 h_220 kb_0 (by decide)
                                        exact bd_no b_237 (by decide)
                                · have fc_211 := eq_f c_211
                                  have b_238 : bd 29 28 r_46 := eqX fc_211 b_207 kb_29 (by decide)
                                  exact bd_no b_238 (by decide)
                              · have fc_209 := neq_f c_209
                                have b_239 : bd 1 1 x_208 := neX fc_209 bx_208 kb_0 (by decide)
                                refine lv_aload_n hx hb dX0_read_177 rfl (lv_at hl 2 rfl) ?_
                                have go_ := g
                                refine g_callv (va_runV (As := []) (rest := []) ⟨hx, hb, hml, hown, hts⟩ (r_X0_readOld_2 l dC dI L kd tys fr_46 H.size g.2.2.2.1 a0_ ma0_ ka0_ q0_ mq0_ kq0_ q1_ mq1_ kq1_ q2_ mq2_ kq2_ q3_ mq3_ kq3_ y0_ by0_ T_ (fun j9 => jOK fr_46 q2_ j9) hG_51 hG_48 hG_49 (fun _ h9 => h9) hG_47 (g.fcts [4, 5, 3, 7, 8] rfl)) (cwV 0 hts (gV_ t_1293 t_1295 t_30 t_190 t_1296) rfl rfl rfl (by decide +kernel) ⟨(Nat.le_of_ble_eq_true rfl), (Nat.le_of_ble_eq_true rfl)⟩) (pre3V g hK ma0_ ka0_ (by decide) (q := (RX0, TX0, 14)) rfl) rfl rfl hl.1 rfl (lv_room (Nat.le_of_ble_eq_true rfl)) dX0_read_178 ⟨(Nat.le_of_ble_eq_true rfl), (Nat.le_of_ble_eq_true rfl)⟩) g hK (by decide) (by decide) (fx' := [(5, 8, q1_, .int x_208), (0, 13, a0_, .int x_40), (0, 2, a0_, .ref q2_), (0, 0, a0_, .ref q0_), (0, 1, a0_, .ref q1_), (5, 0, q1_, .ref q2_), (5, 1, q1_, .ref q3_)]) rfl (fun fr_240 H locs hp hMr_240 g => ?_)
                                rcases hp with ⟨hG_241, hG_242, hG_243, hG_244, hG_245, x_246, h_247, x_248, h_249, hF_250⟩ | ⟨hG_251, hG_252, x_253, h_254, x_255, h_256, hF_257⟩
                                · have g := g.more hF_250
                                  have hs_258 := jS.mv hG_50 hG_244
                                  refine lv_goto (tgt := 222) hx hb dX0_read_181 (by decide) ?_
                                  obtain ⟨y_259, ey_259⟩ : ∃ z : Int32, z = v38_1 + 1 := ⟨_, rfl⟩
                                  refine lv_iinc (v := y_259) (lv' := [(1, .int y_259), (2, .int r_46), (0, .ref a0_)]) hx hb dX0_read_222 hl (k := 1) rfl (by rw [ey_259]; rfl) (by decide) rfl (fun ls hl => ?_)
                                  have ty_259 := add_bd ey_259 b_39 kb_1 (by decide)
                                  have b_260 : bd 1 2401 y_259 := add_rg ty_259 b_39 kb_1 (by decide)
                                  refine lv_goto (tgt := 38) hx hb dX0_read_225 (by decide) ?_
                                  have hl9 := lv_sub hl [0, 2] (by rfl : lv_pick [(1, .int y_259), (2, .int r_46), (0, .ref a0_)] [0, 2] = [(1, .int y_259), (0, .ref a0_)])
                                  have g9 := g.sub (fx' := [(0, 2, a0_, .ref q2_), (0, 0, a0_, .ref q0_), (0, 1, a0_, .ref q1_), (5, 0, q1_, .ref q2_), (5, 1, q1_, .ref q3_), (8, 8, q0_, .int y0_)]) [5, 6, 7, 8, 9, 1] rfl
                                  exact ih38  y_259 (bd_sub b_260 (by decide)) (by have h9_0 := b_260; unfold bd at h9_0; have h9_1 := bv38_1; unfold bd at h9_1; have h9_2 := h_249; unfold bd at h9_2; have h9_3 := kb_0; unfold bd at h9_3; have h9_4 := kb_1; unfold bd at h9_4; have h9_5 := kb_11; unfold bd at h9_5; have h9_6 := kb_2400; unfold bd at h9_6; have h9_7 := kb_28; unfold bd at h9_7; have h9_8 := kb_3; unfold bd at h9_8; have h9_9 := kb_30; unfold bd at h9_9; have h9_10 := kb_33; unfold bd at h9_10; have h9_11 := kb_4; unfold bd at h9_11; have h9_12 := kb_40; unfold bd at h9_12; have h9_13 := kb_45; unfold bd at h9_13; omega) _ _ _ _ g9 hG_245 hG_242 hG_243 hs_258 hG_241 hl9
                                · have g := g.more hF_257
                                  refine lv_goto (tgt := 222) hx hb dX0_read_181 (by decide) ?_
                                  obtain ⟨y_261, ey_261⟩ : ∃ z : Int32, z = v38_1 + 1 := ⟨_, rfl⟩
                                  refine lv_iinc (v := y_261) (lv' := [(1, .int y_261), (2, .int r_46), (0, .ref a0_)]) hx hb dX0_read_222 hl (k := 1) rfl (by rw [ey_261]; rfl) (by decide) rfl (fun ls hl => ?_)
                                  have ty_261 := add_bd ey_261 b_39 kb_1 (by decide)
                                  have b_262 : bd 1 2401 y_261 := add_rg ty_261 b_39 kb_1 (by decide)
                                  refine lv_goto (tgt := 38) hx hb dX0_read_225 (by decide) ?_
                                  refine lv_iload_n hx hb dX0_read_38 rfl (lv_at hl 0 rfl) ?_
                                  refine lv_sipush (v := 2400) hx hb dX0_read_39 (by decide) ?_
                                  refine lv_icmp_gt (tgt := 228) hx hb dX0_read_42 (by decide) (fun c_263 => ?_) (fun c_263 => ?_)
                                  · have fc_263 := lt_f c_263
                                    have b_264 : bd 2401 2401 y_261 := ltR fc_263 kb_2400 b_262 (by decide)
                                    have b_265 : bd 2400 2400 v38_1 := add_inv ty_261 b_264 b_39 kb_1 (by decide)
                                    subst hQ
                                    exact W.vret hx hb hr (fun t ht hW => ⟨⟨_, rfl, Or.inr (⟨hG_252, hG_251, x_253, h_254, x_255, h_256, (g.fcts [0, 1, 4] rfl)⟩), q3_of g hK ht hW⟩, g.2.2.1.F ht⟩) g.2.2.1.2.2 dX0_read_228
                                  · have fc_263 := nlt_f c_263
                                    have b_266 : bd 1 2400 y_261 := leL fc_263 b_262 kb_2400 (by decide)
                                    have b_267 : bd 0 2399 v38_1 := add_inv ty_261 b_266 b_39 kb_1 (by decide)
                                    refine lv_aload_n hx hb dX0_read_45 rfl (lv_at hl 2 rfl) ?_
                                    refine g_getk (C := RX0) (T := TX0) (N := 14) hx hb hts (mc_ inX0) hown hK g rfl 13 (by decide) rfl (hts _ (List.mem_cons_of_mem _ t_386)) (fun _ h9 => h9) 3 rfl dX0_read_46 ?_
                                    refine lv_if_ne (tgt := 228) hx hb dX0_read_49 (by decide) (fun c_268 => ?_) (fun c_268 => ?_)
                                    · have fc_268 := neq_f c_268
                                      have b_269 : bd 1 (-1) x_40 := neX fc_268 b_43 kb_0 (by decide)
                                      exact bd_no b_269 (by decide)
                                    · have fc_268 := eq_f c_268
                                      refine lv_aload_n hx hb dX0_read_52 rfl (lv_at hl 2 rfl) ?_
                                      refine g_getk (C := RX0) (T := TX0) (N := 14) hx hb hts (mc_ inX0) hown hK g rfl 0 (by decide) rfl (hts _ (List.mem_cons_of_mem _ t_373)) (fun _ h9 => h9) 5 rfl dX0_read_53 ?_
                                      refine g_getk (C := RX8) (T := TX8) (N := 10) hx hb hts (mc_ inX8) hown hK g rfl 8 (by decide) rfl (hts _ (List.mem_cons_of_mem _ t_293)) (fun _ h9 => h9) 1 rfl dX0_read_56 ?_
                                      refine lv_if_ne (tgt := 228) hx hb dX0_read_59 (by decide) (fun c_270 => ?_) (fun c_270 => ?_)
                                      · have fc_270 := neq_f c_270
                                        subst hQ
                                        exact W.vret hx hb hr (fun t ht hW => ⟨⟨_, rfl, Or.inr (⟨hG_252, hG_251, x_253, h_254, x_255, h_256, (g.fcts [0, 1, 4] rfl)⟩), q3_of g hK ht hW⟩, g.2.2.1.F ht⟩) g.2.2.1.2.2 dX0_read_228
                                      · have fc_270 := eq_f c_270
                                        have b_271 : bd 1 0 x_255 := eqX fc_270 h_256 kb_0 (by decide)
                                        exact bd_no b_271 (by decide)
                          · have fc_133 := eq_f c_133
                            have b_272 : bd 30 30 r_46 := eqX fc_133 (bdT r_46) kb_30 (by decide)
                            refine lv_aload_n hx hb dX0_read_154 rfl (lv_at hl 2 rfl) ?_
                            have go_ := g
                            refine g_callv (va_runV (As := []) (rest := []) ⟨hx, hb, hml, hown, hts⟩ (r_X0_readSize l dC dI L kd tys fr_46 H.size g.2.2.2.1 a0_ ma0_ ka0_ q0_ mq0_ kq0_ q1_ mq1_ kq1_ q2_ mq2_ kq2_ q3_ mq3_ kq3_ y0_ by0_ T_ (fun j9 => jOK fr_46 q2_ j9) hG_48 hG_49 (fun _ h9 => h9) (g.fcts [3, 4, 2, 6, 7] rfl)) (cwV 0 hts (gV_ t_1285 t_1287 t_28 t_190 t_1288) rfl rfl rfl (by decide +kernel) ⟨(Nat.le_of_ble_eq_true rfl), (Nat.le_of_ble_eq_true rfl)⟩) (pre3V g hK ma0_ ka0_ (by decide) (q := (RX0, TX0, 14)) rfl) rfl rfl hl.1 rfl (lv_room (Nat.le_of_ble_eq_true rfl)) dX0_read_155 ⟨(Nat.le_of_ble_eq_true rfl), (Nat.le_of_ble_eq_true rfl)⟩) g hK (by decide) (by decide) (fx' := [(0, 13, a0_, .int x_40), (0, 2, a0_, .ref q2_), (0, 0, a0_, .ref q0_), (0, 1, a0_, .ref q1_), (5, 0, q1_, .ref q2_), (5, 1, q1_, .ref q3_)]) rfl (fun fr_273 H locs hp hMr_273 g => ?_)
                            rcases hp with ⟨hG_274, hG_275, hG_276, x_277, h_278, x_279, h_280, x_281, h_282, x_283, h_284, hF_285⟩ | ⟨hG_286, x_287, h_288, x_289, h_290, hF_291⟩
                            · have hG_292 := eOK.frame hMr_273 go_.2.2.2.1 ma0_ ka0_ (by decide) (by decide) hG_47
                              have g := g.more hF_285
                              have hs_293 := jS.mv hG_50 hG_276
                              have hG_294 := eJx.mv hG_51 hMr_273 go_.2.2.2.1 ma0_ ka0_ (by decide) (by decide) (((hMr_273 a0_ ma0_).1 2 (by rw [ka0_]; decide) (by rw [ka0_]; decide)).symm.trans (fx_at g (i := 7) rfl).2.2.2) hG_276
                              refine lv_goto (tgt := 222) hx hb dX0_read_158 (by decide) ?_
                              obtain ⟨y_295, ey_295⟩ : ∃ z : Int32, z = v38_1 + 1 := ⟨_, rfl⟩
                              refine lv_iinc (v := y_295) (lv' := [(1, .int y_295), (2, .int r_46), (0, .ref a0_)]) hx hb dX0_read_222 hl (k := 1) rfl (by rw [ey_295]; rfl) (by decide) rfl (fun ls hl => ?_)
                              have ty_295 := add_bd ey_295 b_39 kb_1 (by decide)
                              have b_296 : bd 1 2401 y_295 := add_rg ty_295 b_39 kb_1 (by decide)
                              refine lv_goto (tgt := 38) hx hb dX0_read_225 (by decide) ?_
                              have hl9 := lv_sub hl [0, 2] (by rfl : lv_pick [(1, .int y_295), (2, .int r_46), (0, .ref a0_)] [0, 2] = [(1, .int y_295), (0, .ref a0_)])
                              have g9 := g.sub (fx' := [(0, 2, a0_, .ref q2_), (0, 0, a0_, .ref q0_), (0, 1, a0_, .ref q1_), (5, 0, q1_, .ref q2_), (5, 1, q1_, .ref q3_), (8, 8, q0_, .int y0_)]) [7, 8, 9, 10, 11, 3] rfl
                              exact ih38  y_295 (bd_sub b_296 (by decide)) (by have h9_0 := b_296; unfold bd at h9_0; have h9_1 := bv38_1; unfold bd at h9_1; have h9_2 := h_278; unfold bd at h9_2; have h9_3 := h_284; unfold bd at h9_3; have h9_4 := kb_0; unfold bd at h9_4; have h9_5 := kb_1; unfold bd at h9_5; have h9_6 := kb_11; unfold bd at h9_6; have h9_7 := kb_2400; unfold bd at h9_7; have h9_8 := kb_3; unfold bd at h9_8; have h9_9 := kb_30; unfold bd at h9_9; have h9_10 := kb_33; unfold bd at h9_10; have h9_11 := kb_4; unfold bd at h9_11; have h9_12 := kb_40; unfold bd at h9_12; have h9_13 := kb_45; unfold bd at h9_13; omega) _ _ _ _ g9 hG_292 hG_274 hG_275 hs_293 hG_294 hl9
                            · have hG_297 := eOK.frame hMr_273 go_.2.2.2.1 ma0_ ka0_ (by decide) (by decide) hG_47
                              have g := g.more hF_291
                              refine lv_goto (tgt := 222) hx hb dX0_read_158 (by decide) ?_
                              obtain ⟨y_298, ey_298⟩ : ∃ z : Int32, z = v38_1 + 1 := ⟨_, rfl⟩
                              refine lv_iinc (v := y_298) (lv' := [(1, .int y_298), (2, .int r_46), (0, .ref a0_)]) hx hb dX0_read_222 hl (k := 1) rfl (by rw [ey_298]; rfl) (by decide) rfl (fun ls hl => ?_)
                              have ty_298 := add_bd ey_298 b_39 kb_1 (by decide)
                              have b_299 : bd 1 2401 y_298 := add_rg ty_298 b_39 kb_1 (by decide)
                              refine lv_goto (tgt := 38) hx hb dX0_read_225 (by decide) ?_
                              refine lv_iload_n hx hb dX0_read_38 rfl (lv_at hl 0 rfl) ?_
                              refine lv_sipush (v := 2400) hx hb dX0_read_39 (by decide) ?_
                              refine lv_icmp_gt (tgt := 228) hx hb dX0_read_42 (by decide) (fun c_300 => ?_) (fun c_300 => ?_)
                              · have fc_300 := lt_f c_300
                                have b_301 : bd 2401 2401 y_298 := ltR fc_300 kb_2400 b_299 (by decide)
                                have b_302 : bd 2400 2400 v38_1 := add_inv ty_298 b_301 b_39 kb_1 (by decide)
                                subst hQ
                                exact W.vret hx hb hr (fun t ht hW => ⟨⟨_, rfl, Or.inr (⟨hG_297, hG_286, x_287, h_288, x_289, h_290, (g.fcts [0, 1, 3] rfl)⟩), q3_of g hK ht hW⟩, g.2.2.1.F ht⟩) g.2.2.1.2.2 dX0_read_228
                              · have fc_300 := nlt_f c_300
                                have b_303 : bd 1 2400 y_298 := leL fc_300 b_299 kb_2400 (by decide)
                                have b_304 : bd 0 2399 v38_1 := add_inv ty_298 b_303 b_39 kb_1 (by decide)
                                refine lv_aload_n hx hb dX0_read_45 rfl (lv_at hl 2 rfl) ?_
                                refine g_getk (C := RX0) (T := TX0) (N := 14) hx hb hts (mc_ inX0) hown hK g rfl 13 (by decide) rfl (hts _ (List.mem_cons_of_mem _ t_386)) (fun _ h9 => h9) 2 rfl dX0_read_46 ?_
                                refine lv_if_ne (tgt := 228) hx hb dX0_read_49 (by decide) (fun c_305 => ?_) (fun c_305 => ?_)
                                · have fc_305 := neq_f c_305
                                  have b_306 : bd 1 (-1) x_40 := neX fc_305 b_43 kb_0 (by decide)
                                  exact bd_no b_306 (by decide)
                                · have fc_305 := eq_f c_305
                                  refine lv_aload_n hx hb dX0_read_52 rfl (lv_at hl 2 rfl) ?_
                                  refine g_getk (C := RX0) (T := TX0) (N := 14) hx hb hts (mc_ inX0) hown hK g rfl 0 (by decide) rfl (hts _ (List.mem_cons_of_mem _ t_373)) (fun _ h9 => h9) 4 rfl dX0_read_53 ?_
                                  refine g_getk (C := RX8) (T := TX8) (N := 10) hx hb hts (mc_ inX8) hown hK g rfl 8 (by decide) rfl (hts _ (List.mem_cons_of_mem _ t_293)) (fun _ h9 => h9) 1 rfl dX0_read_56 ?_
                                  refine lv_if_ne (tgt := 228) hx hb dX0_read_59 (by decide) (fun c_307 => ?_) (fun c_307 => ?_)
                                  · have fc_307 := neq_f c_307
                                    subst hQ
                                    exact W.vret hx hb hr (fun t ht hW => ⟨⟨_, rfl, Or.inr (⟨hG_297, hG_286, x_287, h_288, x_289, h_290, (g.fcts [0, 1, 3] rfl)⟩), q3_of g hK ht hW⟩, g.2.2.1.F ht⟩) g.2.2.1.2.2 dX0_read_228
                                  · have fc_307 := eq_f c_307
                                    have b_308 : bd 1 0 x_289 := eqX fc_307 h_290 kb_0 (by decide)
                                    exact bd_no b_308 (by decide)
                        · have fc_132 := eq_f c_132
                          have b_309 : bd 11 11 r_46 := eqX fc_132 (bdT r_46) kb_11 (by decide)
                          refine lv_aload_n hx hb dX0_read_141 rfl (lv_at hl 2 rfl) ?_
                          have go_ := g
                          refine g_callv (va_runV (As := []) (rest := []) ⟨hx, hb, hml, hown, hts⟩ (r_X0_readAbove_2 l dC dI L kd tys fr_46 H.size g.2.2.2.1 a0_ ma0_ ka0_ q0_ mq0_ kq0_ q1_ mq1_ kq1_ q2_ mq2_ kq2_ q3_ mq3_ kq3_ y0_ by0_ T_ (fun j9 => jOK fr_46 q2_ j9) hG_51 hG_48 hG_49 (fun _ h9 => h9) hG_47 (g.fcts [3, 4, 2, 6, 7] rfl)) (cwV 0 hts (gV_ t_1276 t_1278 t_27 t_190 t_1279) rfl rfl rfl (by decide +kernel) ⟨(Nat.le_of_ble_eq_true rfl), (Nat.le_of_ble_eq_true rfl)⟩) (pre3V g hK ma0_ ka0_ (by decide) (q := (RX0, TX0, 14)) rfl) rfl rfl hl.1 rfl (lv_room (Nat.le_of_ble_eq_true rfl)) dX0_read_142 ⟨(Nat.le_of_ble_eq_true rfl), (Nat.le_of_ble_eq_true rfl)⟩) g hK (by decide) (by decide) (fx' := [(0, 13, a0_, .int x_40), (0, 2, a0_, .ref q2_), (0, 0, a0_, .ref q0_), (0, 1, a0_, .ref q1_), (5, 0, q1_, .ref q2_), (5, 1, q1_, .ref q3_)]) rfl (fun fr_310 H locs hp hMr_310 g => ?_)
                          rcases hp with ⟨hG_311, hG_312, hG_313, hG_314, hG_315, x_316, h_317, x_318, h_319, x_320, h_321, x_322, h_323, hF_324⟩ | ⟨hG_325, hG_326, x_327, h_328, hF_329⟩
                          · have g := g.more hF_324
                            have hs_330 := jS.mv hG_50 hG_314
                            refine lv_goto (tgt := 222) hx hb dX0_read_145 (by decide) ?_
                            obtain ⟨y_331, ey_331⟩ : ∃ z : Int32, z = v38_1 + 1 := ⟨_, rfl⟩
                            refine lv_iinc (v := y_331) (lv' := [(1, .int y_331), (2, .int r_46), (0, .ref a0_)]) hx hb dX0_read_222 hl (k := 1) rfl (by rw [ey_331]; rfl) (by decide) rfl (fun ls hl => ?_)
                            have ty_331 := add_bd ey_331 b_39 kb_1 (by decide)
                            have b_332 : bd 1 2401 y_331 := add_rg ty_331 b_39 kb_1 (by decide)
                            refine lv_goto (tgt := 38) hx hb dX0_read_225 (by decide) ?_
                            have hl9 := lv_sub hl [0, 2] (by rfl : lv_pick [(1, .int y_331), (2, .int r_46), (0, .ref a0_)] [0, 2] = [(1, .int y_331), (0, .ref a0_)])
                            have g9 := g.sub (fx' := [(0, 2, a0_, .ref q2_), (0, 0, a0_, .ref q0_), (0, 1, a0_, .ref q1_), (5, 0, q1_, .ref q2_), (5, 1, q1_, .ref q3_), (8, 8, q0_, .int y0_)]) [6, 7, 8, 9, 10, 2] rfl
                            exact ih38  y_331 (bd_sub b_332 (by decide)) (by have h9_0 := b_332; unfold bd at h9_0; have h9_1 := bv38_1; unfold bd at h9_1; have h9_2 := h_317; unfold bd at h9_2; have h9_3 := kb_0; unfold bd at h9_3; have h9_4 := kb_1; unfold bd at h9_4; have h9_5 := kb_11; unfold bd at h9_5; have h9_6 := kb_2400; unfold bd at h9_6; have h9_7 := kb_3; unfold bd at h9_7; have h9_8 := kb_33; unfold bd at h9_8; have h9_9 := kb_4; unfold bd at h9_9; have h9_10 := kb_40; unfold bd at h9_10; have h9_11 := kb_45; unfold bd at h9_11; omega) _ _ _ _ g9 hG_315 hG_312 hG_313 hs_330 hG_311 hl9
                          · have g := g.more hF_329
                            refine lv_goto (tgt := 222) hx hb dX0_read_145 (by decide) ?_
                            obtain ⟨y_333, ey_333⟩ : ∃ z : Int32, z = v38_1 + 1 := ⟨_, rfl⟩
                            refine lv_iinc (v := y_333) (lv' := [(1, .int y_333), (2, .int r_46), (0, .ref a0_)]) hx hb dX0_read_222 hl (k := 1) rfl (by rw [ey_333]; rfl) (by decide) rfl (fun ls hl => ?_)
                            have ty_333 := add_bd ey_333 b_39 kb_1 (by decide)
                            have b_334 : bd 1 2401 y_333 := add_rg ty_333 b_39 kb_1 (by decide)
                            refine lv_goto (tgt := 38) hx hb dX0_read_225 (by decide) ?_
                            refine lv_iload_n hx hb dX0_read_38 rfl (lv_at hl 0 rfl) ?_
                            refine lv_sipush (v := 2400) hx hb dX0_read_39 (by decide) ?_
                            refine lv_icmp_gt (tgt := 228) hx hb dX0_read_42 (by decide) (fun c_335 => ?_) (fun c_335 => ?_)
                            · have fc_335 := lt_f c_335
                              have b_336 : bd 2401 2401 y_333 := ltR fc_335 kb_2400 b_334 (by decide)
                              have b_337 : bd 2400 2400 v38_1 := add_inv ty_333 b_336 b_39 kb_1 (by decide)
                              have kb_1201 : bd 1201 1201 (1201 : Int32) := ⟨by decide, by decide⟩
                              subst hQ
                              exact W.vret hx hb hr (fun t ht hW => ⟨⟨_, rfl, Or.inr (⟨hG_326, hG_325, 1201, kb_1201, x_327, h_328, (g.fcts [0, 1, 3] rfl)⟩), q3_of g hK ht hW⟩, g.2.2.1.F ht⟩) g.2.2.1.2.2 dX0_read_228
                            · have fc_335 := nlt_f c_335
                              have b_338 : bd 1 2400 y_333 := leL fc_335 b_334 kb_2400 (by decide)
                              have b_339 : bd 0 2399 v38_1 := add_inv ty_333 b_338 b_39 kb_1 (by decide)
                              refine lv_aload_n hx hb dX0_read_45 rfl (lv_at hl 2 rfl) ?_
                              refine g_getk (C := RX0) (T := TX0) (N := 14) hx hb hts (mc_ inX0) hown hK g rfl 13 (by decide) rfl (hts _ (List.mem_cons_of_mem _ t_386)) (fun _ h9 => h9) 2 rfl dX0_read_46 ?_
                              refine lv_if_ne (tgt := 228) hx hb dX0_read_49 (by decide) (fun c_340 => ?_) (fun c_340 => ?_)
                              · have fc_340 := neq_f c_340
                                have b_341 : bd 1 (-1) x_40 := neX fc_340 b_43 kb_0 (by decide)
                                exact bd_no b_341 (by decide)
                              · have fc_340 := eq_f c_340
                                refine lv_aload_n hx hb dX0_read_52 rfl (lv_at hl 2 rfl) ?_
                                refine g_getk (C := RX0) (T := TX0) (N := 14) hx hb hts (mc_ inX0) hown hK g rfl 0 (by decide) rfl (hts _ (List.mem_cons_of_mem _ t_373)) (fun _ h9 => h9) 4 rfl dX0_read_53 ?_
                                refine g_getk (C := RX8) (T := TX8) (N := 10) hx hb hts (mc_ inX8) hown hK g rfl 8 (by decide) rfl (hts _ (List.mem_cons_of_mem _ t_293)) (fun _ h9 => h9) 1 rfl dX0_read_56 ?_
                                refine lv_if_ne (tgt := 228) hx hb dX0_read_59 (by decide) (fun c_342 => ?_) (fun c_342 => ?_)
                                · have fc_342 := neq_f c_342
                                  have kb_1201 : bd 1201 1201 (1201 : Int32) := ⟨by decide, by decide⟩
                                  subst hQ
                                  exact W.vret hx hb hr (fun t ht hW => ⟨⟨_, rfl, Or.inr (⟨hG_326, hG_325, 1201, kb_1201, x_327, h_328, (g.fcts [0, 1, 3] rfl)⟩), q3_of g hK ht hW⟩, g.2.2.1.F ht⟩) g.2.2.1.2.2 dX0_read_228
                                · have fc_342 := eq_f c_342
                                  have b_343 : bd 1 0 x_327 := eqX fc_342 h_328 kb_0 (by decide)
                                  exact bd_no b_343 (by decide)
                      · have fc_131 := eq_f c_131
                        have b_344 : bd 33 33 r_46 := eqX fc_131 (bdT r_46) kb_33 (by decide)
                        refine lv_aload_n hx hb dX0_read_127 rfl (lv_at hl 2 rfl) ?_
                        refine lv_iload_n hx hb dX0_read_128 rfl (lv_at hl 0 rfl) ?_
                        have go_ := g
                        refine g_callv (va_runV (As := [.int r_46]) (rest := []) ⟨hx, hb, hml, hown, hts⟩ (r_X0_openSign_2 l dC dI L kd tys fr_46 H.size g.2.2.2.1 a0_ ma0_ ka0_ r_46 q0_ mq0_ kq0_ q2_ mq2_ kq2_ y0_ by0_ hG_51 hG_47 (g.fcts [3, 2, 7] rfl)) (cwV 1 hts (gV_ t_1272 t_1274 t_26 t_190 t_1275) rfl rfl rfl (by decide +kernel) ⟨(Nat.le_of_ble_eq_true rfl), (Nat.le_of_ble_eq_true rfl)⟩) (pre3V g hK ma0_ ka0_ (by decide) (q := (RX0, TX0, 14)) rfl) rfl rfl hl.1 rfl (lv_room (Nat.le_of_ble_eq_true rfl)) dX0_read_129 ⟨(Nat.le_of_ble_eq_true rfl), (Nat.le_of_ble_eq_true rfl)⟩) g hK (by decide) (by decide) (fx' := [(0, 12, a0_, .int x_52), (0, 13, a0_, .int x_40), (0, 2, a0_, .ref q2_), (0, 0, a0_, .ref q0_), (0, 1, a0_, .ref q1_), (5, 0, q1_, .ref q2_), (5, 1, q1_, .ref q3_)]) rfl (fun fr_345 H locs hp hMr_345 g => ?_)
                        rcases hp with ⟨hG_346, hG_347, x_348, h_349, x_350, h_351, x_352, h_353, hF_354⟩ | ⟨hG_355, x_356, h_357, x_358, h_359, hF_360⟩
                        · have hG_361 := cOK.frame hMr_345 go_.2.2.2.1 mq2_ kq2_ (by decide) (by decide) hG_48
                          have hG_362 := dOK.frame hMr_345 go_.2.2.2.1 mq2_ kq2_ (by decide) (by decide) hG_49
                          have hG_363 := jS.frame hMr_345 go_.2.2.2.1 mq2_ kq2_ (by decide) (by decide) hG_50
                          have g := g.more hF_354
                          refine lv_goto (tgt := 222) hx hb dX0_read_132 (by decide) ?_
                          obtain ⟨y_364, ey_364⟩ : ∃ z : Int32, z = v38_1 + 1 := ⟨_, rfl⟩
                          refine lv_iinc (v := y_364) (lv' := [(1, .int y_364), (2, .int r_46), (0, .ref a0_)]) hx hb dX0_read_222 hl (k := 1) rfl (by rw [ey_364]; rfl) (by decide) rfl (fun ls hl => ?_)
                          have ty_364 := add_bd ey_364 b_39 kb_1 (by decide)
                          have b_365 : bd 1 2401 y_364 := add_rg ty_364 b_39 kb_1 (by decide)
                          refine lv_goto (tgt := 38) hx hb dX0_read_225 (by decide) ?_
                          have hl9 := lv_sub hl [0, 2] (by rfl : lv_pick [(1, .int y_364), (2, .int r_46), (0, .ref a0_)] [0, 2] = [(1, .int y_364), (0, .ref a0_)])
                          have g9 := g.sub (fx' := [(0, 2, a0_, .ref q2_), (0, 0, a0_, .ref q0_), (0, 1, a0_, .ref q1_), (5, 0, q1_, .ref q2_), (5, 1, q1_, .ref q3_), (8, 8, q0_, .int y0_)]) [6, 7, 8, 9, 10, 3] rfl
                          exact ih38  y_364 (bd_sub b_365 (by decide)) (by have h9_0 := b_365; unfold bd at h9_0; have h9_1 := b_54; unfold bd at h9_1; have h9_2 := bv38_1; unfold bd at h9_2; have h9_3 := h_351; unfold bd at h9_3; have h9_4 := h_353; unfold bd at h9_4; have h9_5 := kb_0; unfold bd at h9_5; have h9_6 := kb_1; unfold bd at h9_6; have h9_7 := kb_2400; unfold bd at h9_7; have h9_8 := kb_3; unfold bd at h9_8; have h9_9 := kb_33; unfold bd at h9_9; have h9_10 := kb_4; unfold bd at h9_10; have h9_11 := kb_40; unfold bd at h9_11; have h9_12 := kb_45; unfold bd at h9_12; omega) _ _ _ _ g9 hG_347 hG_361 hG_362 hG_363 hG_346 hl9
                        · have hG_366 := cOK.frame hMr_345 go_.2.2.2.1 mq2_ kq2_ (by decide) (by decide) hG_48
                          have hG_367 := dOK.frame hMr_345 go_.2.2.2.1 mq2_ kq2_ (by decide) (by decide) hG_49
                          have hG_368 := jS.frame hMr_345 go_.2.2.2.1 mq2_ kq2_ (by decide) (by decide) hG_50
                          have g := g.more hF_360
                          refine lv_goto (tgt := 222) hx hb dX0_read_132 (by decide) ?_
                          obtain ⟨y_369, ey_369⟩ : ∃ z : Int32, z = v38_1 + 1 := ⟨_, rfl⟩
                          refine lv_iinc (v := y_369) (lv' := [(1, .int y_369), (2, .int r_46), (0, .ref a0_)]) hx hb dX0_read_222 hl (k := 1) rfl (by rw [ey_369]; rfl) (by decide) rfl (fun ls hl => ?_)
                          have ty_369 := add_bd ey_369 b_39 kb_1 (by decide)
                          have b_370 : bd 1 2401 y_369 := add_rg ty_369 b_39 kb_1 (by decide)
                          refine lv_goto (tgt := 38) hx hb dX0_read_225 (by decide) ?_
                          refine lv_iload_n hx hb dX0_read_38 rfl (lv_at hl 0 rfl) ?_
                          refine lv_sipush (v := 2400) hx hb dX0_read_39 (by decide) ?_
                          refine lv_icmp_gt (tgt := 228) hx hb dX0_read_42 (by decide) (fun c_371 => ?_) (fun c_371 => ?_)
                          · have fc_371 := lt_f c_371
                            have b_372 : bd 2401 2401 y_369 := ltR fc_371 kb_2400 b_370 (by decide)
                            have b_373 : bd 2400 2400 v38_1 := add_inv ty_369 b_372 b_39 kb_1 (by decide)
                            have kb_1201 : bd 1201 1201 (1201 : Int32) := ⟨by decide, by decide⟩
                            subst hQ
                            exact W.vret hx hb hr (fun t ht hW => ⟨⟨_, rfl, Or.inr (⟨hG_355, hG_367, 1201, kb_1201, x_358, h_359, (g.fcts [1, 2, 5] rfl)⟩), q3_of g hK ht hW⟩, g.2.2.1.F ht⟩) g.2.2.1.2.2 dX0_read_228
                          · have fc_371 := nlt_f c_371
                            have b_374 : bd 1 2400 y_369 := leL fc_371 b_370 kb_2400 (by decide)
                            have b_375 : bd 0 2399 v38_1 := add_inv ty_369 b_374 b_39 kb_1 (by decide)
                            refine lv_aload_n hx hb dX0_read_45 rfl (lv_at hl 2 rfl) ?_
                            refine g_getk (C := RX0) (T := TX0) (N := 14) hx hb hts (mc_ inX0) hown hK g rfl 13 (by decide) rfl (hts _ (List.mem_cons_of_mem _ t_386)) (fun _ h9 => h9) 4 rfl dX0_read_46 ?_
                            refine lv_if_ne (tgt := 228) hx hb dX0_read_49 (by decide) (fun c_376 => ?_) (fun c_376 => ?_)
                            · have fc_376 := neq_f c_376
                              have b_377 : bd 1 (-1) x_40 := neX fc_376 b_43 kb_0 (by decide)
                              exact bd_no b_377 (by decide)
                            · have fc_376 := eq_f c_376
                              refine lv_aload_n hx hb dX0_read_52 rfl (lv_at hl 2 rfl) ?_
                              refine g_getk (C := RX0) (T := TX0) (N := 14) hx hb hts (mc_ inX0) hown hK g rfl 0 (by decide) rfl (hts _ (List.mem_cons_of_mem _ t_373)) (fun _ h9 => h9) 6 rfl dX0_read_53 ?_
                              refine g_getk (C := RX8) (T := TX8) (N := 10) hx hb hts (mc_ inX8) hown hK g rfl 8 (by decide) rfl (hts _ (List.mem_cons_of_mem _ t_293)) (fun _ h9 => h9) 2 rfl dX0_read_56 ?_
                              refine lv_if_ne (tgt := 228) hx hb dX0_read_59 (by decide) (fun c_378 => ?_) (fun c_378 => ?_)
                              · have fc_378 := neq_f c_378
                                have kb_1201 : bd 1201 1201 (1201 : Int32) := ⟨by decide, by decide⟩
                                subst hQ
                                exact W.vret hx hb hr (fun t ht hW => ⟨⟨_, rfl, Or.inr (⟨hG_355, hG_367, 1201, kb_1201, x_358, h_359, (g.fcts [1, 2, 5] rfl)⟩), q3_of g hK ht hW⟩, g.2.2.1.F ht⟩) g.2.2.1.2.2 dX0_read_228
                              · have fc_378 := eq_f c_378
                                have b_379 : bd 1 0 x_358 := eqX fc_378 h_359 kb_0 (by decide)
                                exact bd_no b_379 (by decide)
                · have fc_56 := eq_f c_56
                  have b_380 : bd 4 4 r_46 := eqX fc_56 (bdT r_46) kb_4 (by decide)
                  refine lv_aload_n hx hb dX0_read_102 rfl (lv_at hl 2 rfl) ?_
                  have go_ := g
                  refine g_callv (va_runV (As := []) (rest := []) ⟨hx, hb, hml, hown, hts⟩ (r_X0_readNumber l dC dI L kd tys fr_46 H.size g.2.2.2.1 a0_ ma0_ ka0_ q0_ mq0_ kq0_ q2_ mq2_ kq2_ y0_ by0_ T_ (fun j9 => jOK fr_46 q2_ j9) hG_48 hG_49 (fun _ h9 => h9) (g.fcts [3, 2, 7] rfl)) (cwV 0 hts (gV_ t_1268 t_1270 t_25 t_190 t_1271) rfl rfl rfl (by decide +kernel) ⟨(Nat.le_of_ble_eq_true rfl), (Nat.le_of_ble_eq_true rfl)⟩) (pre3V g hK ma0_ ka0_ (by decide) (q := (RX0, TX0, 14)) rfl) rfl rfl hl.1 rfl (lv_room (Nat.le_of_ble_eq_true rfl)) dX0_read_103 ⟨(Nat.le_of_ble_eq_true rfl), (Nat.le_of_ble_eq_true rfl)⟩) g hK (by decide) (by decide) (fx' := [(0, 13, a0_, .int x_40), (0, 2, a0_, .ref q2_), (0, 0, a0_, .ref q0_), (0, 1, a0_, .ref q1_), (5, 0, q1_, .ref q2_), (5, 1, q1_, .ref q3_), (8, 8, q0_, .int y0_)]) rfl (fun fr_381 H locs hp hMr_381 g => ?_)
                  obtain ⟨hG_382, hG_383, hG_384, x_385, h_386, x_387, h_388, hF_389⟩ := hp
                  have hG_390 := eOK.frame hMr_381 go_.2.2.2.1 ma0_ ka0_ (by decide) (by decide) hG_47
                  have g := g.more hF_389
                  have hs_391 := jS.mv hG_50 hG_384
                  have hG_392 := eJx.mv hG_51 hMr_381 go_.2.2.2.1 ma0_ ka0_ (by decide) (by decide) (((hMr_381 a0_ ma0_).1 2 (by rw [ka0_]; decide) (by rw [ka0_]; decide)).symm.trans (fx_at g (i := 4) rfl).2.2.2) hG_384
                  refine lv_goto (tgt := 222) hx hb dX0_read_106 (by decide) ?_
                  obtain ⟨y_393, ey_393⟩ : ∃ z : Int32, z = v38_1 + 1 := ⟨_, rfl⟩
                  refine lv_iinc (v := y_393) (lv' := [(1, .int y_393), (2, .int r_46), (0, .ref a0_)]) hx hb dX0_read_222 hl (k := 1) rfl (by rw [ey_393]; rfl) (by decide) rfl (fun ls hl => ?_)
                  have ty_393 := add_bd ey_393 b_39 kb_1 (by decide)
                  have b_394 : bd 1 2401 y_393 := add_rg ty_393 b_39 kb_1 (by decide)
                  refine lv_goto (tgt := 38) hx hb dX0_read_225 (by decide) ?_
                  have hl9 := lv_sub hl [0, 2] (by rfl : lv_pick [(1, .int y_393), (2, .int r_46), (0, .ref a0_)] [0, 2] = [(1, .int y_393), (0, .ref a0_)])
                  have g9 := g.sub (fx' := [(0, 2, a0_, .ref q2_), (0, 0, a0_, .ref q0_), (0, 1, a0_, .ref q1_), (5, 0, q1_, .ref q2_), (5, 1, q1_, .ref q3_), (8, 8, q0_, .int y0_)]) [4, 5, 6, 7, 8, 9] rfl
                  exact ih38  y_393 (bd_sub b_394 (by decide)) (by have h9_0 := b_394; unfold bd at h9_0; have h9_1 := bv38_1; unfold bd at h9_1; have h9_2 := h_386; unfold bd at h9_2; have h9_3 := kb_0; unfold bd at h9_3; have h9_4 := kb_1; unfold bd at h9_4; have h9_5 := kb_2400; unfold bd at h9_5; have h9_6 := kb_3; unfold bd at h9_6; have h9_7 := kb_4; unfold bd at h9_7; omega) _ _ _ _ g9 hG_390 hG_382 hG_383 hs_391 hG_392 hl9
              · have fc_55 := eq_f c_55
                have b_395 : bd 3 3 r_46 := eqX fc_55 (bdT r_46) kb_3 (by decide)
                refine lv_aload_n hx hb dX0_read_90 rfl (lv_at hl 2 rfl) ?_
                have go_ := g
                refine g_callv (va_runV (As := []) (rest := []) ⟨hx, hb, hml, hown, hts⟩ (r_X0_readName_2 l dC dI L kd tys fr_46 H.size g.2.2.2.1 a0_ ma0_ ka0_ q0_ mq0_ kq0_ q1_ mq1_ kq1_ q2_ mq2_ kq2_ q3_ mq3_ kq3_ y0_ by0_ T_ (fun j9 => jOK fr_46 q2_ j9) hG_51 hG_48 hG_49 (fun _ h9 => h9) hG_47 (g.fcts [3, 4, 2, 6, 7] rfl)) (cwV 0 hts (gV_ t_1234 t_1236 t_22 t_190 t_1237) rfl rfl rfl (by decide +kernel) ⟨(Nat.le_of_ble_eq_true rfl), (Nat.le_of_ble_eq_true rfl)⟩) (pre3V g hK ma0_ ka0_ (by decide) (q := (RX0, TX0, 14)) rfl) rfl rfl hl.1 rfl (lv_room (Nat.le_of_ble_eq_true rfl)) dX0_read_91 ⟨(Nat.le_of_ble_eq_true rfl), (Nat.le_of_ble_eq_true rfl)⟩) g hK (by decide) (by decide) (fx' := [(0, 13, a0_, .int x_40), (0, 2, a0_, .ref q2_), (0, 0, a0_, .ref q0_), (0, 1, a0_, .ref q1_), (5, 0, q1_, .ref q2_), (5, 1, q1_, .ref q3_)]) rfl (fun fr_396 H locs hp hMr_396 g => ?_)
                rcases hp with ⟨hG_397, hG_398, hG_399, hG_400, hG_401, x_402, h_403, hF_404⟩ | ⟨hG_405, hG_406, x_407, h_408, x_409, h_410, hF_411⟩
                · have g := g.more hF_404
                  have hs_412 := jS.mv hG_50 hG_400
                  refine lv_goto (tgt := 222) hx hb dX0_read_94 (by decide) ?_
                  obtain ⟨y_413, ey_413⟩ : ∃ z : Int32, z = v38_1 + 1 := ⟨_, rfl⟩
                  refine lv_iinc (v := y_413) (lv' := [(1, .int y_413), (2, .int r_46), (0, .ref a0_)]) hx hb dX0_read_222 hl (k := 1) rfl (by rw [ey_413]; rfl) (by decide) rfl (fun ls hl => ?_)
                  have ty_413 := add_bd ey_413 b_39 kb_1 (by decide)
                  have b_414 : bd 1 2401 y_413 := add_rg ty_413 b_39 kb_1 (by decide)
                  refine lv_goto (tgt := 38) hx hb dX0_read_225 (by decide) ?_
                  have hl9 := lv_sub hl [0, 2] (by rfl : lv_pick [(1, .int y_413), (2, .int r_46), (0, .ref a0_)] [0, 2] = [(1, .int y_413), (0, .ref a0_)])
                  have g9 := g.sub (fx' := [(0, 2, a0_, .ref q2_), (0, 0, a0_, .ref q0_), (0, 1, a0_, .ref q1_), (5, 0, q1_, .ref q2_), (5, 1, q1_, .ref q3_), (8, 8, q0_, .int y0_)]) [3, 4, 5, 6, 7, 1] rfl
                  exact ih38  y_413 (bd_sub b_414 (by decide)) (by have h9_0 := b_414; unfold bd at h9_0; have h9_1 := bv38_1; unfold bd at h9_1; have h9_2 := kb_0; unfold bd at h9_2; have h9_3 := kb_1; unfold bd at h9_3; have h9_4 := kb_2400; unfold bd at h9_4; have h9_5 := kb_3; unfold bd at h9_5; omega) _ _ _ _ g9 hG_401 hG_398 hG_399 hs_412 hG_397 hl9
                · have g := g.more hF_411
                  refine lv_goto (tgt := 222) hx hb dX0_read_94 (by decide) ?_
                  obtain ⟨y_415, ey_415⟩ : ∃ z : Int32, z = v38_1 + 1 := ⟨_, rfl⟩
                  refine lv_iinc (v := y_415) (lv' := [(1, .int y_415), (2, .int r_46), (0, .ref a0_)]) hx hb dX0_read_222 hl (k := 1) rfl (by rw [ey_415]; rfl) (by decide) rfl (fun ls hl => ?_)
                  have ty_415 := add_bd ey_415 b_39 kb_1 (by decide)
                  have b_416 : bd 1 2401 y_415 := add_rg ty_415 b_39 kb_1 (by decide)
                  refine lv_goto (tgt := 38) hx hb dX0_read_225 (by decide) ?_
                  refine lv_iload_n hx hb dX0_read_38 rfl (lv_at hl 0 rfl) ?_
                  refine lv_sipush (v := 2400) hx hb dX0_read_39 (by decide) ?_
                  refine lv_icmp_gt (tgt := 228) hx hb dX0_read_42 (by decide) (fun c_417 => ?_) (fun c_417 => ?_)
                  · have fc_417 := lt_f c_417
                    have b_418 : bd 2401 2401 y_415 := ltR fc_417 kb_2400 b_416 (by decide)
                    have b_419 : bd 2400 2400 v38_1 := add_inv ty_415 b_418 b_39 kb_1 (by decide)
                    subst hQ
                    exact W.vret hx hb hr (fun t ht hW => ⟨⟨_, rfl, Or.inr (⟨hG_406, hG_405, x_407, h_408, x_409, h_410, (g.fcts [0, 1, 3] rfl)⟩), q3_of g hK ht hW⟩, g.2.2.1.F ht⟩) g.2.2.1.2.2 dX0_read_228
                  · have fc_417 := nlt_f c_417
                    have b_420 : bd 1 2400 y_415 := leL fc_417 b_416 kb_2400 (by decide)
                    have b_421 : bd 0 2399 v38_1 := add_inv ty_415 b_420 b_39 kb_1 (by decide)
                    refine lv_aload_n hx hb dX0_read_45 rfl (lv_at hl 2 rfl) ?_
                    refine g_getk (C := RX0) (T := TX0) (N := 14) hx hb hts (mc_ inX0) hown hK g rfl 13 (by decide) rfl (hts _ (List.mem_cons_of_mem _ t_386)) (fun _ h9 => h9) 2 rfl dX0_read_46 ?_
                    refine lv_if_ne (tgt := 228) hx hb dX0_read_49 (by decide) (fun c_422 => ?_) (fun c_422 => ?_)
                    · have fc_422 := neq_f c_422
                      have b_423 : bd 1 (-1) x_40 := neX fc_422 b_43 kb_0 (by decide)
                      exact bd_no b_423 (by decide)
                    · have fc_422 := eq_f c_422
                      refine lv_aload_n hx hb dX0_read_52 rfl (lv_at hl 2 rfl) ?_
                      refine g_getk (C := RX0) (T := TX0) (N := 14) hx hb hts (mc_ inX0) hown hK g rfl 0 (by decide) rfl (hts _ (List.mem_cons_of_mem _ t_373)) (fun _ h9 => h9) 4 rfl dX0_read_53 ?_
                      refine g_getk (C := RX8) (T := TX8) (N := 10) hx hb hts (mc_ inX8) hown hK g rfl 8 (by decide) rfl (hts _ (List.mem_cons_of_mem _ t_293)) (fun _ h9 => h9) 1 rfl dX0_read_56 ?_
                      refine lv_if_ne (tgt := 228) hx hb dX0_read_59 (by decide) (fun c_424 => ?_) (fun c_424 => ?_)
                      · have fc_424 := neq_f c_424
                        subst hQ
                        exact W.vret hx hb hr (fun t ht hW => ⟨⟨_, rfl, Or.inr (⟨hG_406, hG_405, x_407, h_408, x_409, h_410, (g.fcts [0, 1, 3] rfl)⟩), q3_of g hK ht hW⟩, g.2.2.1.F ht⟩) g.2.2.1.2.2 dX0_read_228
                      · have fc_424 := eq_f c_424
                        have b_425 : bd 1 0 x_409 := eqX fc_424 h_410 kb_0 (by decide)
                        exact bd_no b_425 (by decide)
            · have fc_53 := eq_f c_53
              have b_426 : bd 0 0 x_52 := eqX fc_53 bx_52 kb_0 (by decide)
              refine lv_aload_n hx hb dX0_read_77 rfl (lv_at hl 2 rfl) ?_
              refine lv_iload_n hx hb dX0_read_78 rfl (lv_at hl 0 rfl) ?_
              have go_ := g
              refine g_callv (va_runV (As := [.int r_46]) (rest := []) ⟨hx, hb, hml, hown, hts⟩ (r_X0_readBehind l dC dI L kd tys fr_46 H.size g.2.2.2.1 a0_ ma0_ ka0_ r_46 q0_ mq0_ kq0_ q1_ mq1_ kq1_ q2_ mq2_ kq2_ q3_ mq3_ kq3_ y0_ by0_ T_ (fun j9 => jOK fr_46 q2_ j9) hG_47 hG_51 hG_48 hG_49 (fun _ h9 => h9) (g.fcts [3, 4, 2, 6, 7] rfl)) (cwV 1 hts (gV_ t_1187 t_1189 t_14 t_190 t_1190) rfl rfl rfl (by decide +kernel) ⟨(Nat.le_of_ble_eq_true rfl), (Nat.le_of_ble_eq_true rfl)⟩) (pre3V g hK ma0_ ka0_ (by decide) (q := (RX0, TX0, 14)) rfl) rfl rfl hl.1 rfl (lv_room (Nat.le_of_ble_eq_true rfl)) dX0_read_79 ⟨(Nat.le_of_ble_eq_true rfl), (Nat.le_of_ble_eq_true rfl)⟩) g hK (by decide) (by decide) (fx' := [(0, 2, a0_, .ref q2_), (0, 0, a0_, .ref q0_), (0, 1, a0_, .ref q1_), (5, 0, q1_, .ref q2_), (5, 1, q1_, .ref q3_)]) rfl (fun fr_427 H locs hp hMr_427 g => ?_)
              rcases hp with ⟨hG_428, hG_429, hG_430, hG_431, hG_432, hF_433⟩ | ⟨hG_434, hG_435, x_436, h_437, hF_438⟩
              · have g := g.more hF_433
                have hs_439 := jS.mv hG_50 hG_432
                refine lv_goto (tgt := 222) hx hb dX0_read_82 (by decide) ?_
                obtain ⟨y_440, ey_440⟩ : ∃ z : Int32, z = v38_1 + 1 := ⟨_, rfl⟩
                refine lv_iinc (v := y_440) (lv' := [(1, .int y_440), (2, .int r_46), (0, .ref a0_)]) hx hb dX0_read_222 hl (k := 1) rfl (by rw [ey_440]; rfl) (by decide) rfl (fun ls hl => ?_)
                have ty_440 := add_bd ey_440 b_39 kb_1 (by decide)
                have b_441 : bd 1 2401 y_440 := add_rg ty_440 b_39 kb_1 (by decide)
                refine lv_goto (tgt := 38) hx hb dX0_read_225 (by decide) ?_
                have hl9 := lv_sub hl [0, 2] (by rfl : lv_pick [(1, .int y_440), (2, .int r_46), (0, .ref a0_)] [0, 2] = [(1, .int y_440), (0, .ref a0_)])
                have g9 := g.sub (fx' := [(0, 2, a0_, .ref q2_), (0, 0, a0_, .ref q0_), (0, 1, a0_, .ref q1_), (5, 0, q1_, .ref q2_), (5, 1, q1_, .ref q3_), (8, 8, q0_, .int y0_)]) [1, 2, 3, 4, 5, 0] rfl
                exact ih38  y_440 (bd_sub b_441 (by decide)) (by have h9_0 := b_441; unfold bd at h9_0; have h9_1 := bv38_1; unfold bd at h9_1; have h9_2 := kb_0; unfold bd at h9_2; have h9_3 := kb_1; unfold bd at h9_3; have h9_4 := kb_2400; unfold bd at h9_4; omega) _ _ _ _ g9 hG_428 hG_430 hG_431 hs_439 hG_429 hl9
              · have g := g.more hF_438
                refine lv_goto (tgt := 222) hx hb dX0_read_82 (by decide) ?_
                obtain ⟨y_442, ey_442⟩ : ∃ z : Int32, z = v38_1 + 1 := ⟨_, rfl⟩
                refine lv_iinc (v := y_442) (lv' := [(1, .int y_442), (2, .int r_46), (0, .ref a0_)]) hx hb dX0_read_222 hl (k := 1) rfl (by rw [ey_442]; rfl) (by decide) rfl (fun ls hl => ?_)
                have ty_442 := add_bd ey_442 b_39 kb_1 (by decide)
                have b_443 : bd 1 2401 y_442 := add_rg ty_442 b_39 kb_1 (by decide)
                refine lv_goto (tgt := 38) hx hb dX0_read_225 (by decide) ?_
                refine lv_iload_n hx hb dX0_read_38 rfl (lv_at hl 0 rfl) ?_
                refine lv_sipush (v := 2400) hx hb dX0_read_39 (by decide) ?_
                refine lv_icmp_gt (tgt := 228) hx hb dX0_read_42 (by decide) (fun c_444 => ?_) (fun c_444 => ?_)
                · have fc_444 := lt_f c_444
                  have b_445 : bd 2401 2401 y_442 := ltR fc_444 kb_2400 b_443 (by decide)
                  have b_446 : bd 2400 2400 v38_1 := add_inv ty_442 b_445 b_39 kb_1 (by decide)
                  have kb_1201 : bd 1201 1201 (1201 : Int32) := ⟨by decide, by decide⟩
                  subst hQ
                  exact W.vret hx hb hr (fun t ht hW => ⟨⟨_, rfl, Or.inr (⟨hG_434, hG_435, 1201, kb_1201, x_436, h_437, (g.fcts [0, 1, 2] rfl)⟩), q3_of g hK ht hW⟩, g.2.2.1.F ht⟩) g.2.2.1.2.2 dX0_read_228
                · have fc_444 := nlt_f c_444
                  have b_447 : bd 1 2400 y_442 := leL fc_444 b_443 kb_2400 (by decide)
                  have b_448 : bd 0 2399 v38_1 := add_inv ty_442 b_447 b_39 kb_1 (by decide)
                  refine lv_aload_n hx hb dX0_read_45 rfl (lv_at hl 2 rfl) ?_
                  refine g_geti (C := RX0) (T := TX0) (N := 14) hx hb hts (mc_ inX0) hown hK g ma0_ ka0_ (by decide) rfl 13 (by decide) rfl (hts _ (List.mem_cons_of_mem _ t_386)) (fun _ h9 => h9) rfl dX0_read_46 (fun x_449 bx_449 g => ?_)
                  refine lv_if_ne (tgt := 228) hx hb dX0_read_49 (by decide) (fun c_450 => ?_) (fun c_450 => ?_)
                  · have fc_450 := neq_f c_450
                    have b_451 : bd 1 1 x_449 := neX fc_450 bx_449 kb_0 (by decide)
                    have kb_1201 : bd 1201 1201 (1201 : Int32) := ⟨by decide, by decide⟩
                    subst hQ
                    exact W.vret hx hb hr (fun t ht hW => ⟨⟨_, rfl, Or.inr (⟨hG_434, hG_435, 1201, kb_1201, x_436, h_437, (g.fcts [1, 2, 3] rfl)⟩), q3_of g hK ht hW⟩, g.2.2.1.F ht⟩) g.2.2.1.2.2 dX0_read_228
                  · have fc_450 := eq_f c_450
                    have b_452 : bd 0 0 x_449 := eqX fc_450 bx_449 kb_0 (by decide)
                    refine lv_aload_n hx hb dX0_read_52 rfl (lv_at hl 2 rfl) ?_
                    refine g_getk (C := RX0) (T := TX0) (N := 14) hx hb hts (mc_ inX0) hown hK g rfl 0 (by decide) rfl (hts _ (List.mem_cons_of_mem _ t_373)) (fun _ h9 => h9) 4 rfl dX0_read_53 ?_
                    refine g_getk (C := RX8) (T := TX8) (N := 10) hx hb hts (mc_ inX8) hown hK g rfl 8 (by decide) rfl (hts _ (List.mem_cons_of_mem _ t_293)) (fun _ h9 => h9) 2 rfl dX0_read_56 ?_
                    refine lv_if_ne (tgt := 228) hx hb dX0_read_59 (by decide) (fun c_453 => ?_) (fun c_453 => ?_)
                    · have fc_453 := neq_f c_453
                      have kb_1201 : bd 1201 1201 (1201 : Int32) := ⟨by decide, by decide⟩
                      subst hQ
                      exact W.vret hx hb hr (fun t ht hW => ⟨⟨_, rfl, Or.inr (⟨hG_434, hG_435, 1201, kb_1201, x_436, h_437, (g.fcts [1, 2, 3] rfl)⟩), q3_of g hK ht hW⟩, g.2.2.1.F ht⟩) g.2.2.1.2.2 dX0_read_228
                    · have fc_453 := eq_f c_453
                      have b_454 : bd 1 0 x_436 := eqX fc_453 h_437 kb_0 (by decide)
                      exact bd_no b_454 (by decide)
  have hl9 := lv_sub hl [0, 1] (by rfl : lv_pick [(1, .int 0), (0, .ref a0_)] [0, 1] = [(1, .int 0), (0, .ref a0_)])
  have g9 := g.sub (fx' := [(0, 2, a0_, .ref q2_), (0, 0, a0_, .ref q0_), (0, 1, a0_, .ref q1_), (5, 0, q1_, .ref q2_), (5, 1, q1_, .ref q3_), (8, 8, q0_, .int y0_)]) [5, 6, 7, 8, 9, 10] rfl
  exact loop_36 (4805) 0 (bd_sub kb_0 (by decide)) (by have h9_0 := kb_0; unfold bd at h9_0; have h9_1 := kb_1; unfold bd at h9_1; omega) _ _ _ _ g9 hG_31 hG_32 hG_33 hG_34 hG_35 hl9
