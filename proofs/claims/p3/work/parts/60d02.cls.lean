set_option maxHeartbeats 4000000 in
set_option maxRecDepth 100000 in
theorem r_X14_readKept (l : Launch) (dC : Nat → ClassId) (dI : Nat → Nat → Nat) (L : List Nat) (kd : Nat → Nat) (tys : List (ClassId × FieldType)) (f0 : Nat → va_E) (sz : Nat) (hWT : WT L kd tys f0) (adK adV : Nat → Nat) (a0_ : Nat) (ma0_ : a0_ ∈ L) (ka0_ : kd a0_ = 14) (q0_ : Nat) (mq0_ : q0_ ∈ L) (kq0_ : kd q0_ = 12) (V_ : PV) (δ_ : Nat → Nat) (o_ : Int32) (bo_ : bd 0 7 o_) (op_ : Int32) (bop_ : bd 0 40 op_) (t_ : Int32) (bt_ : bd 0 1201 t_) (hV : isV f0 q0_ V_) (hKI : KI V_ δ_ o_.toNatClampNeg) (hnn : (V_.n 57).toInt ≤ cF f0 a0_) (hns : 2 * (V_.n 46).toInt ≤ cF f0 a0_) (hn0 : 0 ≤ (V_.n 46).toInt) (K_ : Nat) (hK_ : 1204 ≤ 2 * (K_ : Int) + cF f0 a0_) (hfx : Fs L kd f0 [(14, 2, a0_, .ref q0_), (14, 16, a0_, .int o_), (14, 25, a0_, .int op_), (14, 10, a0_, .int t_)]) : MetX l yX14_readKept (.code yX14_readKept cX14_readKept 2 none :: lw_g) ({ frames := 487, cells := K_, slots := 3 * K_, locals := 28408 }) (va_Pc [.ref a0_] (P3A (dC, dI) L tys f0 sz adK adV)) (q3Z (dC, dI) L kd tys [(12, 46), (12, 57), (12, 58), (14, 6), (14, 7), (14, 8), (14, 9), (14, 10), (14, 11), (14, 12), (14, 13), (14, 14), (14, 15), (14, 20), (14, 21), (14, 22), (14, 23), (14, 24), (14, 25), (14, 26)] [160, 161, 162, 163, 164, 165, 166, 167, 168, 169, 175, 176, 177, 178, 180, 182, 183, 184, 185, 186, 187, 188, 189, 190, 191, 192, 193, 194, 195, 196, 197, 198, 199, 200, 201, 202, 203, 204, 205, 206, 207, 208, 209, 210, 213, 214] f0 sz (pXv (fun (f : Nat → va_E) (k : Nat) => (rdK L kd f0 a0_ q0_ V_ o_.toNatClampNeg f k (fun _ => True)) ∧ ∃ z1_ : Int32, bd 0 1201 z1_ ∧ Fs L kd f [(14, 25, a0_, .int op_), (14, 10, a0_, .int z1_)])) (fun (f : Nat → va_E) (k : Nat) => FR L kd f0 f q0_ ∧ 2 * (k : Int) + cF f0 a0_ ≤ 1203)) (pA L sz) := by
  refine MetX.ofW (cc := cX14_readKept) (maxL := 2) (ret := none) (by decide) rfl ?_
  intro p e s m args below meth c s₁ B hml hempty hv
  obtain ⟨rfl, ⟨hsz, hP, hK, hD0⟩, hAm⟩ := hv
  have hx := B.exec
  have hb := B.bytes
  have hr := B.returns
  have hts := atoms_spec (ws := (.code yX14_readKept cX14_readKept 2 none :: lw_g)) B.pre
  have hown : s.vm.findClass RX14 = some m.cls := findClass_of_methodNamed B.named
  have hlocks := B.notSynchronized
  subst hsz
  have g : G3 (dC, dI) L kd tys s f0 [(12, 46), (12, 57), (12, 58), (14, 6), (14, 7), (14, 8), (14, 9), (14, 10), (14, 11), (14, 12), (14, 13), (14, 14), (14, 15), (14, 20), (14, 21), (14, 22), (14, 23), (14, 24), (14, 25), (14, 26)] [160, 161, 162, 163, 164, 165, 166, 167, 168, 169, 175, 176, 177, 178, 180, 182, 183, 184, 185, 186, 187, 188, 189, 190, 191, 192, 193, 194, 195, 196, 197, 198, 199, 200, 201, 202, 203, 204, 205, 206, 207, 208, 209, 210, 213, 214] f0 s.heap [] [(14, 2, a0_, .ref q0_), (14, 16, a0_, .int o_), (14, 25, a0_, .int op_), (14, 10, a0_, .int t_)] := G3.start hP hD0 hWT hfx
  have hl := lv_entry ([.ref a0_]) (n := 2) (Nat.le_of_ble_eq_true rfl)
  rw [lg_entry_eq]
  generalize (lg_sl ([.ref a0_]) ++ List.replicate (2 - (lg_sl ([.ref a0_])).length) Slot.unset).toArray = ls at hl ⊢
  have hl : lv_has ls 2 [(0, .ref a0_)] := hl
  refine W_q (fun Q hQ => ?_)
  refine W_c0 (fun cl_0 hc_0 => ?_)
  have hck_0 : cl_0 ≤ K_ := by omega
  have hC_0 : cEq f0 a0_ (cF f0 a0_) := rfl
  have hm_0 : cF f0 a0_ ≤ 1202 := cF_le g ma0_ ka0_
  have hm_1 : -1 ≤ cF f0 a0_ := cF_ge g ma0_ ka0_
  have hki_0 : KI V_ δ_ o_.toNatClampNeg := hKI
  have ho7 : o_.toNatClampNeg < 8 ∧ (o_.toNatClampNeg : Int) = o_.toInt := by have h9 := bo_.1; have h8 := bo_.2; have h7 := tnZ h9; omega
  refine lv_aload_n hx hb dX14_readKept_0 rfl (lv_at hl 0 rfl) ?_
  refine lv_aload_n hx hb dX14_readKept_1 rfl (lv_at hl 0 rfl) ?_
  refine g_getk (C := RX14) (T := TX14) (N := 67) hx hb hts (mc_ inX14) hown hK g rfl 2 (by decide) rfl (hts _ (List.mem_cons_of_mem _ t_2148)) (fun _ h9 => h9) 0 rfl dX14_readKept_2 ?_
  refine g_getr (K := 169) (C := RX12) (T := TX12) (N := 60) hx hb hts (mc_ inX12) hown hK g mq0_ kq0_ (by decide) rfl 13 (by decide) rfl (hts _ (List.mem_cons_of_mem _ t_1932)) (fun _ h9 => h9) rfl dX14_readKept_5 (fun a_1 ma_1 ka_1 g => ?_)
  refine lv_aload_n hx hb dX14_readKept_8 rfl (lv_at hl 0 rfl) ?_
  refine g_getk (C := RX14) (T := TX14) (N := 67) hx hb hts (mc_ inX14) hown hK g rfl 16 (by decide) rfl (hts _ (List.mem_cons_of_mem _ t_2162)) (fun _ h9 => h9) 2 rfl dX14_readKept_9 ?_
  refine g_iald hx hb hK g ma_1 ka_1 (by decide) rfl (in_bd bo_ (by decide)) dX14_readKept_12 (fun x_2 bx_2 cx_2 => ?_)
  have vx_2 : x_2 = V_.i 13 o_.toNatClampNeg := hV.at g 0 rfl rfl cx_2
  refine lv_bipush (v := 8) hx hb dX14_readKept_13 (by decide) ?_
  have kb_8 : bd 8 8 (8 : Int32) := ⟨by decide, by decide⟩
  refine lv_icmp_ge (tgt := 22) hx hb dX14_readKept_15 (by decide) (fun c_3 => ?_) (fun c_3 => ?_)
  · have fc_3 := le_f c_3
    have b_4 : bd 8 8 x_2 := leR fc_3 kb_8 bx_2 (by decide)
    refine lv_iconst (v := 0) hx hb dX14_readKept_22 (by decide) ?_
    refine lv_iconst (v := 4) hx hb dX14_readKept_23 (by decide) ?_
    refine lv_aload_n hx hb dX14_readKept_24 rfl (lv_at hl 0 rfl) ?_
    refine g_geti (C := RX14) (T := TX14) (N := 67) hx hb hts (mc_ inX14) hown hK g ma0_ ka0_ (by decide) rfl 8 (by decide) rfl (hts _ (List.mem_cons_of_mem _ t_2154)) (fun _ h9 => h9) rfl dX14_readKept_25 (fun x_5 bx_5 g => ?_)
    have kb_0 : bd 0 0 (0 : Int32) := ⟨by decide, by decide⟩
    have go_ := g
    refine g_callEv (As := [.int 0, .int 4, .int x_5]) (rest := []) ⟨hx, hb, hml, hown, hts⟩ (r_X14_need_2 l dC dI L kd tys f0 s.heap.size g.2.2.2.1 a0_ ma0_ ka0_ 0 kb_0 4 x_5) (cwV 3 hts (gV_ t_2403 t_2405 t_100 t_198 t_2406) rfl rfl rfl (by decide +kernel) ⟨(Nat.le_of_ble_eq_true rfl), (Nat.le_of_ble_eq_true rfl)⟩) (pre3V g hK ma0_ ka0_ (by decide) (q := (RX14, TX14, 67)) rfl) rfl hl.1 rfl (lv_room (Nat.le_of_ble_eq_true rfl)) dX14_readKept_28 (cl_f hck_0) g hK (by decide) (by decide) (fx' := [(14, 8, a0_, .int x_5), (12, 13, q0_, .ref a_1), (14, 2, a0_, .ref q0_), (14, 16, a0_, .int o_), (14, 25, a0_, .int op_), (14, 10, a0_, .int t_)]) rfl (fun xr_6 fr_6 H locs mxr_6 kxr_6 hp hMr_6 g => ?_) (fun fr_6 H locs hp hMr_6 g => ?_)
    · have hG_7 := isV.frame hMr_6 go_.2.2.2.1 mq0_ kq0_ (by decide) (by decide) hV
      have hG_8 := FR.frame hMr_6 go_.2.2.2.1 mq0_ kq0_ (by decide) (by decide) FR.refl
      have hG_9 := cEq.frame hMr_6 go_.2.2.2.1 ma0_ ka0_ (by decide) (by decide) hC_0
      subst hQ
      exact leavesX hempty hlocks (fun t ht hW => g_thrZ g hK mxr_6 kxr_6 ⟨hG_8, (by omega)⟩ ht hW) g.2.2.1.2.2
    · exact hp.elim
  · have fc_3 := nle_f c_3
    have b_10 : bd 0 7 x_2 := ltL fc_3 bx_2 kb_8 (by decide)
    refine lv_iconst (v := 1) hx hb dX14_readKept_18 (by decide) ?_
    refine lv_goto (tgt := 23) hx hb dX14_readKept_19 (by decide) ?_
    refine lv_iconst (v := 4) hx hb dX14_readKept_23 (by decide) ?_
    refine lv_aload_n hx hb dX14_readKept_24 rfl (lv_at hl 0 rfl) ?_
    refine g_geti (C := RX14) (T := TX14) (N := 67) hx hb hts (mc_ inX14) hown hK g ma0_ ka0_ (by decide) rfl 8 (by decide) rfl (hts _ (List.mem_cons_of_mem _ t_2154)) (fun _ h9 => h9) rfl dX14_readKept_25 (fun x_11 bx_11 g => ?_)
    have kb_1 : bd 1 1 (1 : Int32) := ⟨by decide, by decide⟩
    have go_ := g
    refine g_callEv (As := [.int 1, .int 4, .int x_11]) (rest := []) ⟨hx, hb, hml, hown, hts⟩ (r_X14_need_3 l dC dI L kd tys f0 s.heap.size g.2.2.2.1 a0_ ma0_ ka0_ 1 kb_1 4 x_11) (cwV 3 hts (gV_ t_2403 t_2405 t_100 t_198 t_2406) rfl rfl rfl (by decide +kernel) ⟨(Nat.le_of_ble_eq_true rfl), (Nat.le_of_ble_eq_true rfl)⟩) (pre3V g hK ma0_ ka0_ (by decide) (q := (RX14, TX14, 67)) rfl) rfl hl.1 rfl (lv_room (Nat.le_of_ble_eq_true rfl)) dX14_readKept_28 (cl_f hck_0) g hK (by decide) (by decide) (fx' := [(14, 8, a0_, .int x_11), (12, 13, q0_, .ref a_1), (14, 2, a0_, .ref q0_), (14, 16, a0_, .int o_), (14, 25, a0_, .int op_), (14, 10, a0_, .int t_)]) rfl (fun xr_12 fr_12 H locs mxr_12 kxr_12 hp hMr_12 g => ?_) (fun fr_12 H locs hp hMr_12 g => ?_)
    · have hG_13 := isV.frame hMr_12 go_.2.2.2.1 mq0_ kq0_ (by decide) (by decide) hV
      have hG_14 := FR.frame hMr_12 go_.2.2.2.1 mq0_ kq0_ (by decide) (by decide) FR.refl
      have hG_15 := cEq.frame hMr_12 go_.2.2.2.1 ma0_ ka0_ (by decide) (by decide) hC_0
      exact hp.elim
    · have hG_16 := isV.frame hMr_12 go_.2.2.2.1 mq0_ kq0_ (by decide) (by decide) hV
      have hG_17 := FR.frame hMr_12 go_.2.2.2.1 mq0_ kq0_ (by decide) (by decide) FR.refl
      have hG_18 := cEq.frame hMr_12 go_.2.2.2.1 ma0_ ka0_ (by decide) (by decide) hC_0
      refine lv_aload_n hx hb dX14_readKept_31 rfl (lv_at hl 0 rfl) ?_
      have go_ := g
      refine g_callEv (As := []) (rest := []) ⟨hx, hb, hml, hown, hts⟩ (r_X14_next_2 l dC dI L kd tys fr_12 H.size g.2.2.2.1 adK adV a0_ ma0_ ka0_ t_ bt_ (g.fcts [5] rfl)) (cwV 0 hts (gV_ t_2411 t_2413 t_102 t_198 t_2414) rfl rfl rfl (by decide +kernel) ⟨(Nat.le_of_ble_eq_true rfl), (Nat.le_of_ble_eq_true rfl)⟩) (pre3VA g hK hAm ma0_ ka0_ (by decide) (q := (RX14, TX14, 67)) rfl) rfl hl.1 rfl (lv_room (Nat.le_of_ble_eq_true rfl)) dX14_readKept_32 (cl_f hck_0) g hK (by decide) (by decide) (fx' := [(12, 13, q0_, .ref a_1), (14, 2, a0_, .ref q0_), (14, 16, a0_, .int o_), (14, 25, a0_, .int op_)]) rfl (fun xr_19 fr_19 H locs mxr_19 kxr_19 hp hMr_19 g => ?_) (fun fr_19 H locs hp hMr_19 g => ?_)
      · have hG_20 := isV.frame hMr_19 go_.2.2.2.1 mq0_ kq0_ (by decide) (by decide) hG_16
        have hG_21 := FR.frame hMr_19 go_.2.2.2.1 mq0_ kq0_ (by decide) (by decide) hG_17
        subst hQ
        exact leavesX hempty hlocks (fun t ht hW => g_thrZ g hK mxr_19 kxr_19 ⟨hG_21, (by omega)⟩ ht hW) g.2.2.1.2.2
      · obtain ⟨hx_22, h_23, x_24, h_25, hF_26⟩ := hp
        have hG_27 := isV.frame hMr_19 go_.2.2.2.1 mq0_ kq0_ (by decide) (by decide) hG_16
        have hG_28 := FR.frame hMr_19 go_.2.2.2.1 mq0_ kq0_ (by decide) (by decide) hG_17
        obtain ⟨E_29, hE_29⟩ : ∃ E : Int, cEq fr_19 a0_ E := ⟨_, rfl⟩
        have mxE_29 : E_29 ≤ 1202 := by have h9 := cF_le g ma0_ ka0_; have h8 : cF _ _ = _ := hE_29; omega
        have lE_29 : (cF f0 a0_) ≤ E_29 := by have h9 := hx_22; have h8 : cF _ _ = _ := hE_29; have h7 : cF _ _ = _ := hG_18; have h6 := sE_bd (f := fr_12) (t := a0_); have h5 := tk_c (f := fr_12) (t := a0_); omega
        have b_30 : bd 0 1200 t_ := eqX rfl bt_ h_23 (by decide)
        have g := g.more hF_26
        refine lv_aload_n hx hb dX14_readKept_35 rfl (lv_at hl 0 rfl) ?_
        refine lv_iconst (v := 1) hx hb dX14_readKept_36 (by decide) ?_
        have go_ := g
        refine g_put (C := RX14) (T := TX14) (N := 67) hx hb hts (mc_ inX14) tyX14 tyX14_ok nmX14 hown hK g ma0_ ka0_ (by decide) rfl 24 (by decide) (hts _ (List.mem_cons_of_mem _ t_2170)) (fun _ h9 => h9) rfl rfl (okV_i (bd_sub kb_1 (by decide))) rfl rfl (by decide) (Or.inr (Or.inl (by decide))) (fx' := [(14, 10, a0_, .int x_24), (12, 13, q0_, .ref a_1), (14, 2, a0_, .ref q0_), (14, 16, a0_, .int o_), (14, 25, a0_, .int op_)]) rfl dX14_readKept_37 (fun f H locs hM_31 g => ?_)
        have hG_32 := isV.frame hM_31 go_.2.2.2.1 mq0_ kq0_ (by decide) (by decide) hG_27
        have hG_33 := FR.frame hM_31 go_.2.2.2.1 mq0_ kq0_ (by decide) (by decide) hG_28
        have hG_34 := cEq.frame hM_31 go_.2.2.2.1 ma0_ ka0_ (by decide) (by decide) hE_29
        refine lv_bipush (v := 8) hx hb dX14_readKept_40 (by decide) ?_
        refine lv_aload_n hx hb dX14_readKept_42 rfl (lv_at hl 0 rfl) ?_
        refine g_getk (C := RX14) (T := TX14) (N := 67) hx hb hts (mc_ inX14) hown hK g rfl 16 (by decide) rfl (hts _ (List.mem_cons_of_mem _ t_2162)) (fun _ h9 => h9) 4 rfl dX14_readKept_43 ?_
        refine lv_imul hx hb dX14_readKept_46 ?_
        refine lv_topi (fun y_35 ey_35 => ?_)
        have ty_35 := cmul_bd ey_35 (c := 8) (by decide) bo_ (by decide)
        have b_36 : bd 0 56 y_35 := mulc_rg ty_35 bo_ (by decide)
        refine lv_aload_n hx hb dX14_readKept_47 rfl (lv_at hl 0 rfl) ?_
        refine g_getk (C := RX14) (T := TX14) (N := 67) hx hb hts (mc_ inX14) hown hK g rfl 2 (by decide) rfl (hts _ (List.mem_cons_of_mem _ t_2148)) (fun _ h9 => h9) 3 rfl dX14_readKept_48 ?_
        refine g_getk (C := RX12) (T := TX12) (N := 60) hx hb hts (mc_ inX12) hown hK g rfl 13 (by decide) rfl (hts _ (List.mem_cons_of_mem _ t_1932)) (fun _ h9 => h9) 2 rfl dX14_readKept_51 ?_
        refine lv_aload_n hx hb dX14_readKept_54 rfl (lv_at hl 0 rfl) ?_
        refine g_getk (C := RX14) (T := TX14) (N := 67) hx hb hts (mc_ inX14) hown hK g rfl 16 (by decide) rfl (hts _ (List.mem_cons_of_mem _ t_2162)) (fun _ h9 => h9) 4 rfl dX14_readKept_55 ?_
        refine g_iald hx hb hK g ma_1 ka_1 (by decide) rfl (in_bd bo_ (by decide)) dX14_readKept_58 (fun x_37 bx_37 cx_37 => ?_)
        obtain rfl : x_2 = x_37 := el_same cx_2 cx_37 ((arr_eq hM_31 ma_1 ka_1 (by decide) rfl).trans ((arr_eq hMr_19 ma_1 ka_1 (by decide) rfl).trans (arr_eq hMr_12 ma_1 ka_1 (by decide) rfl)))
        refine lv_iadd hx hb dX14_readKept_59 ?_
        refine lv_topi (fun y_38 ey_38 => ?_)
        have ty_38 := add_bd ey_38 b_36 b_10 (by decide)
        have b_39 : bd 0 63 y_38 := add_rg ty_38 b_36 b_10 (by decide)
        refine lv_istore_n (lv' := [(1, .int y_38), (0, .ref a0_)]) hx hb dX14_readKept_60 rfl hl (by decide) rfl (fun ls hl => ?_)
        refine lv_aload_n hx hb dX14_readKept_61 rfl (lv_at hl 1 rfl) ?_
        refine g_getk (C := RX14) (T := TX14) (N := 67) hx hb hts (mc_ inX14) hown hK g rfl 2 (by decide) rfl (hts _ (List.mem_cons_of_mem _ t_2148)) (fun _ h9 => h9) 3 rfl dX14_readKept_62 ?_
        refine g_getr (K := 168) (C := RX12) (T := TX12) (N := 60) hx hb hts (mc_ inX12) hown hK g mq0_ kq0_ (by decide) rfl 12 (by decide) rfl (hts _ (List.mem_cons_of_mem _ t_1930)) (fun _ h9 => h9) rfl dX14_readKept_65 (fun a_40 ma_40 ka_40 g => ?_)
        refine lv_iload_n hx hb dX14_readKept_68 rfl (lv_at hl 0 rfl) ?_
        refine lv_aload_n hx hb dX14_readKept_69 rfl (lv_at hl 1 rfl) ?_
        refine g_geti (C := RX14) (T := TX14) (N := 67) hx hb hts (mc_ inX14) hown hK g ma0_ ka0_ (by decide) rfl 8 (by decide) rfl (hts _ (List.mem_cons_of_mem _ t_2154)) (fun _ h9 => h9) rfl dX14_readKept_70 (fun x_41 bx_41 g => ?_)
        have gp_43 := g
        have go_ := g
        refine g_iastX hx hb hK g ma_40 ka_40 (by decide) rfl (in_bd b_39 (by decide)) (bd_sub bx_41 (by decide)) (by decide) dX14_readKept_73 (fun f H locs hM_44 u_46 g => ?_)
        have hG_45 := cEq.frame hM_44 go_.2.2.2.1 ma0_ ka0_ (by decide) (by decide) hG_34
        have hV_47 := isV.ui hG_32 gp_43 1 rfl mq0_ kq0_ rfl u_46
        have hF_48 := FR.arr hG_33 gp_43 1 rfl mq0_ kq0_ rfl rfl u_46.1
        have hki_49 : KI (V_.ui 12 y_38.toNatClampNeg x_41) δ_ o_.toNatClampNeg := KI.ui_ hki_0 (by decide)
        refine lv_aload_n hx hb dX14_readKept_74 rfl (lv_at hl 1 rfl) ?_
        refine g_getk (C := RX14) (T := TX14) (N := 67) hx hb hts (mc_ inX14) hown hK g rfl 2 (by decide) rfl (hts _ (List.mem_cons_of_mem _ t_2148)) (fun _ h9 => h9) 5 rfl dX14_readKept_75 ?_
        refine g_getr (K := 167) (C := RX12) (T := TX12) (N := 60) hx hb hts (mc_ inX12) hown hK g mq0_ kq0_ (by decide) rfl 11 (by decide) rfl (hts _ (List.mem_cons_of_mem _ t_1928)) (fun _ h9 => h9) rfl dX14_readKept_78 (fun a_50 ma_50 ka_50 g => ?_)
        refine lv_iload_n hx hb dX14_readKept_81 rfl (lv_at hl 0 rfl) ?_
        refine lv_aload_n hx hb dX14_readKept_82 rfl (lv_at hl 1 rfl) ?_
        have qc__51 : cF f a0_ = _ := hG_45
        have qn__52 : ((V_.ui 12 y_38.toNatClampNeg x_41).n 57).toInt = (V_.n 57).toInt ∧ ((V_.ui 12 y_38.toNatClampNeg x_41).n 46).toInt = (V_.n 46).toInt := ⟨rfl, rfl⟩
        have qc__53 : cF f a0_ = _ := hG_45
        have go_ := g
        refine g_callZi (As := []) (rest := [.int y_38, .ref a_50]) ⟨hx, hb, hml, hown, hts⟩ (r_X14_readEx l dC dI L kd tys f H.size g.2.2.2.1 adK adV a0_ ma0_ ka0_ q0_ mq0_ kq0_ (V_.ui 12 y_38.toNatClampNeg x_41) o_ bo_ op_ bop_ x_24 h_25 hV_47 hki_49.1.1 (by have h9 := hki_49.2.2.2; omega) (by omega) (K_ - cl_0) (by omega) (g.fcts [6, 7, 8, 4] rfl)) (cwV 0 hts (gV_ t_2460 t_2462 t_112 t_198 t_2463) rfl rfl rfl (by decide +kernel) ⟨(Nat.le_of_ble_eq_true rfl), (Nat.le_of_ble_eq_true rfl)⟩) (pre3VA g hK hAm ma0_ ka0_ (by decide) (q := (RX14, TX14, 67)) rfl) rfl hl.1 rfl (lv_room (Nat.le_of_ble_eq_true rfl)) dX14_readKept_83 (cl_k (K := K_) (k := K_ - cl_0) (show cl_0 + (K_ - cl_0) ≤ K_ by omega)) g hK (by decide) (by decide) (fx' := [(12, 11, q0_, .ref a_50), (12, 12, q0_, .ref a_40), (14, 24, a0_, .int 1), (12, 13, q0_, .ref a_1), (14, 2, a0_, .ref q0_), (14, 16, a0_, .int o_)]) rfl (fun xr_54 fr_54 H locs kr_54 cr_54 ecr_54 mxr_54 kxr_54 hp hMr_54 g => ?_) (fun r_54 fr_54 H locs kr_54 cr_54 ecr_54 hp hMr_54 g => ?_)
        · have hF_55 := FR.call (mds := []) (mas := []) hF_48 go_ mq0_ kq0_ rfl hp.1
          have hpk := hp.2
          subst hQ
          exact leavesX hempty hlocks (fun t ht hW => g_thrZ g hK mxr_54 kxr_54 ⟨hF_55, (by omega)⟩ ht hW) g.2.2.1.2.2
        · obtain ⟨hx_56, x_57, h_58, hF_59⟩ := hp
          obtain ⟨V_60, E_61, hV_62, hF_63, hE_64, hX_65, hw_66, hv_67, hP_68, hn_69, hk_70, hc_71⟩ := rd_use hx_56 hG_45
          have hF_72 := FR.call (mds := []) (mas := []) hF_48 go_ mq0_ kq0_ rfl hF_63
          have mxE_61 : E_61 ≤ 1202 := by have h9 := cF_le g ma0_ ka0_; have h8 : cF _ _ = _ := hE_64; omega
          have hki_73 := KI.nodes hki_49 hX_65 hw_66 (by omega)
          have hki_73n : (V_60.n 46).toInt = ((V_.ui 12 y_38.toNatClampNeg x_41).n 46).toInt := by rw [exN.n46 hX_65]
          have hq_74 : x_2 = V_60.i 13 o_.toNatClampNeg := vx_2.trans (congrFun ((hX_65).1 13 (by decide) (by decide)) _).symm
          have hck_75 : cr_54 ≤ K_ := by omega
          have b_76 : bd 0 2499 r_54 := ⟨hv_67.1, (by have h9 := hv_67.2.1; omega)⟩
          have g := g.more hF_59
          have hb_77 : ∀ c : Nat, c < 9 → (V_60.i 13 c).toInt ≤ 8 := (fun c hc => (isV.rng hV_62 g mq0_ kq0_ (j := 13) (K := 169) (by decide) rfl (by decide) rfl hc).2)
          have gp_78 := g
          have go_ := g
          refine g_iastX hx hb hK g ma_50 ka_50 (by decide) rfl (in_bd b_39 (by decide)) (bd_sub b_76 (by decide)) (by decide) dX14_readKept_86 (fun f H locs hM_79 u_81 g => ?_)
          have hG_80 := cEq.frame hM_79 go_.2.2.2.1 ma0_ ka0_ (by decide) (by decide) hE_64
          have hV_82 := isV.ui hV_62 gp_78 2 rfl mq0_ kq0_ rfl u_81
          have hF_83 := FR.arr hF_72 gp_78 2 rfl mq0_ kq0_ rfl rfl u_81.1
          have hki_84 : KI (V_60.ui 11 y_38.toNatClampNeg r_54) δ_ o_.toNatClampNeg := KI.u11 hki_73 hb_77 (by rw [← (show x_2 = V_60.i 13 o_.toNatClampNeg from hq_74)]; exact b_10.1) ho7.1 (by rw [← (show x_2 = V_60.i 13 o_.toNatClampNeg from hq_74), tnZ (by have h9_0 := bo_; unfold bd at h9_0; have h9_1 := bop_; unfold bd at h9_1; have h9_2 := b_76; unfold bd at h9_2; have h9_3 := b_30; unfold bd at h9_3; have h9_4 := bx_11; unfold bd at h9_4; have h9_5 := b_10; unfold bd at h9_5; have h9_6 := h_25; unfold bd at h9_6; have h9_7 := bx_37; unfold bd at h9_7; have h9_8 := bx_41; unfold bd at h9_8; have h9_9 := h_58; unfold bd at h9_9; have h9_10 := b_36; unfold bd at h9_10; have h9_11 := b_39; unfold bd at h9_11; have h8_0 := kb_1; unfold bd at h8_0; have h8_1 := kb_8; unfold bd at h8_1; omega)]; have h9_0 := bo_; unfold bd at h9_0; have h9_1 := bop_; unfold bd at h9_1; have h9_2 := b_76; unfold bd at h9_2; have h9_3 := b_30; unfold bd at h9_3; have h9_4 := bx_11; unfold bd at h9_4; have h9_5 := b_10; unfold bd at h9_5; have h9_6 := h_25; unfold bd at h9_6; have h9_7 := bx_37; unfold bd at h9_7; have h9_8 := bx_41; unfold bd at h9_8; have h9_9 := h_58; unfold bd at h9_9; have h9_10 := b_36; unfold bd at h9_10; have h9_11 := b_39; unfold bd at h9_11; have h8_0 := kb_1; unfold bd at h8_0; have h8_1 := kb_8; unfold bd at h8_1; omega)
          refine lv_aload_n hx hb dX14_readKept_87 rfl (lv_at hl 1 rfl) ?_
          refine lv_iconst (v := 0) hx hb dX14_readKept_88 (by decide) ?_
          have kb_0 : bd 0 0 (0 : Int32) := ⟨by decide, by decide⟩
          have go_ := g
          refine g_put (C := RX14) (T := TX14) (N := 67) hx hb hts (mc_ inX14) tyX14 tyX14_ok nmX14 hown hK g ma0_ ka0_ (by decide) rfl 24 (by decide) (hts _ (List.mem_cons_of_mem _ t_2170)) (fun _ h9 => h9) rfl rfl (okV_i (bd_sub kb_0 (by decide))) rfl rfl (by decide) (Or.inr (Or.inl (by decide))) (fx' := [(14, 25, a0_, .int op_), (14, 10, a0_, .int x_57), (12, 11, q0_, .ref a_50), (12, 12, q0_, .ref a_40), (12, 13, q0_, .ref a_1), (14, 2, a0_, .ref q0_), (14, 16, a0_, .int o_)]) rfl dX14_readKept_89 (fun f H locs hM_85 g => ?_)
          have hG_86 := cEq.frame hM_85 go_.2.2.2.1 ma0_ ka0_ (by decide) (by decide) hG_80
          have hG_87 := isV.frame hM_85 go_.2.2.2.1 mq0_ kq0_ (by decide) (by decide) hV_82
          have hG_88 := FR.frame hM_85 go_.2.2.2.1 mq0_ kq0_ (by decide) (by decide) hF_83
          refine lv_aload_n hx hb dX14_readKept_92 rfl (lv_at hl 1 rfl) ?_
          refine lv_bipush (v := 59) hx hb dX14_readKept_93 (by decide) ?_
          have go_ := g
          refine g_callEv (As := [.int 59]) (rest := []) ⟨hx, hb, hml, hown, hts⟩ (r_X14_sign_2 l dC dI L kd tys f H.size g.2.2.2.1 adK adV a0_ ma0_ ka0_ 59 x_57 h_58 (g.fcts [2] rfl)) (cwV 1 hts (gV_ t_2431 t_2433 t_107 t_198 t_2434) rfl rfl rfl (by decide +kernel) ⟨(Nat.le_of_ble_eq_true rfl), (Nat.le_of_ble_eq_true rfl)⟩) (pre3VA g hK hAm ma0_ ka0_ (by decide) (q := (RX14, TX14, 67)) rfl) rfl hl.1 rfl (lv_room (Nat.le_of_ble_eq_true rfl)) dX14_readKept_95 (cl_f hck_75) g hK (by decide) (by decide) (fx' := [(14, 24, a0_, .int 0), (14, 25, a0_, .int op_), (12, 11, q0_, .ref a_50), (12, 12, q0_, .ref a_40), (12, 13, q0_, .ref a_1), (14, 2, a0_, .ref q0_), (14, 16, a0_, .int o_)]) rfl (fun xr_89 fr_89 H locs mxr_89 kxr_89 hp hMr_89 g => ?_) (fun fr_89 H locs hp hMr_89 g => ?_)
          · have hG_90 := isV.frame hMr_89 go_.2.2.2.1 mq0_ kq0_ (by decide) (by decide) hG_87
            have hG_91 := FR.frame hMr_89 go_.2.2.2.1 mq0_ kq0_ (by decide) (by decide) hG_88
            subst hQ
            exact leavesX hempty hlocks (fun t ht hW => g_thrZ g hK mxr_89 kxr_89 ⟨hG_91, (by omega)⟩ ht hW) g.2.2.1.2.2
          · obtain ⟨hx_92, h_93, x_94, h_95, hF_96⟩ := hp
            have hG_97 := isV.frame hMr_89 go_.2.2.2.1 mq0_ kq0_ (by decide) (by decide) hG_87
            have hG_98 := FR.frame hMr_89 go_.2.2.2.1 mq0_ kq0_ (by decide) (by decide) hG_88
            obtain ⟨E_99, hE_99⟩ : ∃ E : Int, cEq fr_89 a0_ E := ⟨_, rfl⟩
            have mxE_99 : E_99 ≤ 1202 := by have h9 := cF_le g ma0_ ka0_; have h8 : cF _ _ = _ := hE_99; omega
            have lE_99 : E_61 + 1 ≤ E_99 := by have h9 := hx_92; have h8 : cF _ _ = _ := hE_99; have h7 : cF _ _ = _ := hG_86; omega
            have b_100 : bd 0 1200 x_57 := eqX rfl h_58 h_93 (by decide)
            have g := g.more hF_96
            refine lv_aload_n hx hb dX14_readKept_98 rfl (lv_at hl 1 rfl) ?_
            refine g_getk (C := RX14) (T := TX14) (N := 67) hx hb hts (mc_ inX14) hown hK g rfl 2 (by decide) rfl (hts _ (List.mem_cons_of_mem _ t_2148)) (fun _ h9 => h9) 6 rfl dX14_readKept_99 ?_
            refine g_getk (C := RX12) (T := TX12) (N := 60) hx hb hts (mc_ inX12) hown hK g rfl 13 (by decide) rfl (hts _ (List.mem_cons_of_mem _ t_1932)) (fun _ h9 => h9) 5 rfl dX14_readKept_102 ?_
            refine lv_aload_n hx hb dX14_readKept_105 rfl (lv_at hl 1 rfl) ?_
            refine g_getk (C := RX14) (T := TX14) (N := 67) hx hb hts (mc_ inX14) hown hK g rfl 16 (by decide) rfl (hts _ (List.mem_cons_of_mem _ t_2162)) (fun _ h9 => h9) 7 rfl dX14_readKept_106 ?_
            refine lv_dup2_11 hx hb dX14_readKept_109 rfl rfl ?_
            refine g_iald hx hb hK g ma_1 ka_1 (by decide) rfl (in_bd bo_ (by decide)) dX14_readKept_110 (fun x_101 bx_101 cx_101 => ?_)
            obtain rfl : x_2 = x_101 := el_same cx_2 cx_101 ((arr_eq hMr_89 ma_1 ka_1 (by decide) rfl).trans ((arr_eq hM_85 ma_1 ka_1 (by decide) rfl).trans ((arr_eq hM_79 ma_1 ka_1 (by decide) rfl).trans ((arr_eq hMr_54 ma_1 ka_1 (by decide) rfl).trans ((arr_eq hM_44 ma_1 ka_1 (by decide) rfl).trans ((arr_eq hM_31 ma_1 ka_1 (by decide) rfl).trans ((arr_eq hMr_19 ma_1 ka_1 (by decide) rfl).trans (arr_eq hMr_12 ma_1 ka_1 (by decide) rfl))))))))
            refine lv_iconst (v := 1) hx hb dX14_readKept_111 (by decide) ?_
            refine lv_iadd hx hb dX14_readKept_112 ?_
            refine lv_topi (fun y_102 ey_102 => ?_)
            have ty_102 := add_bd ey_102 b_10 kb_1 (by decide)
            have b_103 : bd 1 8 y_102 := add_rg ty_102 b_10 kb_1 (by decide)
            have gp_105 := g
            have go_ := g
            refine g_iastX hx hb hK g ma_1 ka_1 (by decide) rfl (in_bd bo_ (by decide)) (bd_sub b_103 (by decide)) (by decide) dX14_readKept_113 (fun f H locs hM_106 u_108 g => ?_)
            have hG_107 := cEq.frame hM_106 go_.2.2.2.1 ma0_ ka0_ (by decide) (by decide) hE_99
            have hV_109 := isV.ui hG_97 gp_105 5 rfl mq0_ kq0_ rfl u_108
            have hF_110 := FR.arr hG_98 gp_105 5 rfl mq0_ kq0_ rfl rfl u_108.1
            have hx_112 : 8 * o_.toNatClampNeg + x_2.toNatClampNeg = y_38.toNatClampNeg := by have h9 := tnZ b_10.1; have h8 := tnZ (i := y_38) (by have h9_0 := bo_; unfold bd at h9_0; have h9_1 := bop_; unfold bd at h9_1; have h9_2 := b_76; unfold bd at h9_2; have h9_3 := b_30; unfold bd at h9_3; have h9_4 := bx_101; unfold bd at h9_4; have h9_5 := bx_11; unfold bd at h9_5; have h9_6 := b_10; unfold bd at h9_6; have h9_7 := h_25; unfold bd at h9_7; have h9_8 := bx_37; unfold bd at h9_8; have h9_9 := bx_41; unfold bd at h9_9; have h9_10 := b_100; unfold bd at h9_10; have h9_11 := h_95; unfold bd at h9_11; have h9_12 := b_103; unfold bd at h9_12; have h9_13 := b_36; unfold bd at h9_13; have h9_14 := b_39; unfold bd at h9_14; have h8_0 := kb_0; unfold bd at h8_0; have h8_1 := kb_1; unfold bd at h8_1; have h8_2 := kb_8; unfold bd at h8_2; omega); have h9_0 := bo_; unfold bd at h9_0; have h9_1 := bop_; unfold bd at h9_1; have h9_2 := b_76; unfold bd at h9_2; have h9_3 := b_30; unfold bd at h9_3; have h9_4 := bx_101; unfold bd at h9_4; have h9_5 := bx_11; unfold bd at h9_5; have h9_6 := b_10; unfold bd at h9_6; have h9_7 := h_25; unfold bd at h9_7; have h9_8 := bx_37; unfold bd at h9_8; have h9_9 := bx_41; unfold bd at h9_9; have h9_10 := b_100; unfold bd at h9_10; have h9_11 := h_95; unfold bd at h9_11; have h9_12 := b_103; unfold bd at h9_12; have h9_13 := b_36; unfold bd at h9_13; have h9_14 := b_39; unfold bd at h9_14; have h8_0 := kb_0; unfold bd at h8_0; have h8_1 := kb_1; unfold bd at h8_1; have h8_2 := kb_8; unfold bd at h8_2; omega
            have hki_111 : KI ((V_60.ui 11 y_38.toNatClampNeg r_54).ui 13 o_.toNatClampNeg y_102) δ_ o_.toNatClampNeg := KI.u13 hki_84 (by rw [← (show x_2 = (V_60.ui 11 y_38.toNatClampNeg r_54).i 13 o_.toNatClampNeg from hq_74)]; exact b_10.1) (by rw [← (show x_2 = (V_60.ui 11 y_38.toNatClampNeg r_54).i 13 o_.toNatClampNeg from hq_74)]; have h9_0 := bo_; unfold bd at h9_0; have h9_1 := bop_; unfold bd at h9_1; have h9_2 := b_76; unfold bd at h9_2; have h9_3 := b_30; unfold bd at h9_3; have h9_4 := bx_101; unfold bd at h9_4; have h9_5 := bx_11; unfold bd at h9_5; have h9_6 := b_10; unfold bd at h9_6; have h9_7 := h_25; unfold bd at h9_7; have h9_8 := bx_37; unfold bd at h9_8; have h9_9 := bx_41; unfold bd at h9_9; have h9_10 := b_100; unfold bd at h9_10; have h9_11 := h_95; unfold bd at h9_11; have h9_12 := b_103; unfold bd at h9_12; have h9_13 := b_36; unfold bd at h9_13; have h9_14 := b_39; unfold bd at h9_14; have h8_0 := kb_0; unfold bd at h8_0; have h8_1 := kb_1; unfold bd at h8_1; have h8_2 := kb_8; unfold bd at h8_2; omega) (by rw [← (show x_2 = (V_60.ui 11 y_38.toNatClampNeg r_54).i 13 o_.toNatClampNeg from hq_74), hx_112, ui_same]; exact hv_67.up (by decide))
            have h9c : cF f a0_ = _ := hG_107
            have h8c : (((V_60.ui 11 y_38.toNatClampNeg r_54).ui 13 o_.toNatClampNeg y_102).n 57).toInt = (V_60.n 57).toInt ∧ (((V_60.ui 11 y_38.toNatClampNeg r_54).ui 13 o_.toNatClampNeg y_102).n 46).toInt = (V_60.n 46).toInt := ⟨rfl, rfl⟩
            subst hQ
            exact vretX hx hb hr (fun t ht hW => g_retZ g hK ⟨rfl, ⟨⟨((V_60.ui 11 y_38.toNatClampNeg r_54).ui 13 o_.toNatClampNeg y_102), _, hV_109, hF_110, hki_111, trivial, (by omega), (by omega), (by omega), (by omega)⟩, x_94, h_95, (g.fcts [2, 0] rfl)⟩⟩ ht hW) g.2.2.1.2.2 dX14_readKept_114 hlocks
