set_option maxHeartbeats 4000000 in
set_option maxRecDepth 100000 in
theorem r_X14_readAbove (N : Nat) (ih : RecR N) (l : Launch) (dC : Nat → ClassId) (dI : Nat → Nat → Nat) (L : List Nat) (kd : Nat → Nat) (tys : List (ClassId × FieldType)) (f0 : Nat → va_E) (sz : Nat) (hWT : WT L kd tys f0) (adK adV : Nat → Nat) (a0_ : Nat) (ma0_ : a0_ ∈ L) (ka0_ : kd a0_ = 14) (x1_ : Int32) (bx1_ : bd 0 1 x1_) (q0_ : Nat) (mq0_ : q0_ ∈ L) (kq0_ : kd q0_ = 12) (V_ : PV) (o_ : Int32) (bo_ : bd 0 7 o_) (op_ : Int32) (bop_ : bd 0 40 op_) (t_ : Int32) (bt_ : bd 0 1201 t_) (hV : isV f0 q0_ V_) (hwf : wfN V_ (V_.n 57).toInt) (ho : (o_.toNatClampNeg : Int) < (V_.n 0).toInt) (hnn : (V_.n 57).toInt ≤ cF f0 a0_) (hm_ : Int) (hhm : 12 ≤ hm_ ∧ hm_ ≤ 13 ∧ (x1_.toInt = 0 → hm_ = 13)) (K_ : Nat) (hK_ : 1204 ≤ 2 * (K_ : Int) + cF f0 a0_) (hN : 11 * (40 - op_.toInt) + 2 ≤ ((N + 1 : Nat) : Int)) (hfx : Fs L kd f0 [(14, 2, a0_, .ref q0_), (14, 16, a0_, .int o_), (14, 25, a0_, .int op_), (14, 10, a0_, .int t_)]) : MetX l yX14_readAbove (.code yX14_readAbove cX14_readAbove 9 (some .int) :: lw_g) ({ frames := (N + 1) + 24, cells := K_, slots := 3 * K_, locals := 60 * (N + 1) + 700 }) (va_Pc [.ref a0_, .int x1_] (P3A (dC, dI) L tys f0 sz adK adV)) (q3Z (dC, dI) L kd tys [(12, 57), (12, 58), (14, 6), (14, 7), (14, 8), (14, 9), (14, 10), (14, 11), (14, 12), (14, 13), (14, 14), (14, 15), (14, 25)] [180, 201, 202, 203, 204, 205, 206, 207, 208, 209, 210] f0 sz (pXi (fun (r : Int32) (f : Nat → va_E) (k : Nat) => (rdP L kd f0 a0_ q0_ V_ o_ (hm_) 0 r f k (fun v => v.toInt = 9)) ∧ ∃ z1_ : Int32, bd 0 1201 z1_ ∧ Fs L kd f [(14, 25, a0_, .int op_), (14, 10, a0_, .int z1_)])) (fun (f : Nat → va_E) (k : Nat) => FR L kd f0 f q0_ ∧ 2 * (k : Int) + cF f0 a0_ ≤ 1203)) (pA L sz) := by
  refine MetX.ofW (cc := cX14_readAbove) (maxL := 9) (ret := (some .int)) (by decide) rfl ?_
  intro p e s m args below meth c s₁ B hml hempty hv
  obtain ⟨rfl, ⟨hsz, hP, hK, hD0⟩, hAm⟩ := hv
  have hx := B.exec
  have hb := B.bytes
  have hr := B.returns
  have hts := atoms_spec (ws := (.code yX14_readAbove cX14_readAbove 9 (some .int) :: lw_g)) B.pre
  have hown : s.vm.findClass RX14 = some m.cls := findClass_of_methodNamed B.named
  have hlocks := B.notSynchronized
  subst hsz
  have g : G3 (dC, dI) L kd tys s f0 [(12, 57), (12, 58), (14, 6), (14, 7), (14, 8), (14, 9), (14, 10), (14, 11), (14, 12), (14, 13), (14, 14), (14, 15), (14, 25)] [180, 201, 202, 203, 204, 205, 206, 207, 208, 209, 210] f0 s.heap [] [(14, 2, a0_, .ref q0_), (14, 16, a0_, .int o_), (14, 25, a0_, .int op_), (14, 10, a0_, .int t_)] := G3.start hP hD0 hWT hfx
  have hl := lv_entry ([.ref a0_, .int x1_]) (n := 9) (Nat.le_of_ble_eq_true rfl)
  rw [lg_entry_eq]
  generalize (lg_sl ([.ref a0_, .int x1_]) ++ List.replicate (9 - (lg_sl ([.ref a0_, .int x1_])).length) Slot.unset).toArray = ls at hl ⊢
  have hl : lv_has ls 9 [(0, .ref a0_), (1, .int x1_)] := hl
  refine W_q (fun Q hQ => ?_)
  refine W_c0 (fun cl_0 hc_0 => ?_)
  have hck_0 : cl_0 ≤ K_ := by omega
  have hC_0 : cEq f0 a0_ (cF f0 a0_) := rfl
  have hm_0 : cF f0 a0_ ≤ 1202 := cF_le g ma0_ ka0_
  have hm_1 : -1 ≤ cF f0 a0_ := cF_ge g ma0_ ka0_
  have join_1 : ∀ (f : Nat → va_E) (H : Heap) (locs : List Loc) (ls : Array Slot), G3 (dC, dI) L kd tys s f0 [(12, 57), (12, 58), (14, 6), (14, 7), (14, 8), (14, 9), (14, 10), (14, 11), (14, 12), (14, 13), (14, 14), (14, 15), (14, 25)] [180, 201, 202, 203, 204, 205, 206, 207, 208, 209, 210] f H locs [(14, 2, a0_, .ref q0_), (14, 16, a0_, .int o_), (14, 25, a0_, .int op_), (14, 10, a0_, .int t_)] → isV f q0_ V_ → FR L kd f0 f q0_ → cEq f a0_ (cF f0 a0_) → lv_has ls 9 [(0, .ref a0_), (1, .int x1_)] → W p l e ({ frames := (N + 1) + 24, cells := K_, slots := 3 * K_, locals := 60 * (N + 1) + 700 } : Room) s m [.ref a0_, .int x1_].toArray below meth c H locs cl_0 (3 * cl_0) Q (F0 m 8 ls []) := by
    intro  f H locs ls  g hJ8_V_q0_ hJ8_F_q0_ hJ8_C_a0_ hl
    refine lv_aload_n hx hb dX14_readAbove_8 rfl (lv_at hl 0 rfl) ?_
    have go_ := g
    refine g_callEv (As := []) (rest := []) ⟨hx, hb, hml, hown, hts⟩ (r_X14_room l dC dI L kd tys f H.size g.2.2.2.1 a0_ ma0_ ka0_) (cwV 0 hts (gV_ t_2415 t_2417 t_103 t_198 t_2418) rfl rfl rfl (by decide +kernel) ⟨(show 2 + 1 ≤ N + 1 + 24 by omega), (show 8 + (1 + 11) + 45 ≤ 60 * (N + 1) + 700 by omega)⟩) (pre3V g hK ma0_ ka0_ (by decide) (q := (RX14, TX14, 67)) rfl) rfl hl.1 rfl (lv_room (Nat.le_of_ble_eq_true rfl)) dX14_readAbove_9 (cl_f hck_0) g hK (by decide) (by decide) (fx' := [(14, 2, a0_, .ref q0_), (14, 16, a0_, .int o_), (14, 25, a0_, .int op_), (14, 10, a0_, .int t_)]) rfl (fun xr_2 fr_2 H locs mxr_2 kxr_2 hp hMr_2 g => ?_) (fun fr_2 H locs hp hMr_2 g => ?_)
    · have hG_3 := isV.frame hMr_2 go_.2.2.2.1 mq0_ kq0_ (by decide) (by decide) hJ8_V_q0_
      have hG_4 := FR.frame hMr_2 go_.2.2.2.1 mq0_ kq0_ (by decide) (by decide) hJ8_F_q0_
      have hG_5 := cEq.frame hMr_2 go_.2.2.2.1 ma0_ ka0_ (by decide) (by decide) hJ8_C_a0_
      subst hQ
      exact leavesX hempty hlocks (fun t ht hW => g_thrZ g hK mxr_2 kxr_2 ⟨hG_4, (by omega)⟩ ht hW) g.2.2.1.2.2
    · obtain ⟨x_6, h_7, hF_8⟩ := hp
      have hG_9 := isV.frame hMr_2 go_.2.2.2.1 mq0_ kq0_ (by decide) (by decide) hJ8_V_q0_
      have hG_10 := FR.frame hMr_2 go_.2.2.2.1 mq0_ kq0_ (by decide) (by decide) hJ8_F_q0_
      have hG_11 := cEq.frame hMr_2 go_.2.2.2.1 ma0_ ka0_ (by decide) (by decide) hJ8_C_a0_
      have g := g.more hF_8
      have e_12 := fx_same g 4 0 rfl rfl
      have b_13 : bd 0 1200 t_ := eqX (eq_f e_12.symm) bt_ h_7 (by decide)
      have g := g.sub (fx' := [(14, 2, a0_, .ref q0_), (14, 16, a0_, .int o_), (14, 25, a0_, .int op_), (14, 10, a0_, .int t_)]) [1, 2, 3, 4] rfl
      refine lv_aload_n hx hb dX14_readAbove_12 rfl (lv_at hl 0 rfl) ?_
      refine g_getk (C := RX14) (T := TX14) (N := 67) hx hb hts (mc_ inX14) hown hK g rfl 2 (by decide) rfl (hts _ (List.mem_cons_of_mem _ t_2148)) (fun _ h9 => h9) 0 rfl dX14_readAbove_13 ?_
      refine g_getr (K := 159) (C := RX12) (T := TX12) (N := 60) hx hb hts (mc_ inX12) hown hK g mq0_ kq0_ (by decide) rfl 3 (by decide) rfl (hts _ (List.mem_cons_of_mem _ t_1912)) (fun _ h9 => h9) rfl dX14_readAbove_16 (fun a_14 ma_14 ka_14 g => ?_)
      refine lv_aload_n hx hb dX14_readAbove_19 rfl (lv_at hl 0 rfl) ?_
      refine g_getk (C := RX14) (T := TX14) (N := 67) hx hb hts (mc_ inX14) hown hK g rfl 16 (by decide) rfl (hts _ (List.mem_cons_of_mem _ t_2162)) (fun _ h9 => h9) 2 rfl dX14_readAbove_20 ?_
      refine g_iald hx hb hK g ma_14 ka_14 (by decide) rfl (in_bd bo_ (by decide)) dX14_readAbove_23 (fun x_15 bx_15 cx_15 => ?_)
      have vx_15 : x_15 = V_.i 3 o_.toNatClampNeg := hG_9.at g 0 rfl rfl cx_15
      refine lv_istore_n (lv' := [(2, .int x_15), (0, .ref a0_), (1, .int x1_)]) hx hb dX14_readAbove_24 rfl hl (by decide) rfl (fun ls hl => ?_)
      refine lv_aload_n hx hb dX14_readAbove_25 rfl (lv_at hl 1 rfl) ?_
      refine lv_iload_n hx hb dX14_readAbove_26 rfl (lv_at hl 0 rfl) ?_
      refine lv_iconst (v := (-1)) hx hb dX14_readAbove_27 (by decide) ?_
      have kb_m1 : bd (-1) (-1) ((-1) : Int32) := ⟨by decide, by decide⟩
      refine lv_icmp_eq (tgt := 35) hx hb dX14_readAbove_28 (by decide) (fun c_16 => ?_) (fun c_16 => ?_)
      · have fc_16 := eq_f c_16
        have b_17 : bd (-1) (-1) x_15 := eqX fc_16 bx_15 kb_m1 (by decide)
        refine lv_iconst (v := 0) hx hb dX14_readAbove_35 (by decide) ?_
        refine lv_iconst (v := 5) hx hb dX14_readAbove_36 (by decide) ?_
        refine lv_aload_n hx hb dX14_readAbove_37 rfl (lv_at hl 1 rfl) ?_
        refine g_geti (C := RX14) (T := TX14) (N := 67) hx hb hts (mc_ inX14) hown hK g ma0_ ka0_ (by decide) rfl 8 (by decide) rfl (hts _ (List.mem_cons_of_mem _ t_2154)) (fun _ h9 => h9) rfl dX14_readAbove_38 (fun x_18 bx_18 g => ?_)
        have kb_0 : bd 0 0 (0 : Int32) := ⟨by decide, by decide⟩
        have go_ := g
        refine g_callEv (As := [.int 0, .int 5, .int x_18]) (rest := []) ⟨hx, hb, hml, hown, hts⟩ (r_X14_need_2 l dC dI L kd tys fr_2 H.size g.2.2.2.1 a0_ ma0_ ka0_ 0 kb_0 5 x_18) (cwV 3 hts (gV_ t_2403 t_2405 t_100 t_198 t_2406) rfl rfl rfl (by decide +kernel) ⟨(show 1 + 1 ≤ N + 1 + 24 by omega), (show 8 + (4 + 11) + 22 ≤ 60 * (N + 1) + 700 by omega)⟩) (pre3V g hK ma0_ ka0_ (by decide) (q := (RX14, TX14, 67)) rfl) rfl hl.1 rfl (lv_room (Nat.le_of_ble_eq_true rfl)) dX14_readAbove_41 (cl_f hck_0) g hK (by decide) (by decide) (fx' := [(14, 8, a0_, .int x_18), (12, 3, q0_, .ref a_14), (14, 2, a0_, .ref q0_), (14, 16, a0_, .int o_), (14, 25, a0_, .int op_), (14, 10, a0_, .int t_)]) rfl (fun xr_19 fr_19 H locs mxr_19 kxr_19 hp hMr_19 g => ?_) (fun fr_19 H locs hp hMr_19 g => ?_)
        · have hG_20 := isV.frame hMr_19 go_.2.2.2.1 mq0_ kq0_ (by decide) (by decide) hG_9
          have hG_21 := FR.frame hMr_19 go_.2.2.2.1 mq0_ kq0_ (by decide) (by decide) hG_10
          have hG_22 := cEq.frame hMr_19 go_.2.2.2.1 ma0_ ka0_ (by decide) (by decide) hG_11
          subst hQ
          exact leavesX hempty hlocks (fun t ht hW => g_thrZ g hK mxr_19 kxr_19 ⟨hG_21, (by omega)⟩ ht hW) g.2.2.1.2.2
        · exact hp.elim
      · have fc_16 := neq_f c_16
        have b_23 : bd 0 7 x_15 := neX fc_16 bx_15 kb_m1 (by decide)
        refine lv_iconst (v := 1) hx hb dX14_readAbove_31 (by decide) ?_
        refine lv_goto (tgt := 36) hx hb dX14_readAbove_32 (by decide) ?_
        refine lv_iconst (v := 5) hx hb dX14_readAbove_36 (by decide) ?_
        refine lv_aload_n hx hb dX14_readAbove_37 rfl (lv_at hl 1 rfl) ?_
        refine g_geti (C := RX14) (T := TX14) (N := 67) hx hb hts (mc_ inX14) hown hK g ma0_ ka0_ (by decide) rfl 8 (by decide) rfl (hts _ (List.mem_cons_of_mem _ t_2154)) (fun _ h9 => h9) rfl dX14_readAbove_38 (fun x_24 bx_24 g => ?_)
        have kb_1 : bd 1 1 (1 : Int32) := ⟨by decide, by decide⟩
        have go_ := g
        refine g_callEv (As := [.int 1, .int 5, .int x_24]) (rest := []) ⟨hx, hb, hml, hown, hts⟩ (r_X14_need_3 l dC dI L kd tys fr_2 H.size g.2.2.2.1 a0_ ma0_ ka0_ 1 kb_1 5 x_24) (cwV 3 hts (gV_ t_2403 t_2405 t_100 t_198 t_2406) rfl rfl rfl (by decide +kernel) ⟨(show 0 + 1 ≤ N + 1 + 24 by omega), (show 8 + (4 + 11) + 0 ≤ 60 * (N + 1) + 700 by omega)⟩) (pre3V g hK ma0_ ka0_ (by decide) (q := (RX14, TX14, 67)) rfl) rfl hl.1 rfl (lv_room (Nat.le_of_ble_eq_true rfl)) dX14_readAbove_41 (cl_f hck_0) g hK (by decide) (by decide) (fx' := [(14, 8, a0_, .int x_24), (12, 3, q0_, .ref a_14), (14, 2, a0_, .ref q0_), (14, 16, a0_, .int o_), (14, 25, a0_, .int op_), (14, 10, a0_, .int t_)]) rfl (fun xr_25 fr_25 H locs mxr_25 kxr_25 hp hMr_25 g => ?_) (fun fr_25 H locs hp hMr_25 g => ?_)
        · have hG_26 := isV.frame hMr_25 go_.2.2.2.1 mq0_ kq0_ (by decide) (by decide) hG_9
          have hG_27 := FR.frame hMr_25 go_.2.2.2.1 mq0_ kq0_ (by decide) (by decide) hG_10
          have hG_28 := cEq.frame hMr_25 go_.2.2.2.1 ma0_ ka0_ (by decide) (by decide) hG_11
          exact hp.elim
        · have hG_29 := isV.frame hMr_25 go_.2.2.2.1 mq0_ kq0_ (by decide) (by decide) hG_9
          have hG_30 := FR.frame hMr_25 go_.2.2.2.1 mq0_ kq0_ (by decide) (by decide) hG_10
          have hG_31 := cEq.frame hMr_25 go_.2.2.2.1 ma0_ ka0_ (by decide) (by decide) hG_11
          refine lv_aload_n hx hb dX14_readAbove_44 rfl (lv_at hl 1 rfl) ?_
          have go_ := g
          refine g_callEv (As := []) (rest := []) ⟨hx, hb, hml, hown, hts⟩ (r_X14_next_2 l dC dI L kd tys fr_25 H.size g.2.2.2.1 adK adV a0_ ma0_ ka0_ t_ (bd_sub b_13 (by decide)) (g.fcts [5] rfl)) (cwV 0 hts (gV_ t_2411 t_2413 t_102 t_198 t_2414) rfl rfl rfl (by decide +kernel) ⟨(show 6 + 1 ≤ N + 1 + 24 by omega), (show 8 + (1 + 11) + 135 ≤ 60 * (N + 1) + 700 by omega)⟩) (pre3VA g hK hAm ma0_ ka0_ (by decide) (q := (RX14, TX14, 67)) rfl) rfl hl.1 rfl (lv_room (Nat.le_of_ble_eq_true rfl)) dX14_readAbove_45 (cl_f hck_0) g hK (by decide) (by decide) (fx' := [(12, 3, q0_, .ref a_14), (14, 2, a0_, .ref q0_), (14, 16, a0_, .int o_), (14, 25, a0_, .int op_)]) rfl (fun xr_32 fr_32 H locs mxr_32 kxr_32 hp hMr_32 g => ?_) (fun fr_32 H locs hp hMr_32 g => ?_)
          · have hG_33 := isV.frame hMr_32 go_.2.2.2.1 mq0_ kq0_ (by decide) (by decide) hG_29
            have hG_34 := FR.frame hMr_32 go_.2.2.2.1 mq0_ kq0_ (by decide) (by decide) hG_30
            subst hQ
            exact leavesX hempty hlocks (fun t ht hW => g_thrZ g hK mxr_32 kxr_32 ⟨hG_34, (by omega)⟩ ht hW) g.2.2.1.2.2
          · obtain ⟨hx_35, h_36, x_37, h_38, hF_39⟩ := hp
            have hG_40 := isV.frame hMr_32 go_.2.2.2.1 mq0_ kq0_ (by decide) (by decide) hG_29
            have hG_41 := FR.frame hMr_32 go_.2.2.2.1 mq0_ kq0_ (by decide) (by decide) hG_30
            obtain ⟨E_42, hE_42⟩ : ∃ E : Int, cEq fr_32 a0_ E := ⟨_, rfl⟩
            have mxE_42 : E_42 ≤ 1202 := by have h9 := cF_le g ma0_ ka0_; have h8 : cF _ _ = _ := hE_42; omega
            have lE_42 : (cF f0 a0_) ≤ E_42 := by have h9 := hx_35; have h8 : cF _ _ = _ := hE_42; have h7 : cF _ _ = _ := hG_31; have h6 := sE_bd (f := fr_25) (t := a0_); have h5 := tk_c (f := fr_25) (t := a0_); omega
            have g := g.more hF_39
            refine lv_aload_n hx hb dX14_readAbove_48 rfl (lv_at hl 1 rfl) ?_
            refine lv_bipush (v := 46) hx hb dX14_readAbove_49 (by decide) ?_
            have go_ := g
            refine g_callEv (As := [.int 46]) (rest := []) ⟨hx, hb, hml, hown, hts⟩ (r_X14_sign_2 l dC dI L kd tys fr_32 H.size g.2.2.2.1 adK adV a0_ ma0_ ka0_ 46 x_37 h_38 (g.fcts [0] rfl)) (cwV 1 hts (gV_ t_2431 t_2433 t_107 t_198 t_2434) rfl rfl rfl (by decide +kernel) ⟨(show 7 + 1 ≤ N + 1 + 24 by omega), (show 8 + (2 + 11) + 155 ≤ 60 * (N + 1) + 700 by omega)⟩) (pre3VA g hK hAm ma0_ ka0_ (by decide) (q := (RX14, TX14, 67)) rfl) rfl hl.1 rfl (lv_room (Nat.le_of_ble_eq_true rfl)) dX14_readAbove_51 (cl_f hck_0) g hK (by decide) (by decide) (fx' := [(12, 3, q0_, .ref a_14), (14, 2, a0_, .ref q0_), (14, 16, a0_, .int o_), (14, 25, a0_, .int op_)]) rfl (fun xr_43 fr_43 H locs mxr_43 kxr_43 hp hMr_43 g => ?_) (fun fr_43 H locs hp hMr_43 g => ?_)
            · have hG_44 := isV.frame hMr_43 go_.2.2.2.1 mq0_ kq0_ (by decide) (by decide) hG_40
              have hG_45 := FR.frame hMr_43 go_.2.2.2.1 mq0_ kq0_ (by decide) (by decide) hG_41
              subst hQ
              exact leavesX hempty hlocks (fun t ht hW => g_thrZ g hK mxr_43 kxr_43 ⟨hG_45, (by omega)⟩ ht hW) g.2.2.1.2.2
            · obtain ⟨hx_46, h_47, x_48, h_49, hF_50⟩ := hp
              have hG_51 := isV.frame hMr_43 go_.2.2.2.1 mq0_ kq0_ (by decide) (by decide) hG_40
              have hG_52 := FR.frame hMr_43 go_.2.2.2.1 mq0_ kq0_ (by decide) (by decide) hG_41
              obtain ⟨E_53, hE_53⟩ : ∃ E : Int, cEq fr_43 a0_ E := ⟨_, rfl⟩
              have mxE_53 : E_53 ≤ 1202 := by have h9 := cF_le g ma0_ ka0_; have h8 : cF _ _ = _ := hE_53; omega
              have lE_53 : E_42 + 1 ≤ E_53 := by have h9 := hx_46; have h8 : cF _ _ = _ := hE_53; have h7 : cF _ _ = _ := hE_42; omega
              have b_54 : bd 0 1200 x_37 := eqX rfl h_38 h_47 (by decide)
              have g := g.more hF_50
              refine lv_aload_n hx hb dX14_readAbove_54 rfl (lv_at hl 1 rfl) ?_
              refine lv_aload_n hx hb dX14_readAbove_55 rfl (lv_at hl 1 rfl) ?_
              refine g_geti (C := RX14) (T := TX14) (N := 67) hx hb hts (mc_ inX14) hown hK g ma0_ ka0_ (by decide) rfl 6 (by decide) rfl (hts _ (List.mem_cons_of_mem _ t_2152)) (fun _ h9 => h9) rfl dX14_readAbove_56 (fun x_55 bx_55 g => ?_)
              refine lv_iconst (v := 1) hx hb dX14_readAbove_59 (by decide) ?_
              refine lv_icmp_ne (tgt := 67) hx hb dX14_readAbove_60 (by decide) (fun c_56 => ?_) (fun c_56 => ?_)
              · have fc_56 := neq_f c_56
                refine lv_iconst (v := 0) hx hb dX14_readAbove_67 (by decide) ?_
                refine lv_iconst (v := 1) hx hb dX14_readAbove_68 (by decide) ?_
                refine lv_aload_n hx hb dX14_readAbove_69 rfl (lv_at hl 1 rfl) ?_
                refine g_geti (C := RX14) (T := TX14) (N := 67) hx hb hts (mc_ inX14) hown hK g ma0_ ka0_ (by decide) rfl 8 (by decide) rfl (hts _ (List.mem_cons_of_mem _ t_2154)) (fun _ h9 => h9) rfl dX14_readAbove_70 (fun x_57 bx_57 g => ?_)
                have kb_0 : bd 0 0 (0 : Int32) := ⟨by decide, by decide⟩
                have go_ := g
                refine g_callEv (As := [.int 0, .int 1, .int x_57]) (rest := []) ⟨hx, hb, hml, hown, hts⟩ (r_X14_need_2 l dC dI L kd tys fr_43 H.size g.2.2.2.1 a0_ ma0_ ka0_ 0 kb_0 1 x_57) (cwV 3 hts (gV_ t_2403 t_2405 t_100 t_198 t_2406) rfl rfl rfl (by decide +kernel) ⟨(show 1 + 1 ≤ N + 1 + 24 by omega), (show 8 + (4 + 11) + 22 ≤ 60 * (N + 1) + 700 by omega)⟩) (pre3V g hK ma0_ ka0_ (by decide) (q := (RX14, TX14, 67)) rfl) rfl hl.1 rfl (lv_room (Nat.le_of_ble_eq_true rfl)) dX14_readAbove_73 (cl_f hck_0) g hK (by decide) (by decide) (fx' := [(14, 8, a0_, .int x_57), (14, 6, a0_, .int x_55), (14, 10, a0_, .int x_48), (12, 3, q0_, .ref a_14), (14, 2, a0_, .ref q0_), (14, 16, a0_, .int o_), (14, 25, a0_, .int op_)]) rfl (fun xr_58 fr_58 H locs mxr_58 kxr_58 hp hMr_58 g => ?_) (fun fr_58 H locs hp hMr_58 g => ?_)
                · have hG_59 := isV.frame hMr_58 go_.2.2.2.1 mq0_ kq0_ (by decide) (by decide) hG_51
                  have hG_60 := FR.frame hMr_58 go_.2.2.2.1 mq0_ kq0_ (by decide) (by decide) hG_52
                  have hG_61 := cEq.frame hMr_58 go_.2.2.2.1 ma0_ ka0_ (by decide) (by decide) hE_53
                  subst hQ
                  exact leavesX hempty hlocks (fun t ht hW => g_thrZ g hK mxr_58 kxr_58 ⟨hG_60, (by omega)⟩ ht hW) g.2.2.1.2.2
                · exact hp.elim
              · have fc_56 := eq_f c_56
                have b_62 : bd 1 1 x_55 := eqX fc_56 bx_55 kb_1 (by decide)
                refine lv_iconst (v := 1) hx hb dX14_readAbove_63 (by decide) ?_
                refine lv_goto (tgt := 68) hx hb dX14_readAbove_64 (by decide) ?_
                refine lv_iconst (v := 1) hx hb dX14_readAbove_68 (by decide) ?_
                refine lv_aload_n hx hb dX14_readAbove_69 rfl (lv_at hl 1 rfl) ?_
                refine g_geti (C := RX14) (T := TX14) (N := 67) hx hb hts (mc_ inX14) hown hK g ma0_ ka0_ (by decide) rfl 8 (by decide) rfl (hts _ (List.mem_cons_of_mem _ t_2154)) (fun _ h9 => h9) rfl dX14_readAbove_70 (fun x_63 bx_63 g => ?_)
                have hs_64 := sE_1 g 1 rfl (by have h9_0 := bo_; unfold bd at h9_0; have h9_1 := bop_; unfold bd at h9_1; have h9_2 := b_13; unfold bd at h9_2; have h9_3 := bx1_; unfold bd at h9_3; have h9_4 := b_23; unfold bd at h9_4; have h9_5 := bx_24; unfold bd at h9_5; have h9_6 := b_54; unfold bd at h9_6; have h9_7 := h_49; unfold bd at h9_7; have h9_8 := b_62; unfold bd at h9_8; have h9_9 := h_7; unfold bd at h9_9; have h9_10 := bx_63; unfold bd at h9_10; have h8_0 := kb_1; unfold bd at h8_0; have h8_1 := kb_m1; unfold bd at h8_1; omega)
                have go_ := g
                refine g_callEv (As := [.int 1, .int 1, .int x_63]) (rest := []) ⟨hx, hb, hml, hown, hts⟩ (r_X14_need_3 l dC dI L kd tys fr_43 H.size g.2.2.2.1 a0_ ma0_ ka0_ 1 kb_1 1 x_63) (cwV 3 hts (gV_ t_2403 t_2405 t_100 t_198 t_2406) rfl rfl rfl (by decide +kernel) ⟨(show 0 + 1 ≤ N + 1 + 24 by omega), (show 8 + (4 + 11) + 0 ≤ 60 * (N + 1) + 700 by omega)⟩) (pre3V g hK ma0_ ka0_ (by decide) (q := (RX14, TX14, 67)) rfl) rfl hl.1 rfl (lv_room (Nat.le_of_ble_eq_true rfl)) dX14_readAbove_73 (cl_f hck_0) g hK (by decide) (by decide) (fx' := [(14, 8, a0_, .int x_63), (14, 6, a0_, .int x_55), (14, 10, a0_, .int x_48), (12, 3, q0_, .ref a_14), (14, 2, a0_, .ref q0_), (14, 16, a0_, .int o_), (14, 25, a0_, .int op_)]) rfl (fun xr_65 fr_65 H locs mxr_65 kxr_65 hp hMr_65 g => ?_) (fun fr_65 H locs hp hMr_65 g => ?_)
                · have hG_66 := isV.frame hMr_65 go_.2.2.2.1 mq0_ kq0_ (by decide) (by decide) hG_51
                  have hG_67 := FR.frame hMr_65 go_.2.2.2.1 mq0_ kq0_ (by decide) (by decide) hG_52
                  have hG_68 := cEq.frame hMr_65 go_.2.2.2.1 ma0_ ka0_ (by decide) (by decide) hE_53
                  exact hp.elim
                · have hG_69 := isV.frame hMr_65 go_.2.2.2.1 mq0_ kq0_ (by decide) (by decide) hG_51
                  have hG_70 := FR.frame hMr_65 go_.2.2.2.1 mq0_ kq0_ (by decide) (by decide) hG_52
                  have hG_71 := cEq.frame hMr_65 go_.2.2.2.1 ma0_ ka0_ (by decide) (by decide) hE_53
                  refine lv_aload_n hx hb dX14_readAbove_76 rfl (lv_at hl 1 rfl) ?_
                  refine g_getl (C := RX14) (T := TX14) (N := 67) hx hb hts (mc_ inX14) hown hK g ma0_ ka0_ (by decide) rfl 12 (by decide) rfl (hts _ (List.mem_cons_of_mem _ t_2158)) (fun _ h9 => h9) rfl dX14_readAbove_77 (fun x_72 g => ?_)
                  refine lv_lstore_n (lv' := [(3, .long x_72), (2, .int x_15), (0, .ref a0_), (1, .int x1_)]) hx hb dX14_readAbove_80 rfl hl (by decide) rfl (fun ls hl => ?_)
                  refine lv_aload_n hx hb dX14_readAbove_81 rfl (lv_at hl 2 rfl) ?_
                  refine g_getl (C := RX14) (T := TX14) (N := 67) hx hb hts (mc_ inX14) hown hK g ma0_ ka0_ (by decide) rfl 13 (by decide) rfl (hts _ (List.mem_cons_of_mem _ t_2159)) (fun _ h9 => h9) rfl dX14_readAbove_82 (fun x_73 g => ?_)
                  refine lv_lstore (lv' := [(5, .long x_73), (3, .long x_72), (2, .int x_15), (0, .ref a0_), (1, .int x1_)]) hx hb dX14_readAbove_85 hl (by decide) rfl (fun ls hl => ?_)
                  refine lv_aload_n hx hb dX14_readAbove_87 rfl (lv_at hl 3 rfl) ?_
                  refine g_getk (C := RX14) (T := TX14) (N := 67) hx hb hts (mc_ inX14) hown hK g rfl 8 (by decide) rfl (hts _ (List.mem_cons_of_mem _ t_2154)) (fun _ h9 => h9) 2 rfl dX14_readAbove_88 ?_
                  refine lv_istore (lv' := [(7, .int x_63), (5, .long x_73), (3, .long x_72), (2, .int x_15), (0, .ref a0_), (1, .int x1_)]) hx hb dX14_readAbove_91 hl (by decide) rfl (fun ls hl => ?_)
                  refine lv_aload_n hx hb dX14_readAbove_93 rfl (lv_at hl 4 rfl) ?_
                  refine g_getk (C := RX14) (T := TX14) (N := 67) hx hb hts (mc_ inX14) hown hK g rfl 2 (by decide) rfl (hts _ (List.mem_cons_of_mem _ t_2148)) (fun _ h9 => h9) 6 rfl dX14_readAbove_94 ?_
                  refine lv_iload_n hx hb dX14_readAbove_97 rfl (lv_at hl 3 rfl) ?_
                  refine lv_lload_n hx hb dX14_readAbove_98 rfl (lv_at hl 2 rfl) ?_
                  refine lv_lload hx hb dX14_readAbove_99 (lv_at hl 1 rfl) ?_
                  have hs_74 := sE_1 g 3 rfl (by have h9_0 := bo_; unfold bd at h9_0; have h9_1 := bop_; unfold bd at h9_1; have h9_2 := b_13; unfold bd at h9_2; have h9_3 := bx1_; unfold bd at h9_3; have h9_4 := b_23; unfold bd at h9_4; have h9_5 := bx_24; unfold bd at h9_5; have h9_6 := b_54; unfold bd at h9_6; have h9_7 := h_49; unfold bd at h9_7; have h9_8 := b_62; unfold bd at h9_8; have h9_9 := h_7; unfold bd at h9_9; have h9_10 := bx_63; unfold bd at h9_10; have h8_0 := kb_1; unfold bd at h8_0; have h8_1 := kb_m1; unfold bd at h8_1; omega)
                  have go_ := g
                  refine g_calli (va_runV (As := [.int x_15, .long x_72, .long x_73]) (rest := []) ⟨hx, hb, hml, hown, hts⟩ (r_X12_findN l dC dI L kd tys fr_65 H.size g.2.2.2.1 q0_ mq0_ kq0_ x_15 (bd_sub b_23 (by decide)) x_72 x_73 V_ hG_69) (cwV 3 hts (gV_ t_2500 t_2501 t_2502 t_203 t_2503) rfl rfl rfl (by decide +kernel) ⟨(show 0 + 1 ≤ N + 1 + 24 by omega), (show 8 + (7 + 11) + 0 ≤ 60 * (N + 1) + 700 by omega)⟩) (pre3V g hK mq0_ kq0_ (by decide) (q := (RX12, TX12, 60)) rfl) rfl rfl hl.1 rfl (lv_room (Nat.le_of_ble_eq_true rfl)) dX14_readAbove_101 (cl_f hck_0)) g hK (by decide) (by decide) (fx' := [(14, 13, a0_, .long x_73), (14, 12, a0_, .long x_72), (14, 8, a0_, .int x_63), (14, 6, a0_, .int x_55), (14, 10, a0_, .int x_48), (12, 3, q0_, .ref a_14), (14, 2, a0_, .ref q0_), (14, 16, a0_, .int o_), (14, 25, a0_, .int op_)]) rfl (fun r_75 fr_75 H locs hp hMr_75 g => ?_)
                  rcases hp with ⟨hx_76, h_77, -⟩ | ⟨hx_78, h_79, -⟩
                  · have hG_80 := isV.frame hMr_75 go_.2.2.2.1 mq0_ kq0_ (by decide) (by decide) hG_69
                    have hG_81 := FR.frame hMr_75 go_.2.2.2.1 mq0_ kq0_ (by decide) (by decide) hG_70
                    have hG_82 := cEq.frame hMr_75 go_.2.2.2.1 ma0_ ka0_ (by decide) (by decide) hG_71
                    obtain rfl : r_75 = (-1) := h_77
                    refine lv_istore (lv' := [(8, .int (-1)), (7, .int x_63), (5, .long x_73), (3, .long x_72), (2, .int x_15), (0, .ref a0_), (1, .int x1_)]) hx hb dX14_readAbove_104 hl (by decide) rfl (fun ls hl => ?_)
                    refine lv_aload_n hx hb dX14_readAbove_106 rfl (lv_at hl 5 rfl) ?_
                    refine lv_iload hx hb dX14_readAbove_107 (lv_at hl 0 rfl) ?_
                    refine lv_iconst (v := (-1)) hx hb dX14_readAbove_109 (by decide) ?_
                    refine lv_icmp_eq (tgt := 117) hx hb dX14_readAbove_110 (by decide) (fun c_ => ?_) (fun c_ => absurd (by decide) c_)
                    refine lv_iconst (v := 0) hx hb dX14_readAbove_117 (by decide) ?_
                    refine lv_iconst (v := 2) hx hb dX14_readAbove_118 (by decide) ?_
                    refine lv_iload hx hb dX14_readAbove_119 (lv_at hl 1 rfl) ?_
                    have hs_83 := sE_1 g 3 rfl (by have h9_0 := bo_; unfold bd at h9_0; have h9_1 := bop_; unfold bd at h9_1; have h9_2 := b_13; unfold bd at h9_2; have h9_3 := bx1_; unfold bd at h9_3; have h9_4 := b_23; unfold bd at h9_4; have h9_5 := bx_24; unfold bd at h9_5; have h9_6 := b_54; unfold bd at h9_6; have h9_7 := h_49; unfold bd at h9_7; have h9_8 := b_62; unfold bd at h9_8; have h9_9 := h_7; unfold bd at h9_9; have h9_10 := bx_63; unfold bd at h9_10; have h8_0 := kb_1; unfold bd at h8_0; have h8_1 := kb_m1; unfold bd at h8_1; omega)
                    have kb_0 : bd 0 0 (0 : Int32) := ⟨by decide, by decide⟩
                    have go_ := g
                    refine g_callEv (As := [.int 0, .int 2, .int x_63]) (rest := []) ⟨hx, hb, hml, hown, hts⟩ (r_X14_need_2 l dC dI L kd tys fr_75 H.size g.2.2.2.1 a0_ ma0_ ka0_ 0 kb_0 2 x_63) (cwV 3 hts (gV_ t_2403 t_2405 t_100 t_198 t_2406) rfl rfl rfl (by decide +kernel) ⟨(show 1 + 1 ≤ N + 1 + 24 by omega), (show 8 + (4 + 11) + 22 ≤ 60 * (N + 1) + 700 by omega)⟩) (pre3V g hK ma0_ ka0_ (by decide) (q := (RX14, TX14, 67)) rfl) rfl hl.1 rfl (lv_room (Nat.le_of_ble_eq_true rfl)) dX14_readAbove_121 (cl_f hck_0) g hK (by decide) (by decide) (fx' := [(14, 13, a0_, .long x_73), (14, 12, a0_, .long x_72), (14, 8, a0_, .int x_63), (14, 6, a0_, .int x_55), (14, 10, a0_, .int x_48), (12, 3, q0_, .ref a_14), (14, 2, a0_, .ref q0_), (14, 16, a0_, .int o_), (14, 25, a0_, .int op_)]) rfl (fun xr_84 fr_84 H locs mxr_84 kxr_84 hp hMr_84 g => ?_) (fun fr_84 H locs hp hMr_84 g => ?_)
                    · have hG_85 := isV.frame hMr_84 go_.2.2.2.1 mq0_ kq0_ (by decide) (by decide) hG_80
                      have hG_86 := FR.frame hMr_84 go_.2.2.2.1 mq0_ kq0_ (by decide) (by decide) hG_81
                      have hG_87 := cEq.frame hMr_84 go_.2.2.2.1 ma0_ ka0_ (by decide) (by decide) hG_82
                      subst hQ
                      exact leavesX hempty hlocks (fun t ht hW => g_thrZ g hK mxr_84 kxr_84 ⟨hG_86, (by omega)⟩ ht hW) g.2.2.1.2.2
                    · exact hp.elim
                  · have hG_88 := isV.frame hMr_75 go_.2.2.2.1 mq0_ kq0_ (by decide) (by decide) hG_69
                    have hG_89 := FR.frame hMr_75 go_.2.2.2.1 mq0_ kq0_ (by decide) (by decide) hG_70
                    have hG_90 := cEq.frame hMr_75 go_.2.2.2.1 ma0_ ka0_ (by decide) (by decide) hG_71
                    have hf_91 : 0 ≤ (V_.i 3 o_.toNatClampNeg).toInt ∧ fnd V_ (V_.i 3 o_.toNatClampNeg).toNatClampNeg x_72 x_73 := by rw [← vx_15]; exact ⟨b_23.1, hx_78.fnd_⟩
                    refine lv_istore (lv' := [(8, .int r_75), (7, .int x_63), (5, .long x_73), (3, .long x_72), (2, .int x_15), (0, .ref a0_), (1, .int x1_)]) hx hb dX14_readAbove_104 hl (by decide) rfl (fun ls hl => ?_)
                    refine lv_aload_n hx hb dX14_readAbove_106 rfl (lv_at hl 5 rfl) ?_
                    refine lv_iload hx hb dX14_readAbove_107 (lv_at hl 0 rfl) ?_
                    refine lv_iconst (v := (-1)) hx hb dX14_readAbove_109 (by decide) ?_
                    refine lv_icmp_eq (tgt := 117) hx hb dX14_readAbove_110 (by decide) (fun c_92 => ?_) (fun c_92 => ?_)
                    · have fc_92 := eq_f c_92
                      have b_93 : bd 0 (-1) r_75 := eqX fc_92 h_79 kb_m1 (by decide)
                      exact bd_no b_93 (by decide)
                    · have fc_92 := neq_f c_92
                      refine lv_iconst (v := 1) hx hb dX14_readAbove_113 (by decide) ?_
                      refine lv_goto (tgt := 118) hx hb dX14_readAbove_114 (by decide) ?_
                      refine lv_iconst (v := 2) hx hb dX14_readAbove_118 (by decide) ?_
                      refine lv_iload hx hb dX14_readAbove_119 (lv_at hl 1 rfl) ?_
                      have hs_94 := sE_1 g 3 rfl (by have h9_0 := bo_; unfold bd at h9_0; have h9_1 := bop_; unfold bd at h9_1; have h9_2 := h_79; unfold bd at h9_2; have h9_3 := b_13; unfold bd at h9_3; have h9_4 := bx1_; unfold bd at h9_4; have h9_5 := b_23; unfold bd at h9_5; have h9_6 := bx_24; unfold bd at h9_6; have h9_7 := b_54; unfold bd at h9_7; have h9_8 := h_49; unfold bd at h9_8; have h9_9 := b_62; unfold bd at h9_9; have h9_10 := h_7; unfold bd at h9_10; have h9_11 := bx_63; unfold bd at h9_11; have h8_0 := kb_1; unfold bd at h8_0; have h8_1 := kb_m1; unfold bd at h8_1; omega)
                      have go_ := g
                      refine g_callEv (As := [.int 1, .int 2, .int x_63]) (rest := []) ⟨hx, hb, hml, hown, hts⟩ (r_X14_need_3 l dC dI L kd tys fr_75 H.size g.2.2.2.1 a0_ ma0_ ka0_ 1 kb_1 2 x_63) (cwV 3 hts (gV_ t_2403 t_2405 t_100 t_198 t_2406) rfl rfl rfl (by decide +kernel) ⟨(show 0 + 1 ≤ N + 1 + 24 by omega), (show 8 + (4 + 11) + 0 ≤ 60 * (N + 1) + 700 by omega)⟩) (pre3V g hK ma0_ ka0_ (by decide) (q := (RX14, TX14, 67)) rfl) rfl hl.1 rfl (lv_room (Nat.le_of_ble_eq_true rfl)) dX14_readAbove_121 (cl_f hck_0) g hK (by decide) (by decide) (fx' := [(14, 13, a0_, .long x_73), (14, 12, a0_, .long x_72), (14, 8, a0_, .int x_63), (14, 6, a0_, .int x_55), (14, 10, a0_, .int x_48), (12, 3, q0_, .ref a_14), (14, 2, a0_, .ref q0_), (14, 16, a0_, .int o_), (14, 25, a0_, .int op_)]) rfl (fun xr_95 fr_95 H locs mxr_95 kxr_95 hp hMr_95 g => ?_) (fun fr_95 H locs hp hMr_95 g => ?_)
                      · have hG_96 := isV.frame hMr_95 go_.2.2.2.1 mq0_ kq0_ (by decide) (by decide) hG_88
                        have hG_97 := FR.frame hMr_95 go_.2.2.2.1 mq0_ kq0_ (by decide) (by decide) hG_89
                        have hG_98 := cEq.frame hMr_95 go_.2.2.2.1 ma0_ ka0_ (by decide) (by decide) hG_90
                        exact hp.elim
                      · have hG_99 := isV.frame hMr_95 go_.2.2.2.1 mq0_ kq0_ (by decide) (by decide) hG_88
                        have hG_100 := FR.frame hMr_95 go_.2.2.2.1 mq0_ kq0_ (by decide) (by decide) hG_89
                        have hG_101 := cEq.frame hMr_95 go_.2.2.2.1 ma0_ ka0_ (by decide) (by decide) hG_90
                        refine lv_aload_n hx hb dX14_readAbove_124 rfl (lv_at hl 5 rfl) ?_
                        have hs_102 := sE_1 g 3 rfl (by have h9_0 := bo_; unfold bd at h9_0; have h9_1 := bop_; unfold bd at h9_1; have h9_2 := h_79; unfold bd at h9_2; have h9_3 := b_13; unfold bd at h9_3; have h9_4 := bx1_; unfold bd at h9_4; have h9_5 := b_23; unfold bd at h9_5; have h9_6 := bx_24; unfold bd at h9_6; have h9_7 := b_54; unfold bd at h9_7; have h9_8 := h_49; unfold bd at h9_8; have h9_9 := b_62; unfold bd at h9_9; have h9_10 := h_7; unfold bd at h9_10; have h9_11 := bx_63; unfold bd at h9_11; have h8_0 := kb_1; unfold bd at h8_0; have h8_1 := kb_m1; unfold bd at h8_1; omega)
                        have go_ := g
                        refine g_callEv (As := []) (rest := []) ⟨hx, hb, hml, hown, hts⟩ (r_X14_next_2 l dC dI L kd tys fr_95 H.size g.2.2.2.1 adK adV a0_ ma0_ ka0_ x_48 h_49 (g.fcts [4] rfl)) (cwV 0 hts (gV_ t_2411 t_2413 t_102 t_198 t_2414) rfl rfl rfl (by decide +kernel) ⟨(show 6 + 1 ≤ N + 1 + 24 by omega), (show 8 + (1 + 11) + 135 ≤ 60 * (N + 1) + 700 by omega)⟩) (pre3VA g hK hAm ma0_ ka0_ (by decide) (q := (RX14, TX14, 67)) rfl) rfl hl.1 rfl (lv_room (Nat.le_of_ble_eq_true rfl)) dX14_readAbove_125 (cl_f hck_0) g hK (by decide) (by decide) (fx' := [(12, 3, q0_, .ref a_14), (14, 2, a0_, .ref q0_), (14, 16, a0_, .int o_), (14, 25, a0_, .int op_)]) rfl (fun xr_103 fr_103 H locs mxr_103 kxr_103 hp hMr_103 g => ?_) (fun fr_103 H locs hp hMr_103 g => ?_)
                        · have hG_104 := isV.frame hMr_103 go_.2.2.2.1 mq0_ kq0_ (by decide) (by decide) hG_99
                          have hG_105 := FR.frame hMr_103 go_.2.2.2.1 mq0_ kq0_ (by decide) (by decide) hG_100
                          subst hQ
                          exact leavesX hempty hlocks (fun t ht hW => g_thrZ g hK mxr_103 kxr_103 ⟨hG_105, (by omega)⟩ ht hW) g.2.2.1.2.2
                        · obtain ⟨hx_106, h_107, x_108, h_109, hF_110⟩ := hp
                          have hG_111 := isV.frame hMr_103 go_.2.2.2.1 mq0_ kq0_ (by decide) (by decide) hG_99
                          have hG_112 := FR.frame hMr_103 go_.2.2.2.1 mq0_ kq0_ (by decide) (by decide) hG_100
                          obtain ⟨E_113, hE_113⟩ : ∃ E : Int, cEq fr_103 a0_ E := ⟨_, rfl⟩
                          have mxE_113 : E_113 ≤ 1202 := by have h9 := cF_le g ma0_ ka0_; have h8 : cF _ _ = _ := hE_113; omega
                          have lE_113 : E_53 + 1 ≤ E_113 := by have h9 := hx_106; have h8 : cF _ _ = _ := hE_113; have h7 : cF _ _ = _ := hG_101; have h6 := hs_102; have h5 := tk_c (f := fr_95) (t := a0_); omega
                          have b_114 : bd 0 1200 x_48 := eqX rfl h_49 h_107 (by decide)
                          have g := g.more hF_110
                          have join_115 : ∀ (g167_14_22_a0_ : Int32) (f : Nat → va_E) (H : Heap) (locs : List Loc) (ls : Array Slot), bd 0 1 g167_14_22_a0_ → G3 (dC, dI) L kd tys s f0 [(12, 57), (12, 58), (14, 6), (14, 7), (14, 8), (14, 9), (14, 10), (14, 11), (14, 12), (14, 13), (14, 14), (14, 15), (14, 25)] [180, 201, 202, 203, 204, 205, 206, 207, 208, 209, 210] f H locs [(14, 22, a0_, .int g167_14_22_a0_), (14, 10, a0_, .int x_108), (12, 3, q0_, .ref a_14), (14, 2, a0_, .ref q0_), (14, 16, a0_, .int o_), (14, 25, a0_, .int op_)] → isV f q0_ V_ → FR L kd f0 f q0_ → cEq f a0_ E_113 → lv_has ls 9 [(8, .int r_75), (7, .int x_63), (5, .long x_73), (3, .long x_72), (2, .int x_15), (0, .ref a0_), (1, .int x1_)] → W p l e ({ frames := (N + 1) + 24, cells := K_, slots := 3 * K_, locals := 60 * (N + 1) + 700 } : Room) s m [.ref a0_, .int x1_].toArray below meth c H locs cl_0 (3 * cl_0) Q (F0 m 167 ls []) := by
                            intro g167_14_22_a0_ f H locs ls bg167_14_22_a0_ g hJ167_V_q0_ hJ167_F_q0_ hJ167_C_a0_ hl
                            refine lv_aload_n hx hb dX14_readAbove_167 rfl (lv_at hl 5 rfl) ?_
                            refine lv_bipush (v := 9) hx hb dX14_readAbove_168 (by decide) ?_
                            refine lv_iload hx hb dX14_readAbove_170 (lv_at hl 0 rfl) ?_
                            refine lv_lload_n hx hb dX14_readAbove_172 rfl (lv_at hl 3 rfl) ?_
                            refine lv_lload hx hb dX14_readAbove_173 (lv_at hl 2 rfl) ?_
                            refine lv_iload hx hb dX14_readAbove_175 (lv_at hl 1 rfl) ?_
                            refine lv_iload_n hx hb dX14_readAbove_177 rfl (lv_at hl 6 rfl) ?_
                            have qc__116 : cF f a0_ = _ := hJ167_C_a0_
                            have go_ := g
                            refine g_callZi (As := [.int 9, .int r_75, .long x_72, .long x_73, .int x_63, .int x1_]) (rest := []) ⟨hx, hb, hml, hown, hts⟩ (ih.2.2.2.2.2.2 l dC dI L kd tys f H.size g.2.2.2.1 adK adV a0_ ma0_ ka0_ (9 : Int32) r_75 h_79 x_72 x_73 x_63 x1_ bx1_ q0_ mq0_ kq0_ V_ o_ bo_ op_ bop_ x_108 h_109 hJ167_V_q0_ hwf ho (by omega) hm_ hhm (by decide) (fun h9 => absurd h9 (by decide)) (fun _ => hf_91) (K_ - cl_0) (by omega) (by have h9_0 := bg167_14_22_a0_; unfold bd at h9_0; have h9_1 := bo_; unfold bd at h9_1; have h9_2 := bop_; unfold bd at h9_2; have h9_3 := h_79; unfold bd at h9_3; have h9_4 := b_13; unfold bd at h9_4; have h9_5 := bx1_; unfold bd at h9_5; have h9_6 := h_109; unfold bd at h9_6; have h9_7 := b_23; unfold bd at h9_7; have h9_8 := bx_24; unfold bd at h9_8; have h9_9 := b_54; unfold bd at h9_9; have h9_10 := b_114; unfold bd at h9_10; have h9_11 := b_62; unfold bd at h9_11; have h9_12 := h_7; unfold bd at h9_12; have h9_13 := bx_63; unfold bd at h9_13; have h8_0 := kb_1; unfold bd at h8_0; have h8_1 := kb_m1; unfold bd at h8_1; omega) (g.fcts [3, 4, 5, 1] rfl)) (cwV 6 hts (gV_ t_2508 t_2510 t_123 t_198 t_2511) rfl rfl rfl (by decide +kernel) ⟨(show N + 24 + 1 ≤ N + 1 + 24 by omega), (show 8 + (16 + 11) + (60 * N + 700) ≤ 60 * (N + 1) + 700 by omega)⟩) (pre3VA g hK hAm ma0_ ka0_ (by decide) (q := (RX14, TX14, 67)) rfl) rfl hl.1 rfl (lv_room (Nat.le_of_ble_eq_true rfl)) dX14_readAbove_178 (cl_k (K := K_) (k := K_ - cl_0) (show cl_0 + (K_ - cl_0) ≤ K_ by omega)) g hK (by decide) (by decide) (fx' := [(14, 22, a0_, .int g167_14_22_a0_), (12, 3, q0_, .ref a_14), (14, 2, a0_, .ref q0_), (14, 16, a0_, .int o_)]) rfl (fun xr_117 fr_117 H locs kr_117 cr_117 ecr_117 mxr_117 kxr_117 hp hMr_117 g => ?_) (fun r_117 fr_117 H locs kr_117 cr_117 ecr_117 hp hMr_117 g => ?_)
                            · have hF_118 := FR.call (mds := []) (mas := []) hJ167_F_q0_ go_ mq0_ kq0_ rfl hp.1
                              have hpk := hp.2
                              subst hQ
                              exact leavesX hempty hlocks (fun t ht hW => g_thrZ g hK mxr_117 kxr_117 ⟨hF_118, (by omega)⟩ ht hW) g.2.2.1.2.2
                            · obtain ⟨hx_119, x_120, h_121, hF_122⟩ := hp
                              obtain ⟨V_123, E_124, hV_125, hF_126, hE_127, hX_128, hw_129, hv_130, hP_131, hn_132, hk_133, hc_134⟩ := rd_use hx_119 hJ167_C_a0_
                              have hF_135 := FR.call (mds := []) (mas := []) hJ167_F_q0_ go_ mq0_ kq0_ rfl hF_126
                              have mxE_124 : E_124 ≤ 1202 := by have h9 := cF_le g ma0_ ka0_; have h8 : cF _ _ = _ := hE_127; omega
                              have hx_136 := exN.tr exN.rf hX_128
                              have hck_137 : cr_117 ≤ K_ := by omega
                              have b_138 : bd 0 2499 r_117 := ⟨hv_130.1, (by have h9 := hv_130.2.1; omega)⟩
                              have g := g.more hF_122
                              have h9c : cF fr_117 a0_ = _ := hE_127
                              subst hQ
                              exact iretX (v := r_117) hx hb hr (fun t ht hW => g_retZ g hK ⟨_, rfl, ⟨⟨_, hV_125, hF_135, hx_136, hw_129, hv_130, (hP_131.trans (by decide)), (by omega), (by omega), (by omega)⟩, x_120, h_121, (g.fcts [0, 1] rfl)⟩⟩ ht hW) g.2.2.1.2.2 dX14_readAbove_181 hlocks
                          refine lv_aload_n hx hb dX14_readAbove_128 rfl (lv_at hl 5 rfl) ?_
                          refine lv_aload_n hx hb dX14_readAbove_129 rfl (lv_at hl 5 rfl) ?_
                          refine g_geti (C := RX14) (T := TX14) (N := 67) hx hb hts (mc_ inX14) hown hK g ma0_ ka0_ (by decide) rfl 22 (by decide) rfl (hts _ (List.mem_cons_of_mem _ t_2168)) (fun _ h9 => h9) rfl dX14_readAbove_130 (fun x_139 bx_139 g => ?_)
                          have kb_0 : bd 0 0 (0 : Int32) := ⟨by decide, by decide⟩
                          refine lv_if_ne (tgt := 143) hx hb dX14_readAbove_133 (by decide) (fun c_140 => ?_) (fun c_140 => ?_)
                          · have fc_140 := neq_f c_140
                            have b_141 : bd 1 1 x_139 := neX fc_140 bx_139 kb_0 (by decide)
                            refine lv_aload_n hx hb dX14_readAbove_143 rfl (lv_at hl 5 rfl) ?_
                            refine g_getk (C := RX14) (T := TX14) (N := 67) hx hb hts (mc_ inX14) hown hK g rfl 2 (by decide) rfl (hts _ (List.mem_cons_of_mem _ t_2148)) (fun _ h9 => h9) 3 rfl dX14_readAbove_144 ?_
                            refine g_getr (K := 182) (C := RX12) (T := TX12) (N := 60) hx hb hts (mc_ inX12) hown hK g mq0_ kq0_ (by decide) rfl 26 (by decide) rfl (hts _ (List.mem_cons_of_mem _ t_1958)) (fun _ h9 => h9) rfl dX14_readAbove_147 (fun a_142 ma_142 ka_142 g => ?_)
                            refine lv_iload hx hb dX14_readAbove_150 (lv_at hl 0 rfl) ?_
                            refine g_zald hx hb hK g ma_142 ka_142 (by decide) rfl (in_bd h_79 (by decide)) dX14_readAbove_152 (fun x_143 bx_143 => ?_)
                            refine lv_if_eq (tgt := 160) hx hb dX14_readAbove_153 (by decide) (fun c_144 => ?_) (fun c_144 => ?_)
                            · have fc_144 := eq_f c_144
                              have b_145 : bd 0 0 x_143 := eqX fc_144 bx_143 kb_0 (by decide)
                              refine lv_iconst (v := 0) hx hb dX14_readAbove_160 (by decide) ?_
                              refine lv_iconst (v := 5) hx hb dX14_readAbove_161 (by decide) ?_
                              refine lv_iload hx hb dX14_readAbove_162 (lv_at hl 1 rfl) ?_
                              have go_ := g
                              refine g_callEv (As := [.int 0, .int 5, .int x_63]) (rest := []) ⟨hx, hb, hml, hown, hts⟩ (r_X14_need_2 l dC dI L kd tys fr_103 H.size g.2.2.2.1 a0_ ma0_ ka0_ 0 kb_0 5 x_63) (cwV 3 hts (gV_ t_2403 t_2405 t_100 t_198 t_2406) rfl rfl rfl (by decide +kernel) ⟨(show 1 + 1 ≤ N + 1 + 24 by omega), (show 8 + (4 + 11) + 22 ≤ 60 * (N + 1) + 700 by omega)⟩) (pre3V g hK ma0_ ka0_ (by decide) (q := (RX14, TX14, 67)) rfl) rfl hl.1 rfl (lv_room (Nat.le_of_ble_eq_true rfl)) dX14_readAbove_164 (cl_f hck_0) g hK (by decide) (by decide) (fx' := [(12, 26, q0_, .ref a_142), (14, 22, a0_, .int x_139), (14, 10, a0_, .int x_108), (12, 3, q0_, .ref a_14), (14, 2, a0_, .ref q0_), (14, 16, a0_, .int o_), (14, 25, a0_, .int op_)]) rfl (fun xr_146 fr_146 H locs mxr_146 kxr_146 hp hMr_146 g => ?_) (fun fr_146 H locs hp hMr_146 g => ?_)
                              · have hG_147 := isV.frame hMr_146 go_.2.2.2.1 mq0_ kq0_ (by decide) (by decide) hG_111
                                have hG_148 := FR.frame hMr_146 go_.2.2.2.1 mq0_ kq0_ (by decide) (by decide) hG_112
                                have hG_149 := cEq.frame hMr_146 go_.2.2.2.1 ma0_ ka0_ (by decide) (by decide) hE_113
                                subst hQ
                                exact leavesX hempty hlocks (fun t ht hW => g_thrZ g hK mxr_146 kxr_146 ⟨hG_148, (by omega)⟩ ht hW) g.2.2.1.2.2
                              · exact hp.elim
                            · have fc_144 := neq_f c_144
                              have b_150 : bd 1 1 x_143 := neX fc_144 bx_143 kb_0 (by decide)
                              refine lv_iconst (v := 1) hx hb dX14_readAbove_156 (by decide) ?_
                              refine lv_goto (tgt := 161) hx hb dX14_readAbove_157 (by decide) ?_
                              refine lv_iconst (v := 5) hx hb dX14_readAbove_161 (by decide) ?_
                              refine lv_iload hx hb dX14_readAbove_162 (lv_at hl 1 rfl) ?_
                              have go_ := g
                              refine g_callEv (As := [.int 1, .int 5, .int x_63]) (rest := []) ⟨hx, hb, hml, hown, hts⟩ (r_X14_need_3 l dC dI L kd tys fr_103 H.size g.2.2.2.1 a0_ ma0_ ka0_ 1 kb_1 5 x_63) (cwV 3 hts (gV_ t_2403 t_2405 t_100 t_198 t_2406) rfl rfl rfl (by decide +kernel) ⟨(show 0 + 1 ≤ N + 1 + 24 by omega), (show 8 + (4 + 11) + 0 ≤ 60 * (N + 1) + 700 by omega)⟩) (pre3V g hK ma0_ ka0_ (by decide) (q := (RX14, TX14, 67)) rfl) rfl hl.1 rfl (lv_room (Nat.le_of_ble_eq_true rfl)) dX14_readAbove_164 (cl_f hck_0) g hK (by decide) (by decide) (fx' := [(12, 26, q0_, .ref a_142), (14, 22, a0_, .int x_139), (14, 10, a0_, .int x_108), (12, 3, q0_, .ref a_14), (14, 2, a0_, .ref q0_), (14, 16, a0_, .int o_), (14, 25, a0_, .int op_)]) rfl (fun xr_151 fr_151 H locs mxr_151 kxr_151 hp hMr_151 g => ?_) (fun fr_151 H locs hp hMr_151 g => ?_)
                              · have hG_152 := isV.frame hMr_151 go_.2.2.2.1 mq0_ kq0_ (by decide) (by decide) hG_111
                                have hG_153 := FR.frame hMr_151 go_.2.2.2.1 mq0_ kq0_ (by decide) (by decide) hG_112
                                have hG_154 := cEq.frame hMr_151 go_.2.2.2.1 ma0_ ka0_ (by decide) (by decide) hE_113
                                exact hp.elim
                              · have hG_155 := isV.frame hMr_151 go_.2.2.2.1 mq0_ kq0_ (by decide) (by decide) hG_111
                                have hG_156 := FR.frame hMr_151 go_.2.2.2.1 mq0_ kq0_ (by decide) (by decide) hG_112
                                have hG_157 := cEq.frame hMr_151 go_.2.2.2.1 ma0_ ka0_ (by decide) (by decide) hE_113
                                have hl9 := lv_sub hl [0, 1, 2, 3, 4, 5, 6] (by rfl : lv_pick [(8, .int r_75), (7, .int x_63), (5, .long x_73), (3, .long x_72), (2, .int x_15), (0, .ref a0_), (1, .int x1_)] [0, 1, 2, 3, 4, 5, 6] = [(8, .int r_75), (7, .int x_63), (5, .long x_73), (3, .long x_72), (2, .int x_15), (0, .ref a0_), (1, .int x1_)])
                                have g9 := g.sub (fx' := [(14, 22, a0_, .int x_139), (14, 10, a0_, .int x_108), (12, 3, q0_, .ref a_14), (14, 2, a0_, .ref q0_), (14, 16, a0_, .int o_), (14, 25, a0_, .int op_)]) [1, 2, 3, 4, 5, 6] rfl
                                exact join_115 x_139 _ _ _ _ (bd_sub b_141 (by decide)) g9 hG_155 hG_156 hG_157 hl9
                          · have fc_140 := eq_f c_140
                            have b_158 : bd 0 0 x_139 := eqX fc_140 bx_139 kb_0 (by decide)
                            refine lv_aload_n hx hb dX14_readAbove_136 rfl (lv_at hl 5 rfl) ?_
                            refine g_geti (C := RX14) (T := TX14) (N := 67) hx hb hts (mc_ inX14) hown hK g ma0_ ka0_ (by decide) rfl 24 (by decide) rfl (hts _ (List.mem_cons_of_mem _ t_2170)) (fun _ h9 => h9) rfl dX14_readAbove_137 (fun x_159 bx_159 g => ?_)
                            refine lv_if_eq (tgt := 156) hx hb dX14_readAbove_140 (by decide) (fun c_160 => ?_) (fun c_160 => ?_)
                            · have fc_160 := eq_f c_160
                              have b_161 : bd 0 0 x_159 := eqX fc_160 bx_159 kb_0 (by decide)
                              refine lv_iconst (v := 1) hx hb dX14_readAbove_156 (by decide) ?_
                              refine lv_goto (tgt := 161) hx hb dX14_readAbove_157 (by decide) ?_
                              refine lv_iconst (v := 5) hx hb dX14_readAbove_161 (by decide) ?_
                              refine lv_iload hx hb dX14_readAbove_162 (lv_at hl 1 rfl) ?_
                              have go_ := g
                              refine g_callEv (As := [.int 1, .int 5, .int x_63]) (rest := []) ⟨hx, hb, hml, hown, hts⟩ (r_X14_need_3 l dC dI L kd tys fr_103 H.size g.2.2.2.1 a0_ ma0_ ka0_ 1 kb_1 5 x_63) (cwV 3 hts (gV_ t_2403 t_2405 t_100 t_198 t_2406) rfl rfl rfl (by decide +kernel) ⟨(show 0 + 1 ≤ N + 1 + 24 by omega), (show 8 + (4 + 11) + 0 ≤ 60 * (N + 1) + 700 by omega)⟩) (pre3V g hK ma0_ ka0_ (by decide) (q := (RX14, TX14, 67)) rfl) rfl hl.1 rfl (lv_room (Nat.le_of_ble_eq_true rfl)) dX14_readAbove_164 (cl_f hck_0) g hK (by decide) (by decide) (fx' := [(14, 24, a0_, .int x_159), (14, 22, a0_, .int x_139), (14, 10, a0_, .int x_108), (12, 3, q0_, .ref a_14), (14, 2, a0_, .ref q0_), (14, 16, a0_, .int o_), (14, 25, a0_, .int op_)]) rfl (fun xr_162 fr_162 H locs mxr_162 kxr_162 hp hMr_162 g => ?_) (fun fr_162 H locs hp hMr_162 g => ?_)
                              · have hG_163 := isV.frame hMr_162 go_.2.2.2.1 mq0_ kq0_ (by decide) (by decide) hG_111
                                have hG_164 := FR.frame hMr_162 go_.2.2.2.1 mq0_ kq0_ (by decide) (by decide) hG_112
                                have hG_165 := cEq.frame hMr_162 go_.2.2.2.1 ma0_ ka0_ (by decide) (by decide) hE_113
                                exact hp.elim
                              · have hG_166 := isV.frame hMr_162 go_.2.2.2.1 mq0_ kq0_ (by decide) (by decide) hG_111
                                have hG_167 := FR.frame hMr_162 go_.2.2.2.1 mq0_ kq0_ (by decide) (by decide) hG_112
                                have hG_168 := cEq.frame hMr_162 go_.2.2.2.1 ma0_ ka0_ (by decide) (by decide) hE_113
                                have hl9 := lv_sub hl [0, 1, 2, 3, 4, 5, 6] (by rfl : lv_pick [(8, .int r_75), (7, .int x_63), (5, .long x_73), (3, .long x_72), (2, .int x_15), (0, .ref a0_), (1, .int x1_)] [0, 1, 2, 3, 4, 5, 6] = [(8, .int r_75), (7, .int x_63), (5, .long x_73), (3, .long x_72), (2, .int x_15), (0, .ref a0_), (1, .int x1_)])
                                have g9 := g.sub (fx' := [(14, 22, a0_, .int x_139), (14, 10, a0_, .int x_108), (12, 3, q0_, .ref a_14), (14, 2, a0_, .ref q0_), (14, 16, a0_, .int o_), (14, 25, a0_, .int op_)]) [1, 2, 3, 4, 5, 6] rfl
                                exact join_115 x_139 _ _ _ _ (bd_sub b_158 (by decide)) g9 hG_166 hG_167 hG_168 hl9
                            · have fc_160 := neq_f c_160
                              have b_169 : bd 1 1 x_159 := neX fc_160 bx_159 kb_0 (by decide)
                              refine lv_aload_n hx hb dX14_readAbove_143 rfl (lv_at hl 5 rfl) ?_
                              refine g_getk (C := RX14) (T := TX14) (N := 67) hx hb hts (mc_ inX14) hown hK g rfl 2 (by decide) rfl (hts _ (List.mem_cons_of_mem _ t_2148)) (fun _ h9 => h9) 4 rfl dX14_readAbove_144 ?_
                              refine g_getr (K := 182) (C := RX12) (T := TX12) (N := 60) hx hb hts (mc_ inX12) hown hK g mq0_ kq0_ (by decide) rfl 26 (by decide) rfl (hts _ (List.mem_cons_of_mem _ t_1958)) (fun _ h9 => h9) rfl dX14_readAbove_147 (fun a_170 ma_170 ka_170 g => ?_)
                              refine lv_iload hx hb dX14_readAbove_150 (lv_at hl 0 rfl) ?_
                              refine g_zald hx hb hK g ma_170 ka_170 (by decide) rfl (in_bd h_79 (by decide)) dX14_readAbove_152 (fun x_171 bx_171 => ?_)
                              refine lv_if_eq (tgt := 160) hx hb dX14_readAbove_153 (by decide) (fun c_172 => ?_) (fun c_172 => ?_)
                              · have fc_172 := eq_f c_172
                                have b_173 : bd 0 0 x_171 := eqX fc_172 bx_171 kb_0 (by decide)
                                refine lv_iconst (v := 0) hx hb dX14_readAbove_160 (by decide) ?_
                                refine lv_iconst (v := 5) hx hb dX14_readAbove_161 (by decide) ?_
                                refine lv_iload hx hb dX14_readAbove_162 (lv_at hl 1 rfl) ?_
                                have go_ := g
                                refine g_callEv (As := [.int 0, .int 5, .int x_63]) (rest := []) ⟨hx, hb, hml, hown, hts⟩ (r_X14_need_2 l dC dI L kd tys fr_103 H.size g.2.2.2.1 a0_ ma0_ ka0_ 0 kb_0 5 x_63) (cwV 3 hts (gV_ t_2403 t_2405 t_100 t_198 t_2406) rfl rfl rfl (by decide +kernel) ⟨(show 1 + 1 ≤ N + 1 + 24 by omega), (show 8 + (4 + 11) + 22 ≤ 60 * (N + 1) + 700 by omega)⟩) (pre3V g hK ma0_ ka0_ (by decide) (q := (RX14, TX14, 67)) rfl) rfl hl.1 rfl (lv_room (Nat.le_of_ble_eq_true rfl)) dX14_readAbove_164 (cl_f hck_0) g hK (by decide) (by decide) (fx' := [(12, 26, q0_, .ref a_170), (14, 24, a0_, .int x_159), (14, 22, a0_, .int x_139), (14, 10, a0_, .int x_108), (12, 3, q0_, .ref a_14), (14, 2, a0_, .ref q0_), (14, 16, a0_, .int o_), (14, 25, a0_, .int op_)]) rfl (fun xr_174 fr_174 H locs mxr_174 kxr_174 hp hMr_174 g => ?_) (fun fr_174 H locs hp hMr_174 g => ?_)
                                · have hG_175 := isV.frame hMr_174 go_.2.2.2.1 mq0_ kq0_ (by decide) (by decide) hG_111
                                  have hG_176 := FR.frame hMr_174 go_.2.2.2.1 mq0_ kq0_ (by decide) (by decide) hG_112
                                  have hG_177 := cEq.frame hMr_174 go_.2.2.2.1 ma0_ ka0_ (by decide) (by decide) hE_113
                                  subst hQ
                                  exact leavesX hempty hlocks (fun t ht hW => g_thrZ g hK mxr_174 kxr_174 ⟨hG_176, (by omega)⟩ ht hW) g.2.2.1.2.2
                                · exact hp.elim
                              · have fc_172 := neq_f c_172
                                have b_178 : bd 1 1 x_171 := neX fc_172 bx_171 kb_0 (by decide)
                                refine lv_iconst (v := 1) hx hb dX14_readAbove_156 (by decide) ?_
                                refine lv_goto (tgt := 161) hx hb dX14_readAbove_157 (by decide) ?_
                                refine lv_iconst (v := 5) hx hb dX14_readAbove_161 (by decide) ?_
                                refine lv_iload hx hb dX14_readAbove_162 (lv_at hl 1 rfl) ?_
                                have go_ := g
                                refine g_callEv (As := [.int 1, .int 5, .int x_63]) (rest := []) ⟨hx, hb, hml, hown, hts⟩ (r_X14_need_3 l dC dI L kd tys fr_103 H.size g.2.2.2.1 a0_ ma0_ ka0_ 1 kb_1 5 x_63) (cwV 3 hts (gV_ t_2403 t_2405 t_100 t_198 t_2406) rfl rfl rfl (by decide +kernel) ⟨(show 0 + 1 ≤ N + 1 + 24 by omega), (show 8 + (4 + 11) + 0 ≤ 60 * (N + 1) + 700 by omega)⟩) (pre3V g hK ma0_ ka0_ (by decide) (q := (RX14, TX14, 67)) rfl) rfl hl.1 rfl (lv_room (Nat.le_of_ble_eq_true rfl)) dX14_readAbove_164 (cl_f hck_0) g hK (by decide) (by decide) (fx' := [(12, 26, q0_, .ref a_170), (14, 24, a0_, .int x_159), (14, 22, a0_, .int x_139), (14, 10, a0_, .int x_108), (12, 3, q0_, .ref a_14), (14, 2, a0_, .ref q0_), (14, 16, a0_, .int o_), (14, 25, a0_, .int op_)]) rfl (fun xr_179 fr_179 H locs mxr_179 kxr_179 hp hMr_179 g => ?_) (fun fr_179 H locs hp hMr_179 g => ?_)
                                · have hG_180 := isV.frame hMr_179 go_.2.2.2.1 mq0_ kq0_ (by decide) (by decide) hG_111
                                  have hG_181 := FR.frame hMr_179 go_.2.2.2.1 mq0_ kq0_ (by decide) (by decide) hG_112
                                  have hG_182 := cEq.frame hMr_179 go_.2.2.2.1 ma0_ ka0_ (by decide) (by decide) hE_113
                                  exact hp.elim
                                · have hG_183 := isV.frame hMr_179 go_.2.2.2.1 mq0_ kq0_ (by decide) (by decide) hG_111
                                  have hG_184 := FR.frame hMr_179 go_.2.2.2.1 mq0_ kq0_ (by decide) (by decide) hG_112
                                  have hG_185 := cEq.frame hMr_179 go_.2.2.2.1 ma0_ ka0_ (by decide) (by decide) hE_113
                                  have hl9 := lv_sub hl [0, 1, 2, 3, 4, 5, 6] (by rfl : lv_pick [(8, .int r_75), (7, .int x_63), (5, .long x_73), (3, .long x_72), (2, .int x_15), (0, .ref a0_), (1, .int x1_)] [0, 1, 2, 3, 4, 5, 6] = [(8, .int r_75), (7, .int x_63), (5, .long x_73), (3, .long x_72), (2, .int x_15), (0, .ref a0_), (1, .int x1_)])
                                  have g9 := g.sub (fx' := [(14, 22, a0_, .int x_139), (14, 10, a0_, .int x_108), (12, 3, q0_, .ref a_14), (14, 2, a0_, .ref q0_), (14, 16, a0_, .int o_), (14, 25, a0_, .int op_)]) [2, 3, 4, 5, 6, 7] rfl
                                  exact join_115 x_139 _ _ _ _ (bd_sub b_158 (by decide)) g9 hG_183 hG_184 hG_185 hl9
  refine lv_iload_n hx hb dX14_readAbove_0 rfl (lv_at hl 1 rfl) ?_
  have kb_0 : bd 0 0 (0 : Int32) := ⟨by decide, by decide⟩
  refine lv_if_eq (tgt := 8) hx hb dX14_readAbove_1 (by decide) (fun c_186 => ?_) (fun c_186 => ?_)
  · have fc_186 := eq_f c_186
    have b_187 : bd 0 0 x1_ := eqX fc_186 bx1_ kb_0 (by decide)
    have hl9 := lv_sub hl [0, 1] (by rfl : lv_pick [(0, .ref a0_), (1, .int x1_)] [0, 1] = [(0, .ref a0_), (1, .int x1_)])
    have g9 := g.sub (fx' := [(14, 2, a0_, .ref q0_), (14, 16, a0_, .int o_), (14, 25, a0_, .int op_), (14, 10, a0_, .int t_)]) [0, 1, 2, 3] rfl
    exact join_1  _ _ _ _  g9 hV FR.refl hC_0 hl9
  · have fc_186 := neq_f c_186
    have b_188 : bd 1 1 x1_ := neX fc_186 bx1_ kb_0 (by decide)
    refine lv_aload_n hx hb dX14_readAbove_4 rfl (lv_at hl 0 rfl) ?_
    have go_ := g
    refine g_callEv (As := []) (rest := []) ⟨hx, hb, hml, hown, hts⟩ (r_X14_counts_2 l dC dI L kd tys f0 s.heap.size g.2.2.2.1 a0_ ma0_ ka0_ q0_ mq0_ kq0_ V_ hV (g.fcts [0] rfl)) (cwV 0 hts (gV_ t_2476 t_2478 t_116 t_198 t_2479) rfl rfl rfl (by decide +kernel) ⟨(show 2 + 1 ≤ N + 1 + 24 by omega), (show 8 + (1 + 11) + 45 ≤ 60 * (N + 1) + 700 by omega)⟩) (pre3V g hK ma0_ ka0_ (by decide) (q := (RX14, TX14, 67)) rfl) rfl hl.1 rfl (lv_room (Nat.le_of_ble_eq_true rfl)) dX14_readAbove_5 (cl_f hck_0) g hK (by decide) (by decide) (fx' := [(14, 2, a0_, .ref q0_), (14, 16, a0_, .int o_), (14, 25, a0_, .int op_), (14, 10, a0_, .int t_)]) rfl (fun xr_189 fr_189 H locs mxr_189 kxr_189 hp hMr_189 g => ?_) (fun fr_189 H locs hp hMr_189 g => ?_)
    · have hG_190 := cEq.frame hMr_189 go_.2.2.2.1 ma0_ ka0_ (by decide) (by decide) hC_0
      have hF_191 := FR.call (mds := []) (mas := []) FR.refl go_ mq0_ kq0_ rfl hp
      subst hQ
      exact leavesX hempty hlocks (fun t ht hW => g_thrZ g hK mxr_189 kxr_189 ⟨hF_191, (by omega)⟩ ht hW) g.2.2.1.2.2
    · obtain ⟨hx_192, hx_193, x_194, h_195, hF_196⟩ := hp
      have hG_197 := cEq.frame hMr_189 go_.2.2.2.1 ma0_ ka0_ (by decide) (by decide) hC_0
      have hF_198 := FR.call (mds := []) (mas := []) FR.refl go_ mq0_ kq0_ rfl hx_193
      have g := g.more hF_196
      have hl9 := lv_sub hl [0, 1] (by rfl : lv_pick [(0, .ref a0_), (1, .int x1_)] [0, 1] = [(0, .ref a0_), (1, .int x1_)])
      have g9 := g.sub (fx' := [(14, 2, a0_, .ref q0_), (14, 16, a0_, .int o_), (14, 25, a0_, .int op_), (14, 10, a0_, .int t_)]) [1, 2, 3, 4] rfl
      exact join_1  _ _ _ _  g9 hx_192 hF_198 hG_197 hl9
