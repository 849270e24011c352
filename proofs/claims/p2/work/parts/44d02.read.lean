set_option maxHeartbeats 4000000 in
set_option maxRecDepth 100000 in
theorem r_X14_readOne (N : Nat) (ih : RecR N) (l : Launch) (dC : Nat → ClassId) (dI : Nat → Nat → Nat) (L : List Nat) (kd : Nat → Nat) (tys : List (ClassId × FieldType)) (f0 : Nat → va_E) (sz : Nat) (hWT : WT L kd tys f0) (adK adV : Nat → Nat) (a0_ : Nat) (ma0_ : a0_ ∈ L) (ka0_ : kd a0_ = 14) (q0_ : Nat) (mq0_ : q0_ ∈ L) (kq0_ : kd q0_ = 12) (V_ : PV) (o_ : Int32) (bo_ : bd 0 7 o_) (op_ : Int32) (bop_ : bd 0 40 op_) (t_ : Int32) (bt_ : bd 0 1201 t_) (hV : isV f0 q0_ V_) (hwf : wfN V_ (V_.n 57).toInt) (ho : (o_.toNatClampNeg : Int) < (V_.n 0).toInt) (hnn : (V_.n 57).toInt ≤ cF f0 a0_) (K_ : Nat) (hK_ : 1204 ≤ 2 * (K_ : Int) + cF f0 a0_) (hN : 11 * (40 - op_.toInt) + 3 ≤ ((N + 1 : Nat) : Int)) (hfx : Fs L kd f0 [(14, 2, a0_, .ref q0_), (14, 16, a0_, .int o_), (14, 25, a0_, .int op_), (14, 10, a0_, .int t_)]) : MetX l yX14_readOne (.code yX14_readOne cX14_readOne 5 (some .int) :: lw_g) ({ frames := (N + 1) + 24, cells := K_, slots := 3 * K_, locals := 60 * (N + 1) + 700 }) (va_Pc [.ref a0_] (P3A (dC, dI) L tys f0 sz adK adV)) (q3X (dC, dI) L kd tys [(12, 57), (12, 58), (14, 6), (14, 7), (14, 8), (14, 9), (14, 10), (14, 11), (14, 12), (14, 13), (14, 14), (14, 15), (14, 25)] [180, 201, 202, 203, 204, 205, 206, 207, 208, 209, 210] f0 sz (pXi (fun (r : Int32) (f : Nat → va_E) (k : Nat) => (rdP L kd f0 a0_ q0_ V_ o_ (12) 0 r f k (fun _ => True)) ∧ ∃ z1_ : Int32, bd 0 1201 z1_ ∧ Fs L kd f [(14, 25, a0_, .int op_), (14, 10, a0_, .int z1_)])) (fun k : Nat => 2 * (k : Int) + cF f0 a0_ ≤ 1203)) (pA L sz) := by
  refine MetX.ofW (cc := cX14_readOne) (maxL := 5) (ret := (some .int)) (by decide) rfl ?_
  intro p e s m args below meth c s₁ B hml hempty hv
  obtain ⟨rfl, ⟨hsz, hP, hK, hD0⟩, hAm⟩ := hv
  have hx := B.exec
  have hb := B.bytes
  have hr := B.returns
  have hts := atoms_spec (ws := (.code yX14_readOne cX14_readOne 5 (some .int) :: lw_g)) B.pre
  have hown : s.vm.findClass RX14 = some m.cls := findClass_of_methodNamed B.named
  have hlocks := B.notSynchronized
  subst hsz
  have g : G3 (dC, dI) L kd tys s f0 [(12, 57), (12, 58), (14, 6), (14, 7), (14, 8), (14, 9), (14, 10), (14, 11), (14, 12), (14, 13), (14, 14), (14, 15), (14, 25)] [180, 201, 202, 203, 204, 205, 206, 207, 208, 209, 210] f0 s.heap [] [(14, 2, a0_, .ref q0_), (14, 16, a0_, .int o_), (14, 25, a0_, .int op_), (14, 10, a0_, .int t_)] := G3.start hP hD0 hWT hfx
  have hl := lv_entry ([.ref a0_]) (n := 5) (Nat.le_of_ble_eq_true rfl)
  rw [lg_entry_eq]
  generalize (lg_sl ([.ref a0_]) ++ List.replicate (5 - (lg_sl ([.ref a0_])).length) Slot.unset).toArray = ls at hl ⊢
  have hl : lv_has ls 5 [(0, .ref a0_)] := hl
  refine W_q (fun Q hQ => ?_)
  refine W_c0 (fun cl_0 hc_0 => ?_)
  have hck_0 : cl_0 ≤ K_ := by omega
  have hC_0 : cEq f0 a0_ (cF f0 a0_) := rfl
  have hm_0 : cF f0 a0_ ≤ 1202 := cF_le g ma0_ ka0_
  have hm_1 : -1 ≤ cF f0 a0_ := cF_ge g ma0_ ka0_
  refine lv_aload_n hx hb dX14_readOne_0 rfl (lv_at hl 0 rfl) ?_
  refine g_geti (C := RX14) (T := TX14) (N := 67) hx hb hts (mc_ inX14) hown hK g ma0_ ka0_ (by decide) rfl 8 (by decide) rfl (hts _ (List.mem_cons_of_mem _ t_2154)) (fun _ h9 => h9) rfl dX14_readOne_1 (fun x_1 bx_1 g => ?_)
  refine lv_istore_n (lv' := [(1, .int x_1), (0, .ref a0_)]) hx hb dX14_readOne_4 rfl hl (by decide) rfl (fun ls hl => ?_)
  refine lv_aload_n hx hb dX14_readOne_5 rfl (lv_at hl 1 rfl) ?_
  refine g_geti (C := RX14) (T := TX14) (N := 67) hx hb hts (mc_ inX14) hown hK g ma0_ ka0_ (by decide) rfl 6 (by decide) rfl (hts _ (List.mem_cons_of_mem _ t_2152)) (fun _ h9 => h9) rfl dX14_readOne_6 (fun x_2 bx_2 g => ?_)
  refine lv_iconst (v := 3) hx hb dX14_readOne_9 (by decide) ?_
  have kb_3 : bd 3 3 (3 : Int32) := ⟨by decide, by decide⟩
  refine lv_icmp_ne (tgt := 50) hx hb dX14_readOne_10 (by decide) (fun c_3 => ?_) (fun c_3 => ?_)
  · have fc_3 := neq_f c_3
    refine lv_aload_n hx hb dX14_readOne_50 rfl (lv_at hl 1 rfl) ?_
    refine lv_bipush (v := 40) hx hb dX14_readOne_51 (by decide) ?_
    have go_ := g
    refine g_calli (va_runV (As := [.int 40]) (rest := []) ⟨hx, hb, hml, hown, hts⟩ (r_X14_isSign l dC dI L kd tys f0 s.heap.size g.2.2.2.1 a0_ ma0_ ka0_ 40) (cwV 1 hts (gV_ t_2435 t_2437 t_108 t_198 t_2438) rfl rfl rfl (by decide +kernel) ⟨(show 0 + 1 ≤ N + 1 + 24 by omega), (show 8 + (2 + 11) + 0 ≤ 60 * (N + 1) + 700 by omega)⟩) (pre3V g hK ma0_ ka0_ (by decide) (q := (RX14, TX14, 67)) rfl) rfl rfl hl.1 rfl (lv_room (Nat.le_of_ble_eq_true rfl)) dX14_readOne_53 (cl_f hck_0)) g hK (by decide) (by decide) (fx' := [(14, 6, a0_, .int x_2), (14, 8, a0_, .int x_1), (14, 2, a0_, .ref q0_), (14, 16, a0_, .int o_), (14, 25, a0_, .int op_), (14, 10, a0_, .int t_)]) rfl (fun r_4 fr_4 H locs hp hMr_4 g => ?_)
    rcases hp with ⟨h_5, -⟩ | ⟨h_6, x_7, h_8, hF_9⟩
    · have hG_10 := isV.frame hMr_4 go_.2.2.2.1 mq0_ kq0_ (by decide) (by decide) hV
      have hG_11 := FR.frame hMr_4 go_.2.2.2.1 mq0_ kq0_ (by decide) (by decide) FR.refl
      have hG_12 := cEq.frame hMr_4 go_.2.2.2.1 ma0_ ka0_ (by decide) (by decide) hC_0
      obtain rfl : r_4 = 0 := h_5
      refine lv_if_eq (tgt := 79) hx hb dX14_readOne_56 (by decide) (fun c_ => ?_) (fun c_ => absurd (by decide) c_)
      refine lv_aload_n hx hb dX14_readOne_79 rfl (lv_at hl 1 rfl) ?_
      refine lv_bipush (v := 18) hx hb dX14_readOne_80 (by decide) ?_
      have go_ := g
      refine g_calli (va_runV (As := [.int 18]) (rest := []) ⟨hx, hb, hml, hown, hts⟩ (r_X14_isWord l dC dI L kd tys fr_4 H.size g.2.2.2.1 a0_ ma0_ ka0_ 18) (cwV 1 hts (gV_ t_2399 t_2401 t_99 t_198 t_2402) rfl rfl rfl (by decide +kernel) ⟨(show 0 + 1 ≤ N + 1 + 24 by omega), (show 8 + (2 + 11) + 0 ≤ 60 * (N + 1) + 700 by omega)⟩) (pre3V g hK ma0_ ka0_ (by decide) (q := (RX14, TX14, 67)) rfl) rfl rfl hl.1 rfl (lv_room (Nat.le_of_ble_eq_true rfl)) dX14_readOne_82 (cl_f hck_0)) g hK (by decide) (by decide) (fx' := [(14, 6, a0_, .int x_2), (14, 8, a0_, .int x_1), (14, 2, a0_, .ref q0_), (14, 16, a0_, .int o_), (14, 25, a0_, .int op_), (14, 10, a0_, .int t_)]) rfl (fun r_13 fr_13 H locs hp hMr_13 g => ?_)
      rcases hp with ⟨h_14, -⟩ | ⟨h_15, x_16, h_17, hF_18⟩
      · have hG_19 := isV.frame hMr_13 go_.2.2.2.1 mq0_ kq0_ (by decide) (by decide) hG_10
        have hG_20 := FR.frame hMr_13 go_.2.2.2.1 mq0_ kq0_ (by decide) (by decide) hG_11
        have hG_21 := cEq.frame hMr_13 go_.2.2.2.1 ma0_ ka0_ (by decide) (by decide) hG_12
        obtain rfl : r_13 = 0 := h_14
        refine lv_if_ne (tgt := 97) hx hb dX14_readOne_85 (by decide) (fun c_ => absurd c_ (by decide)) (fun c_ => ?_)
        refine lv_aload_n hx hb dX14_readOne_88 rfl (lv_at hl 1 rfl) ?_
        refine lv_bipush (v := 19) hx hb dX14_readOne_89 (by decide) ?_
        have go_ := g
        refine g_calli (va_runV (As := [.int 19]) (rest := []) ⟨hx, hb, hml, hown, hts⟩ (r_X14_isWord l dC dI L kd tys fr_13 H.size g.2.2.2.1 a0_ ma0_ ka0_ 19) (cwV 1 hts (gV_ t_2399 t_2401 t_99 t_198 t_2402) rfl rfl rfl (by decide +kernel) ⟨(show 0 + 1 ≤ N + 1 + 24 by omega), (show 8 + (2 + 11) + 0 ≤ 60 * (N + 1) + 700 by omega)⟩) (pre3V g hK ma0_ ka0_ (by decide) (q := (RX14, TX14, 67)) rfl) rfl rfl hl.1 rfl (lv_room (Nat.le_of_ble_eq_true rfl)) dX14_readOne_91 (cl_f hck_0)) g hK (by decide) (by decide) (fx' := [(14, 6, a0_, .int x_2), (14, 8, a0_, .int x_1), (14, 2, a0_, .ref q0_), (14, 16, a0_, .int o_), (14, 25, a0_, .int op_), (14, 10, a0_, .int t_)]) rfl (fun r_22 fr_22 H locs hp hMr_22 g => ?_)
        rcases hp with ⟨h_23, -⟩ | ⟨h_24, x_25, h_26, hF_27⟩
        · have hG_28 := isV.frame hMr_22 go_.2.2.2.1 mq0_ kq0_ (by decide) (by decide) hG_19
          have hG_29 := FR.frame hMr_22 go_.2.2.2.1 mq0_ kq0_ (by decide) (by decide) hG_20
          have hG_30 := cEq.frame hMr_22 go_.2.2.2.1 ma0_ ka0_ (by decide) (by decide) hG_21
          obtain rfl : r_22 = 0 := h_23
          refine lv_if_eq (tgt := 222) hx hb dX14_readOne_94 (by decide) (fun c_ => ?_) (fun c_ => absurd (by decide) c_)
          refine lv_aload_n hx hb dX14_readOne_222 rfl (lv_at hl 1 rfl) ?_
          refine lv_bipush (v := 20) hx hb dX14_readOne_223 (by decide) ?_
          have go_ := g
          refine g_calli (va_runV (As := [.int 20]) (rest := []) ⟨hx, hb, hml, hown, hts⟩ (r_X14_isWord l dC dI L kd tys fr_22 H.size g.2.2.2.1 a0_ ma0_ ka0_ 20) (cwV 1 hts (gV_ t_2399 t_2401 t_99 t_198 t_2402) rfl rfl rfl (by decide +kernel) ⟨(show 0 + 1 ≤ N + 1 + 24 by omega), (show 8 + (2 + 11) + 0 ≤ 60 * (N + 1) + 700 by omega)⟩) (pre3V g hK ma0_ ka0_ (by decide) (q := (RX14, TX14, 67)) rfl) rfl rfl hl.1 rfl (lv_room (Nat.le_of_ble_eq_true rfl)) dX14_readOne_225 (cl_f hck_0)) g hK (by decide) (by decide) (fx' := [(14, 6, a0_, .int x_2), (14, 8, a0_, .int x_1), (14, 2, a0_, .ref q0_), (14, 16, a0_, .int o_), (14, 25, a0_, .int op_), (14, 10, a0_, .int t_)]) rfl (fun r_31 fr_31 H locs hp hMr_31 g => ?_)
          rcases hp with ⟨h_32, -⟩ | ⟨h_33, x_34, h_35, hF_36⟩
          · have hG_37 := isV.frame hMr_31 go_.2.2.2.1 mq0_ kq0_ (by decide) (by decide) hG_28
            have hG_38 := FR.frame hMr_31 go_.2.2.2.1 mq0_ kq0_ (by decide) (by decide) hG_29
            have hG_39 := cEq.frame hMr_31 go_.2.2.2.1 ma0_ ka0_ (by decide) (by decide) hG_30
            obtain rfl : r_31 = 0 := h_32
            refine lv_if_eq (tgt := 376) hx hb dX14_readOne_228 (by decide) (fun c_ => ?_) (fun c_ => absurd (by decide) c_)
            refine lv_aload_n hx hb dX14_readOne_376 rfl (lv_at hl 1 rfl) ?_
            refine lv_iconst (v := 1) hx hb dX14_readOne_377 (by decide) ?_
            have go_ := g
            refine g_calli (va_runV (As := [.int 1]) (rest := []) ⟨hx, hb, hml, hown, hts⟩ (r_X14_isWord l dC dI L kd tys fr_31 H.size g.2.2.2.1 a0_ ma0_ ka0_ 1) (cwV 1 hts (gV_ t_2399 t_2401 t_99 t_198 t_2402) rfl rfl rfl (by decide +kernel) ⟨(show 0 + 1 ≤ N + 1 + 24 by omega), (show 8 + (2 + 11) + 0 ≤ 60 * (N + 1) + 700 by omega)⟩) (pre3V g hK ma0_ ka0_ (by decide) (q := (RX14, TX14, 67)) rfl) rfl rfl hl.1 rfl (lv_room (Nat.le_of_ble_eq_true rfl)) dX14_readOne_378 (cl_f hck_0)) g hK (by decide) (by decide) (fx' := [(14, 6, a0_, .int x_2), (14, 8, a0_, .int x_1), (14, 2, a0_, .ref q0_), (14, 16, a0_, .int o_), (14, 25, a0_, .int op_), (14, 10, a0_, .int t_)]) rfl (fun r_40 fr_40 H locs hp hMr_40 g => ?_)
            rcases hp with ⟨h_41, -⟩ | ⟨h_42, x_43, h_44, hF_45⟩
            · have hG_46 := isV.frame hMr_40 go_.2.2.2.1 mq0_ kq0_ (by decide) (by decide) hG_37
              have hG_47 := FR.frame hMr_40 go_.2.2.2.1 mq0_ kq0_ (by decide) (by decide) hG_38
              have hG_48 := cEq.frame hMr_40 go_.2.2.2.1 ma0_ ka0_ (by decide) (by decide) hG_39
              obtain rfl : r_40 = 0 := h_41
              refine lv_if_eq (tgt := 390) hx hb dX14_readOne_381 (by decide) (fun c_ => ?_) (fun c_ => absurd (by decide) c_)
              refine lv_aload_n hx hb dX14_readOne_390 rfl (lv_at hl 1 rfl) ?_
              refine lv_aload_n hx hb dX14_readOne_391 rfl (lv_at hl 1 rfl) ?_
              refine g_getk (C := RX14) (T := TX14) (N := 67) hx hb hts (mc_ inX14) hown hK g rfl 6 (by decide) rfl (hts _ (List.mem_cons_of_mem _ t_2152)) (fun _ h9 => h9) 0 rfl dX14_readOne_392 ?_
              refine lv_iconst (v := 1) hx hb dX14_readOne_395 (by decide) ?_
              have kb_1 : bd 1 1 (1 : Int32) := ⟨by decide, by decide⟩
              refine lv_icmp_ne (tgt := 403) hx hb dX14_readOne_396 (by decide) (fun c_49 => ?_) (fun c_49 => ?_)
              · have fc_49 := neq_f c_49
                refine lv_iconst (v := 0) hx hb dX14_readOne_403 (by decide) ?_
                refine lv_iconst (v := 1) hx hb dX14_readOne_404 (by decide) ?_
                refine lv_aload_n hx hb dX14_readOne_405 rfl (lv_at hl 1 rfl) ?_
                refine g_getk (C := RX14) (T := TX14) (N := 67) hx hb hts (mc_ inX14) hown hK g rfl 8 (by decide) rfl (hts _ (List.mem_cons_of_mem _ t_2154)) (fun _ h9 => h9) 1 rfl dX14_readOne_406 ?_
                have kb_0 : bd 0 0 (0 : Int32) := ⟨by decide, by decide⟩
                have go_ := g
                refine g_callEv (As := [.int 0, .int 1, .int x_1]) (rest := []) ⟨hx, hb, hml, hown, hts⟩ (r_X14_need_2 l dC dI L kd tys fr_40 H.size g.2.2.2.1 a0_ ma0_ ka0_ 0 kb_0 1 x_1) (cwV 3 hts (gV_ t_2403 t_2405 t_100 t_198 t_2406) rfl rfl rfl (by decide +kernel) ⟨(show 1 + 1 ≤ N + 1 + 24 by omega), (show 8 + (4 + 11) + 22 ≤ 60 * (N + 1) + 700 by omega)⟩) (pre3V g hK ma0_ ka0_ (by decide) (q := (RX14, TX14, 67)) rfl) rfl hl.1 rfl (lv_room (Nat.le_of_ble_eq_true rfl)) dX14_readOne_409 (cl_f hck_0) g hK (by decide) (by decide) (fx' := [(14, 6, a0_, .int x_2), (14, 8, a0_, .int x_1), (14, 2, a0_, .ref q0_), (14, 16, a0_, .int o_), (14, 25, a0_, .int op_), (14, 10, a0_, .int t_)]) rfl (fun xr_50 fr_50 H locs mxr_50 kxr_50 hp hMr_50 g => ?_) (fun fr_50 H locs hp hMr_50 g => ?_)
                · have hG_51 := isV.frame hMr_50 go_.2.2.2.1 mq0_ kq0_ (by decide) (by decide) hG_46
                  have hG_52 := FR.frame hMr_50 go_.2.2.2.1 mq0_ kq0_ (by decide) (by decide) hG_47
                  have hG_53 := cEq.frame hMr_50 go_.2.2.2.1 ma0_ ka0_ (by decide) (by decide) hG_48
                  subst hQ
                  exact leavesX hempty hlocks (fun t ht hW => g_thrX g hK mxr_50 kxr_50 (by omega) ht hW) g.2.2.1.2.2
                · exact hp.elim
              · have fc_49 := eq_f c_49
                have b_54 : bd 1 1 x_2 := eqX fc_49 bx_2 kb_1 (by decide)
                refine lv_iconst (v := 1) hx hb dX14_readOne_399 (by decide) ?_
                refine lv_goto (tgt := 404) hx hb dX14_readOne_400 (by decide) ?_
                refine lv_iconst (v := 1) hx hb dX14_readOne_404 (by decide) ?_
                refine lv_aload_n hx hb dX14_readOne_405 rfl (lv_at hl 1 rfl) ?_
                refine g_getk (C := RX14) (T := TX14) (N := 67) hx hb hts (mc_ inX14) hown hK g rfl 8 (by decide) rfl (hts _ (List.mem_cons_of_mem _ t_2154)) (fun _ h9 => h9) 1 rfl dX14_readOne_406 ?_
                have hs_55 := sE_1 g 0 rfl (by have h9_0 := bo_; unfold bd at h9_0; have h9_1 := bop_; unfold bd at h9_1; have h9_2 := bt_; unfold bd at h9_2; have h9_3 := bx_1; unfold bd at h9_3; have h9_4 := b_54; unfold bd at h9_4; have h8_0 := kb_1; unfold bd at h8_0; have h8_1 := kb_3; unfold bd at h8_1; omega)
                have go_ := g
                refine g_callEv (As := [.int 1, .int 1, .int x_1]) (rest := []) ⟨hx, hb, hml, hown, hts⟩ (r_X14_need_3 l dC dI L kd tys fr_40 H.size g.2.2.2.1 a0_ ma0_ ka0_ 1 kb_1 1 x_1) (cwV 3 hts (gV_ t_2403 t_2405 t_100 t_198 t_2406) rfl rfl rfl (by decide +kernel) ⟨(show 0 + 1 ≤ N + 1 + 24 by omega), (show 8 + (4 + 11) + 0 ≤ 60 * (N + 1) + 700 by omega)⟩) (pre3V g hK ma0_ ka0_ (by decide) (q := (RX14, TX14, 67)) rfl) rfl hl.1 rfl (lv_room (Nat.le_of_ble_eq_true rfl)) dX14_readOne_409 (cl_f hck_0) g hK (by decide) (by decide) (fx' := [(14, 6, a0_, .int x_2), (14, 8, a0_, .int x_1), (14, 2, a0_, .ref q0_), (14, 16, a0_, .int o_), (14, 25, a0_, .int op_), (14, 10, a0_, .int t_)]) rfl (fun xr_56 fr_56 H locs mxr_56 kxr_56 hp hMr_56 g => ?_) (fun fr_56 H locs hp hMr_56 g => ?_)
                · have hG_57 := isV.frame hMr_56 go_.2.2.2.1 mq0_ kq0_ (by decide) (by decide) hG_46
                  have hG_58 := FR.frame hMr_56 go_.2.2.2.1 mq0_ kq0_ (by decide) (by decide) hG_47
                  have hG_59 := cEq.frame hMr_56 go_.2.2.2.1 ma0_ ka0_ (by decide) (by decide) hG_48
                  exact hp.elim
                · have hG_60 := isV.frame hMr_56 go_.2.2.2.1 mq0_ kq0_ (by decide) (by decide) hG_46
                  have hG_61 := FR.frame hMr_56 go_.2.2.2.1 mq0_ kq0_ (by decide) (by decide) hG_47
                  have hG_62 := cEq.frame hMr_56 go_.2.2.2.1 ma0_ ka0_ (by decide) (by decide) hG_48
                  refine lv_aload_n hx hb dX14_readOne_412 rfl (lv_at hl 1 rfl) ?_
                  refine lv_iconst (v := 1) hx hb dX14_readOne_413 (by decide) ?_
                  refine lv_iconst (v := 0) hx hb dX14_readOne_414 (by decide) ?_
                  have qc__63 : cF fr_56 a0_ = _ := hG_62
                  have hs_64 := sE_1 g 0 rfl (by have h9_0 := bo_; unfold bd at h9_0; have h9_1 := bop_; unfold bd at h9_1; have h9_2 := bt_; unfold bd at h9_2; have h9_3 := bx_1; unfold bd at h9_3; have h9_4 := b_54; unfold bd at h9_4; have h8_0 := kb_1; unfold bd at h8_0; have h8_1 := kb_3; unfold bd at h8_1; omega)
                  have kb_0 : bd 0 0 (0 : Int32) := ⟨by decide, by decide⟩
                  have go_ := g
                  refine g_callXi (As := [.int 1, .int 0]) (rest := []) ⟨hx, hb, hml, hown, hts⟩ (ih.2.2.2.2.1 l dC dI L kd tys fr_56 H.size g.2.2.2.1 adK adV a0_ ma0_ ka0_ (1 : Int32) (bd_sub kb_1 (by decide)) (0 : Int32) (bd_sub kb_0 (by decide)) q0_ mq0_ kq0_ V_ o_ bo_ op_ bop_ t_ bt_ x_2 (bd_sub b_54 (by decide)) hG_60 hwf ho (by omega) 12 ⟨(by decide), (by decide), (fun h9 => absurd h9 (by decide))⟩ (K_ - cl_0) (by omega) (by have h9_0 := bo_; unfold bd at h9_0; have h9_1 := bop_; unfold bd at h9_1; have h9_2 := bt_; unfold bd at h9_2; have h9_3 := bx_1; unfold bd at h9_3; have h9_4 := b_54; unfold bd at h9_4; have h8_0 := kb_0; unfold bd at h8_0; have h8_1 := kb_1; unfold bd at h8_1; have h8_2 := kb_3; unfold bd at h8_2; omega) (g.fcts [2, 3, 4, 5, 0] rfl)) (cwV 2 hts (gV_ t_2496 t_2498 t_121 t_198 t_2499) rfl rfl rfl (by decide +kernel) ⟨(show N + 24 + 1 ≤ N + 1 + 24 by omega), (show 8 + (11 + 11) + (60 * N + 700) ≤ 60 * (N + 1) + 700 by omega)⟩) (pre3VA g hK hAm ma0_ ka0_ (by decide) (q := (RX14, TX14, 67)) rfl) rfl hl.1 rfl (lv_room (Nat.le_of_ble_eq_true rfl)) dX14_readOne_415 (cl_k (K := K_) (k := K_ - cl_0) (show cl_0 + (K_ - cl_0) ≤ K_ by omega)) g hK (by decide) (by decide) (fx' := [(14, 2, a0_, .ref q0_), (14, 16, a0_, .int o_)]) rfl (fun xr_65 fr_65 H locs kr_65 cr_65 ecr_65 mxr_65 kxr_65 hp hMr_65 g => ?_) (fun r_65 fr_65 H locs kr_65 cr_65 ecr_65 hp hMr_65 g => ?_)
                  · subst hQ
                    exact leavesX hempty hlocks (fun t ht hW => g_thrX g hK mxr_65 kxr_65 (by omega) ht hW) g.2.2.1.2.2
                  · obtain ⟨hx_66, x_67, h_68, hF_69⟩ := hp
                    obtain ⟨V_70, E_71, hV_72, hF_73, hE_74, hX_75, hw_76, hv_77, hP_78, hn_79, hk_80, hc_81⟩ := rd_use hx_66 hG_62
                    have hF_82 := FR.call (mds := []) (mas := []) hG_61 go_ mq0_ kq0_ rfl hF_73
                    have mxE_71 : E_71 ≤ 1202 := by have h9 := cF_le g ma0_ ka0_; have h8 : cF _ _ = _ := hE_74; omega
                    have hx_83 := exN.tr exN.rf hX_75
                    have hck_84 : cr_65 ≤ K_ := by omega
                    have b_85 : bd 0 2499 r_65 := ⟨hv_77.1, (by have h9 := hv_77.2.1; omega)⟩
                    have g := g.more hF_69
                    have h9c : cF fr_65 a0_ = _ := hE_74
                    subst hQ
                    exact iretX (v := r_65) hx hb hr (fun t ht hW => g_retX g hK ⟨_, rfl, ⟨⟨_, hV_72, hF_82, hx_83, hw_76, hv_77, trivial, (by omega), (by omega), (by omega)⟩, x_67, h_68, (g.fcts [0, 1] rfl)⟩⟩ ht hW) g.2.2.1.2.2 dX14_readOne_418 hlocks
            · have hG_86 := isV.frame hMr_40 go_.2.2.2.1 mq0_ kq0_ (by decide) (by decide) hG_37
              have hG_87 := FR.frame hMr_40 go_.2.2.2.1 mq0_ kq0_ (by decide) (by decide) hG_38
              have hG_88 := cEq.frame hMr_40 go_.2.2.2.1 ma0_ ka0_ (by decide) (by decide) hG_39
              obtain rfl : r_40 = 1 := h_42
              have g := g.more hF_45
              have e_89 := fx_same g 1 0 rfl rfl
              have b_90 : bd 2 2 x_2 := eqX (eq_f e_89.symm) bx_2 h_44 (by decide)
              have g := g.sub (fx' := [(14, 6, a0_, .int x_2), (14, 8, a0_, .int x_1), (14, 2, a0_, .ref q0_), (14, 16, a0_, .int o_), (14, 25, a0_, .int op_), (14, 10, a0_, .int t_)]) [1, 2, 3, 4, 5, 6] rfl
              refine lv_if_eq (tgt := 390) hx hb dX14_readOne_381 (by decide) (fun c_ => absurd c_ (by decide)) (fun c_ => ?_)
              refine lv_aload_n hx hb dX14_readOne_384 rfl (lv_at hl 1 rfl) ?_
              refine lv_iconst (v := 1) hx hb dX14_readOne_385 (by decide) ?_
              have qc__91 : cF fr_40 a0_ = _ := hG_88
              have hs_92 := sE_1 g 0 rfl (by have h9_0 := bo_; unfold bd at h9_0; have h9_1 := bop_; unfold bd at h9_1; have h9_2 := bt_; unfold bd at h9_2; have h9_3 := bx_1; unfold bd at h9_3; have h9_4 := b_90; unfold bd at h9_4; have h9_5 := h_44; unfold bd at h9_5; have h8_0 := kb_3; unfold bd at h8_0; omega)
              have kb_1 : bd 1 1 (1 : Int32) := ⟨by decide, by decide⟩
              have go_ := g
              refine g_callXi (As := [.int 1]) (rest := []) ⟨hx, hb, hml, hown, hts⟩ (ih.2.2.2.1 l dC dI L kd tys fr_40 H.size g.2.2.2.1 adK adV a0_ ma0_ ka0_ (1 : Int32) (bd_sub kb_1 (by decide)) q0_ mq0_ kq0_ V_ o_ bo_ op_ bop_ t_ bt_ hG_86 hwf ho (by omega) 12 ⟨(by decide), (by decide), (fun h9 => absurd h9 (by decide))⟩ (K_ - cl_0) (by omega) (by have h9_0 := bo_; unfold bd at h9_0; have h9_1 := bop_; unfold bd at h9_1; have h9_2 := bt_; unfold bd at h9_2; have h9_3 := bx_1; unfold bd at h9_3; have h9_4 := b_90; unfold bd at h9_4; have h9_5 := h_44; unfold bd at h9_5; have h8_0 := kb_1; unfold bd at h8_0; have h8_1 := kb_3; unfold bd at h8_1; omega) (g.fcts [2, 3, 4, 5] rfl)) (cwV 1 hts (gV_ t_2516 t_2518 t_125 t_198 t_2519) rfl rfl rfl (by decide +kernel) ⟨(show N + 24 + 1 ≤ N + 1 + 24 by omega), (show 8 + (9 + 11) + (60 * N + 700) ≤ 60 * (N + 1) + 700 by omega)⟩) (pre3VA g hK hAm ma0_ ka0_ (by decide) (q := (RX14, TX14, 67)) rfl) rfl hl.1 rfl (lv_room (Nat.le_of_ble_eq_true rfl)) dX14_readOne_386 (cl_k (K := K_) (k := K_ - cl_0) (show cl_0 + (K_ - cl_0) ≤ K_ by omega)) g hK (by decide) (by decide) (fx' := [(14, 2, a0_, .ref q0_), (14, 16, a0_, .int o_)]) rfl (fun xr_93 fr_93 H locs kr_93 cr_93 ecr_93 mxr_93 kxr_93 hp hMr_93 g => ?_) (fun r_93 fr_93 H locs kr_93 cr_93 ecr_93 hp hMr_93 g => ?_)
              · subst hQ
                exact leavesX hempty hlocks (fun t ht hW => g_thrX g hK mxr_93 kxr_93 (by omega) ht hW) g.2.2.1.2.2
              · obtain ⟨hx_94, x_95, h_96, hF_97⟩ := hp
                obtain ⟨V_98, E_99, hV_100, hF_101, hE_102, hX_103, hw_104, hv_105, hP_106, hn_107, hk_108, hc_109⟩ := rd_use hx_94 hG_88
                have hF_110 := FR.call (mds := []) (mas := []) hG_87 go_ mq0_ kq0_ rfl hF_101
                have mxE_99 : E_99 ≤ 1202 := by have h9 := cF_le g ma0_ ka0_; have h8 : cF _ _ = _ := hE_102; omega
                have hx_111 := exN.tr exN.rf hX_103
                have hck_112 : cr_93 ≤ K_ := by omega
                have b_113 : bd 0 2499 r_93 := ⟨hv_105.1, (by have h9 := hv_105.2.1; omega)⟩
                have g := g.more hF_97
                have h9c : cF fr_93 a0_ = _ := hE_102
                subst hQ
                exact iretX (v := r_93) hx hb hr (fun t ht hW => g_retX g hK ⟨_, rfl, ⟨⟨_, hV_100, hF_110, hx_111, hw_104, hv_105, trivial, (by omega), (by omega), (by omega)⟩, x_95, h_96, (g.fcts [0, 1] rfl)⟩⟩ ht hW) g.2.2.1.2.2 dX14_readOne_389 hlocks
          · have hG_114 := isV.frame hMr_31 go_.2.2.2.1 mq0_ kq0_ (by decide) (by decide) hG_28
            have hG_115 := FR.frame hMr_31 go_.2.2.2.1 mq0_ kq0_ (by decide) (by decide) hG_29
            have hG_116 := cEq.frame hMr_31 go_.2.2.2.1 ma0_ ka0_ (by decide) (by decide) hG_30
            obtain rfl : r_31 = 1 := h_33
            have g := g.more hF_36
            have e_117 := fx_same g 1 0 rfl rfl
            have b_118 : bd 2 2 x_2 := eqX (eq_f e_117.symm) bx_2 h_35 (by decide)
            have g := g.sub (fx' := [(14, 6, a0_, .int x_2), (14, 8, a0_, .int x_1), (14, 2, a0_, .ref q0_), (14, 16, a0_, .int o_), (14, 25, a0_, .int op_), (14, 10, a0_, .int t_)]) [1, 2, 3, 4, 5, 6] rfl
            refine lv_if_eq (tgt := 376) hx hb dX14_readOne_228 (by decide) (fun c_ => absurd c_ (by decide)) (fun c_ => ?_)
            refine lv_aload_n hx hb dX14_readOne_231 rfl (lv_at hl 1 rfl) ?_
            have hs_119 := sE_1 g 0 rfl (by have h9_0 := bo_; unfold bd at h9_0; have h9_1 := bop_; unfold bd at h9_1; have h9_2 := bt_; unfold bd at h9_2; have h9_3 := bx_1; unfold bd at h9_3; have h9_4 := b_118; unfold bd at h9_4; have h9_5 := h_35; unfold bd at h9_5; have h8_0 := kb_3; unfold bd at h8_0; omega)
            have go_ := g
            refine g_callEv (As := []) (rest := []) ⟨hx, hb, hml, hown, hts⟩ (r_X14_counts_2 l dC dI L kd tys fr_31 H.size g.2.2.2.1 a0_ ma0_ ka0_ q0_ mq0_ kq0_ V_ hG_114 (g.fcts [2] rfl)) (cwV 0 hts (gV_ t_2476 t_2478 t_116 t_198 t_2479) rfl rfl rfl (by decide +kernel) ⟨(show 2 + 1 ≤ N + 1 + 24 by omega), (show 8 + (1 + 11) + 45 ≤ 60 * (N + 1) + 700 by omega)⟩) (pre3V g hK ma0_ ka0_ (by decide) (q := (RX14, TX14, 67)) rfl) rfl hl.1 rfl (lv_room (Nat.le_of_ble_eq_true rfl)) dX14_readOne_232 (cl_f hck_0) g hK (by decide) (by decide) (fx' := [(14, 6, a0_, .int x_2), (14, 8, a0_, .int x_1), (14, 2, a0_, .ref q0_), (14, 16, a0_, .int o_), (14, 25, a0_, .int op_), (14, 10, a0_, .int t_)]) rfl (fun xr_120 fr_120 H locs mxr_120 kxr_120 hp hMr_120 g => ?_) (fun fr_120 H locs hp hMr_120 g => ?_)
            · have hG_121 := cEq.frame hMr_120 go_.2.2.2.1 ma0_ ka0_ (by decide) (by decide) hG_116
              subst hQ
              exact leavesX hempty hlocks (fun t ht hW => g_thrX g hK mxr_120 kxr_120 (by omega) ht hW) g.2.2.1.2.2
            · obtain ⟨hx_122, hx_123, x_124, h_125, hF_126⟩ := hp
              have hG_127 := cEq.frame hMr_120 go_.2.2.2.1 ma0_ ka0_ (by decide) (by decide) hG_116
              have hF_128 := FR.call (mds := []) (mas := []) hG_115 go_ mq0_ kq0_ rfl hx_123
              have g := g.more hF_126
              refine lv_aload_n hx hb dX14_readOne_235 rfl (lv_at hl 1 rfl) ?_
              have hs_129 := sE_1 g 1 rfl (by have h9_0 := bo_; unfold bd at h9_0; have h9_1 := bop_; unfold bd at h9_1; have h9_2 := bt_; unfold bd at h9_2; have h9_3 := bx_1; unfold bd at h9_3; have h9_4 := h_125; unfold bd at h9_4; have h9_5 := b_118; unfold bd at h9_5; have h9_6 := h_35; unfold bd at h9_6; have h8_0 := kb_3; unfold bd at h8_0; omega)
              have go_ := g
              refine g_callEv (As := []) (rest := []) ⟨hx, hb, hml, hown, hts⟩ (r_X14_next_2 l dC dI L kd tys fr_120 H.size g.2.2.2.1 adK adV a0_ ma0_ ka0_ t_ bt_ (g.fcts [6] rfl)) (cwV 0 hts (gV_ t_2411 t_2413 t_102 t_198 t_2414) rfl rfl rfl (by decide +kernel) ⟨(show 6 + 1 ≤ N + 1 + 24 by omega), (show 8 + (1 + 11) + 135 ≤ 60 * (N + 1) + 700 by omega)⟩) (pre3VA g hK hAm ma0_ ka0_ (by decide) (q := (RX14, TX14, 67)) rfl) rfl hl.1 rfl (lv_room (Nat.le_of_ble_eq_true rfl)) dX14_readOne_236 (cl_f hck_0) g hK (by decide) (by decide) (fx' := [(12, 58, q0_, .int x_124), (14, 2, a0_, .ref q0_), (14, 16, a0_, .int o_), (14, 25, a0_, .int op_)]) rfl (fun xr_130 fr_130 H locs mxr_130 kxr_130 hp hMr_130 g => ?_) (fun fr_130 H locs hp hMr_130 g => ?_)
              · have hG_131 := FR.frame hMr_130 go_.2.2.2.1 mq0_ kq0_ (by decide) (by decide) hF_128
                have hG_132 := isV.frame hMr_130 go_.2.2.2.1 mq0_ kq0_ (by decide) (by decide) hx_122
                subst hQ
                exact leavesX hempty hlocks (fun t ht hW => g_thrX g hK mxr_130 kxr_130 (by omega) ht hW) g.2.2.1.2.2
              · obtain ⟨hx_133, h_134, x_135, h_136, hF_137⟩ := hp
                have hG_138 := FR.frame hMr_130 go_.2.2.2.1 mq0_ kq0_ (by decide) (by decide) hF_128
                have hG_139 := isV.frame hMr_130 go_.2.2.2.1 mq0_ kq0_ (by decide) (by decide) hx_122
                obtain ⟨E_140, hE_140⟩ : ∃ E : Int, cEq fr_130 a0_ E := ⟨_, rfl⟩
                have mxE_140 : E_140 ≤ 1202 := by have h9 := cF_le g ma0_ ka0_; have h8 : cF _ _ = _ := hE_140; omega
                have lE_140 : (cF f0 a0_) + 1 ≤ E_140 := by have h9 := hx_133; have h8 : cF _ _ = _ := hE_140; have h7 : cF _ _ = _ := hG_127; have h6 := hs_129; have h5 := tk_c (f := fr_120) (t := a0_); omega
                have b_141 : bd 0 1200 t_ := eqX rfl bt_ h_134 (by decide)
                have g := g.more hF_137
                refine lv_aload_n hx hb dX14_readOne_239 rfl (lv_at hl 1 rfl) ?_
                refine lv_bipush (v := 40) hx hb dX14_readOne_240 (by decide) ?_
                have go_ := g
                refine g_callEv (As := [.int 40]) (rest := []) ⟨hx, hb, hml, hown, hts⟩ (r_X14_opening_2 l dC dI L kd tys fr_130 H.size g.2.2.2.1 adK adV a0_ ma0_ ka0_ 40 x_135 h_136 op_ bop_ (g.fcts [0, 4] rfl)) (cwV 1 hts (gV_ t_2484 t_2486 t_118 t_198 t_2487) rfl rfl rfl (by decide +kernel) ⟨(show 7 + 1 ≤ N + 1 + 24 by omega), (show 8 + (2 + 11) + 155 ≤ 60 * (N + 1) + 700 by omega)⟩) (pre3VA g hK hAm ma0_ ka0_ (by decide) (q := (RX14, TX14, 67)) rfl) rfl hl.1 rfl (lv_room (Nat.le_of_ble_eq_true rfl)) dX14_readOne_242 (cl_f hck_0) g hK (by decide) (by decide) (fx' := [(12, 58, q0_, .int x_124), (14, 2, a0_, .ref q0_), (14, 16, a0_, .int o_)]) rfl (fun xr_142 fr_142 H locs mxr_142 kxr_142 hp hMr_142 g => ?_) (fun fr_142 H locs hp hMr_142 g => ?_)
                · have hG_143 := FR.frame hMr_142 go_.2.2.2.1 mq0_ kq0_ (by decide) (by decide) hG_138
                  have hG_144 := isV.frame hMr_142 go_.2.2.2.1 mq0_ kq0_ (by decide) (by decide) hG_139
                  subst hQ
                  exact leavesX hempty hlocks (fun t ht hW => g_thrX g hK mxr_142 kxr_142 (by omega) ht hW) g.2.2.1.2.2
                · obtain ⟨hx_145, h_146, h_147, x_148, h_149, x_150, ⟨h_151, rh_151⟩, hF_152⟩ := hp
                  have hG_153 := FR.frame hMr_142 go_.2.2.2.1 mq0_ kq0_ (by decide) (by decide) hG_138
                  have hG_154 := isV.frame hMr_142 go_.2.2.2.1 mq0_ kq0_ (by decide) (by decide) hG_139
                  obtain ⟨E_155, hE_155⟩ : ∃ E : Int, cEq fr_142 a0_ E := ⟨_, rfl⟩
                  have mxE_155 : E_155 ≤ 1202 := by have h9 := cF_le g ma0_ ka0_; have h8 : cF _ _ = _ := hE_155; omega
                  have lE_155 : E_140 + 1 ≤ E_155 := by have h9 := hx_145; have h8 : cF _ _ = _ := hE_155; have h7 : cF _ _ = _ := hE_140; omega
                  have b_156 : bd 0 1200 x_135 := eqX rfl h_136 h_146 (by decide)
                  have b_157 : bd 0 39 op_ := eqX rfl bop_ h_147 (by decide)
                  have g := g.more hF_152
                  refine lv_aload_n hx hb dX14_readOne_245 rfl (lv_at hl 1 rfl) ?_
                  refine lv_aload_n hx hb dX14_readOne_246 rfl (lv_at hl 1 rfl) ?_
                  refine g_geti (C := RX14) (T := TX14) (N := 67) hx hb hts (mc_ inX14) hown hK g ma0_ ka0_ (by decide) rfl 6 (by decide) rfl (hts _ (List.mem_cons_of_mem _ t_2152)) (fun _ h9 => h9) rfl dX14_readOne_247 (fun x_158 bx_158 g => ?_)
                  refine lv_iconst (v := 1) hx hb dX14_readOne_250 (by decide) ?_
                  have kb_1 : bd 1 1 (1 : Int32) := ⟨by decide, by decide⟩
                  refine lv_icmp_ne (tgt := 258) hx hb dX14_readOne_251 (by decide) (fun c_159 => ?_) (fun c_159 => ?_)
                  · have fc_159 := neq_f c_159
                    refine lv_iconst (v := 0) hx hb dX14_readOne_258 (by decide) ?_
                    refine lv_iconst (v := 1) hx hb dX14_readOne_259 (by decide) ?_
                    refine lv_aload_n hx hb dX14_readOne_260 rfl (lv_at hl 1 rfl) ?_
                    refine g_geti (C := RX14) (T := TX14) (N := 67) hx hb hts (mc_ inX14) hown hK g ma0_ ka0_ (by decide) rfl 8 (by decide) rfl (hts _ (List.mem_cons_of_mem _ t_2154)) (fun _ h9 => h9) rfl dX14_readOne_261 (fun x_160 bx_160 g => ?_)
                    have kb_0 : bd 0 0 (0 : Int32) := ⟨by decide, by decide⟩
                    have go_ := g
                    refine g_callEv (As := [.int 0, .int 1, .int x_160]) (rest := []) ⟨hx, hb, hml, hown, hts⟩ (r_X14_need_2 l dC dI L kd tys fr_142 H.size g.2.2.2.1 a0_ ma0_ ka0_ 0 kb_0 1 x_160) (cwV 3 hts (gV_ t_2403 t_2405 t_100 t_198 t_2406) rfl rfl rfl (by decide +kernel) ⟨(show 1 + 1 ≤ N + 1 + 24 by omega), (show 8 + (4 + 11) + 22 ≤ 60 * (N + 1) + 700 by omega)⟩) (pre3V g hK ma0_ ka0_ (by decide) (q := (RX14, TX14, 67)) rfl) rfl hl.1 rfl (lv_room (Nat.le_of_ble_eq_true rfl)) dX14_readOne_264 (cl_f hck_0) g hK (by decide) (by decide) (fx' := [(14, 8, a0_, .int x_160), (14, 6, a0_, .int x_158), (14, 10, a0_, .int x_148), (14, 25, a0_, .int x_150), (12, 58, q0_, .int x_124), (14, 2, a0_, .ref q0_), (14, 16, a0_, .int o_)]) rfl (fun xr_161 fr_161 H locs mxr_161 kxr_161 hp hMr_161 g => ?_) (fun fr_161 H locs hp hMr_161 g => ?_)
                    · have hG_162 := FR.frame hMr_161 go_.2.2.2.1 mq0_ kq0_ (by decide) (by decide) hG_153
                      have hG_163 := isV.frame hMr_161 go_.2.2.2.1 mq0_ kq0_ (by decide) (by decide) hG_154
                      have hG_164 := cEq.frame hMr_161 go_.2.2.2.1 ma0_ ka0_ (by decide) (by decide) hE_155
                      subst hQ
                      exact leavesX hempty hlocks (fun t ht hW => g_thrX g hK mxr_161 kxr_161 (by omega) ht hW) g.2.2.1.2.2
                    · exact hp.elim
                  · have fc_159 := eq_f c_159
                    have b_165 : bd 1 1 x_158 := eqX fc_159 bx_158 kb_1 (by decide)
                    refine lv_iconst (v := 1) hx hb dX14_readOne_254 (by decide) ?_
                    refine lv_goto (tgt := 259) hx hb dX14_readOne_255 (by decide) ?_
                    refine lv_iconst (v := 1) hx hb dX14_readOne_259 (by decide) ?_
                    refine lv_aload_n hx hb dX14_readOne_260 rfl (lv_at hl 1 rfl) ?_
                    refine g_geti (C := RX14) (T := TX14) (N := 67) hx hb hts (mc_ inX14) hown hK g ma0_ ka0_ (by decide) rfl 8 (by decide) rfl (hts _ (List.mem_cons_of_mem _ t_2154)) (fun _ h9 => h9) rfl dX14_readOne_261 (fun x_166 bx_166 g => ?_)
                    have hs_167 := sE_1 g 1 rfl (by have h9_0 := bo_; unfold bd at h9_0; have h9_1 := b_157; unfold bd at h9_1; have h9_2 := b_141; unfold bd at h9_2; have h9_3 := bx_1; unfold bd at h9_3; have h9_4 := h_125; unfold bd at h9_4; have h9_5 := b_156; unfold bd at h9_5; have h9_6 := h_149; unfold bd at h9_6; have h9_7 := h_151; unfold bd at h9_7; have h9_8 := b_165; unfold bd at h9_8; have h9_9 := bx_166; unfold bd at h9_9; have h9_10 := b_118; unfold bd at h9_10; have h9_11 := h_35; unfold bd at h9_11; have h8_0 := kb_1; unfold bd at h8_0; have h8_1 := kb_3; unfold bd at h8_1; omega)
                    have go_ := g
                    refine g_callEv (As := [.int 1, .int 1, .int x_166]) (rest := []) ⟨hx, hb, hml, hown, hts⟩ (r_X14_need_3 l dC dI L kd tys fr_142 H.size g.2.2.2.1 a0_ ma0_ ka0_ 1 kb_1 1 x_166) (cwV 3 hts (gV_ t_2403 t_2405 t_100 t_198 t_2406) rfl rfl rfl (by decide +kernel) ⟨(show 0 + 1 ≤ N + 1 + 24 by omega), (show 8 + (4 + 11) + 0 ≤ 60 * (N + 1) + 700 by omega)⟩) (pre3V g hK ma0_ ka0_ (by decide) (q := (RX14, TX14, 67)) rfl) rfl hl.1 rfl (lv_room (Nat.le_of_ble_eq_true rfl)) dX14_readOne_264 (cl_f hck_0) g hK (by decide) (by decide) (fx' := [(14, 8, a0_, .int x_166), (14, 6, a0_, .int x_158), (14, 10, a0_, .int x_148), (14, 25, a0_, .int x_150), (12, 58, q0_, .int x_124), (14, 2, a0_, .ref q0_), (14, 16, a0_, .int o_)]) rfl (fun xr_168 fr_168 H locs mxr_168 kxr_168 hp hMr_168 g => ?_) (fun fr_168 H locs hp hMr_168 g => ?_)
                    · have hG_169 := FR.frame hMr_168 go_.2.2.2.1 mq0_ kq0_ (by decide) (by decide) hG_153
                      have hG_170 := isV.frame hMr_168 go_.2.2.2.1 mq0_ kq0_ (by decide) (by decide) hG_154
                      have hG_171 := cEq.frame hMr_168 go_.2.2.2.1 ma0_ ka0_ (by decide) (by decide) hE_155
                      exact hp.elim
                    · have hG_172 := FR.frame hMr_168 go_.2.2.2.1 mq0_ kq0_ (by decide) (by decide) hG_153
                      have hG_173 := isV.frame hMr_168 go_.2.2.2.1 mq0_ kq0_ (by decide) (by decide) hG_154
                      have hG_174 := cEq.frame hMr_168 go_.2.2.2.1 ma0_ ka0_ (by decide) (by decide) hE_155
                      refine lv_aload_n hx hb dX14_readOne_267 rfl (lv_at hl 1 rfl) ?_
                      refine lv_aload_n hx hb dX14_readOne_268 rfl (lv_at hl 1 rfl) ?_
                      refine g_getl (C := RX14) (T := TX14) (N := 67) hx hb hts (mc_ inX14) hown hK g ma0_ ka0_ (by decide) rfl 12 (by decide) rfl (hts _ (List.mem_cons_of_mem _ t_2158)) (fun _ h9 => h9) rfl dX14_readOne_269 (fun x_175 g => ?_)
                      refine lv_aload_n hx hb dX14_readOne_272 rfl (lv_at hl 1 rfl) ?_
                      refine g_getl (C := RX14) (T := TX14) (N := 67) hx hb hts (mc_ inX14) hown hK g ma0_ ka0_ (by decide) rfl 13 (by decide) rfl (hts _ (List.mem_cons_of_mem _ t_2159)) (fun _ h9 => h9) rfl dX14_readOne_273 (fun x_176 g => ?_)
                      have hs_177 := sE_1 g 3 rfl (by have h9_0 := bo_; unfold bd at h9_0; have h9_1 := b_157; unfold bd at h9_1; have h9_2 := b_141; unfold bd at h9_2; have h9_3 := bx_1; unfold bd at h9_3; have h9_4 := h_125; unfold bd at h9_4; have h9_5 := b_156; unfold bd at h9_5; have h9_6 := h_149; unfold bd at h9_6; have h9_7 := h_151; unfold bd at h9_7; have h9_8 := b_165; unfold bd at h9_8; have h9_9 := bx_166; unfold bd at h9_9; have h9_10 := b_118; unfold bd at h9_10; have h9_11 := h_35; unfold bd at h9_11; have h8_0 := kb_1; unfold bd at h8_0; have h8_1 := kb_3; unfold bd at h8_1; omega)
                      obtain ⟨N_, hNN_178⟩ := isN.ex g ma0_ ka0_
                      have go_ := g
                      refine g_calli (va_runV (As := [.long x_175, .long x_176]) (rest := []) ⟨hx, hb, hml, hown, hts⟩ (r_X14_named_2 l dC dI L kd tys fr_168 H.size g.2.2.2.1 a0_ ma0_ ka0_ x_175 x_176 q0_ mq0_ kq0_ o_ bo_ V_ N_ hNN_178 hG_173 (g.fcts [7, 8] rfl)) (cwV 2 hts (gV_ t_2504 t_2506 t_122 t_198 t_2507) rfl rfl rfl (by decide +kernel) ⟨(show 1 + 1 ≤ N + 1 + 24 by omega), (show 8 + (6 + 11) + 26 ≤ 60 * (N + 1) + 700 by omega)⟩) (pre3V g hK ma0_ ka0_ (by decide) (q := (RX14, TX14, 67)) rfl) rfl rfl hl.1 rfl (lv_room (Nat.le_of_ble_eq_true rfl)) dX14_readOne_276 (cl_f hck_0)) g hK (by decide) (by decide) (fx' := [(14, 13, a0_, .long x_176), (14, 12, a0_, .long x_175), (14, 8, a0_, .int x_166), (14, 6, a0_, .int x_158), (14, 10, a0_, .int x_148), (14, 25, a0_, .int x_150), (12, 58, q0_, .int x_124), (14, 2, a0_, .ref q0_), (14, 16, a0_, .int o_)]) rfl (fun r_179 fr_179 H locs hp hMr_179 g => ?_)
                      obtain ⟨hx_180, -⟩ := hp
                      have hG_181 := FR.frame hMr_179 go_.2.2.2.1 mq0_ kq0_ (by decide) (by decide) hG_172
                      have hG_182 := isV.frame hMr_179 go_.2.2.2.1 mq0_ kq0_ (by decide) (by decide) hG_173
                      have hG_183 := cEq.frame hMr_179 go_.2.2.2.1 ma0_ ka0_ (by decide) (by decide) hG_174
                      have hG_184 := isN.frame hMr_179 go_.2.2.2.1 ma0_ ka0_ (by decide) (by decide) hNN_178
                      rcases hx_180 with ⟨h_185, hd_186⟩ | ⟨h_185 | h_185 | h_185, hd_186⟩
                      · obtain rfl : r_179 = (-1) := Int32.toInt_inj.mp (h_185.trans (by decide))
                        refine lv_istore_n (lv' := [(2, .int (-1)), (1, .int x_1), (0, .ref a0_)]) hx hb dX14_readOne_279 rfl hl (by decide) rfl (fun ls hl => ?_)
                        refine lv_aload_n hx hb dX14_readOne_280 rfl (lv_at hl 2 rfl) ?_
                        refine lv_iload_n hx hb dX14_readOne_281 rfl (lv_at hl 0 rfl) ?_
                        refine lv_iconst (v := (-1)) hx hb dX14_readOne_282 (by decide) ?_
                        refine lv_icmp_eq (tgt := 290) hx hb dX14_readOne_283 (by decide) (fun c_ => ?_) (fun c_ => absurd (by decide) c_)
                        refine lv_iconst (v := 0) hx hb dX14_readOne_290 (by decide) ?_
                        refine lv_iconst (v := 2) hx hb dX14_readOne_291 (by decide) ?_
                        refine lv_aload_n hx hb dX14_readOne_292 rfl (lv_at hl 2 rfl) ?_
                        refine g_getk (C := RX14) (T := TX14) (N := 67) hx hb hts (mc_ inX14) hown hK g rfl 8 (by decide) rfl (hts _ (List.mem_cons_of_mem _ t_2154)) (fun _ h9 => h9) 2 rfl dX14_readOne_293 ?_
                        have hs_187 := sE_1 g 3 rfl (by have h9_0 := bo_; unfold bd at h9_0; have h9_1 := b_157; unfold bd at h9_1; have h9_2 := b_141; unfold bd at h9_2; have h9_3 := bx_1; unfold bd at h9_3; have h9_4 := h_125; unfold bd at h9_4; have h9_5 := b_156; unfold bd at h9_5; have h9_6 := h_149; unfold bd at h9_6; have h9_7 := h_151; unfold bd at h9_7; have h9_8 := b_165; unfold bd at h9_8; have h9_9 := bx_166; unfold bd at h9_9; have h9_10 := b_118; unfold bd at h9_10; have h9_11 := h_35; unfold bd at h9_11; have h8_0 := kb_1; unfold bd at h8_0; have h8_1 := kb_3; unfold bd at h8_1; omega)
                        have kb_0 : bd 0 0 (0 : Int32) := ⟨by decide, by decide⟩
                        have go_ := g
                        refine g_callEv (As := [.int 0, .int 2, .int x_166]) (rest := []) ⟨hx, hb, hml, hown, hts⟩ (r_X14_need_2 l dC dI L kd tys fr_179 H.size g.2.2.2.1 a0_ ma0_ ka0_ 0 kb_0 2 x_166) (cwV 3 hts (gV_ t_2403 t_2405 t_100 t_198 t_2406) rfl rfl rfl (by decide +kernel) ⟨(show 1 + 1 ≤ N + 1 + 24 by omega), (show 8 + (4 + 11) + 22 ≤ 60 * (N + 1) + 700 by omega)⟩) (pre3V g hK ma0_ ka0_ (by decide) (q := (RX14, TX14, 67)) rfl) rfl hl.1 rfl (lv_room (Nat.le_of_ble_eq_true rfl)) dX14_readOne_296 (cl_f hck_0) g hK (by decide) (by decide) (fx' := [(14, 13, a0_, .long x_176), (14, 12, a0_, .long x_175), (14, 8, a0_, .int x_166), (14, 6, a0_, .int x_158), (14, 10, a0_, .int x_148), (14, 25, a0_, .int x_150), (12, 58, q0_, .int x_124), (14, 2, a0_, .ref q0_), (14, 16, a0_, .int o_)]) rfl (fun xr_188 fr_188 H locs mxr_188 kxr_188 hp hMr_188 g => ?_) (fun fr_188 H locs hp hMr_188 g => ?_)
                        · have hG_189 := FR.frame hMr_188 go_.2.2.2.1 mq0_ kq0_ (by decide) (by decide) hG_181
                          have hG_190 := isV.frame hMr_188 go_.2.2.2.1 mq0_ kq0_ (by decide) (by decide) hG_182
                          have hG_191 := cEq.frame hMr_188 go_.2.2.2.1 ma0_ ka0_ (by decide) (by decide) hG_183
                          have hG_192 := isN.frame hMr_188 go_.2.2.2.1 ma0_ ka0_ (by decide) (by decide) hG_184
                          subst hQ
                          exact leavesX hempty hlocks (fun t ht hW => g_thrX g hK mxr_188 kxr_188 (by omega) ht hW) g.2.2.1.2.2
                        · exact hp.elim
                      · have b_193 : bd 0 9 r_179 := ⟨h_185.1, h_185.2.1⟩
                        have hv_194 : varOK V_ r_179 o_.toNatClampNeg := Or.inl h_185
                        refine lv_istore_n (lv' := [(2, .int r_179), (1, .int x_1), (0, .ref a0_)]) hx hb dX14_readOne_279 rfl hl (by decide) rfl (fun ls hl => ?_)
                        refine lv_aload_n hx hb dX14_readOne_280 rfl (lv_at hl 2 rfl) ?_
                        refine lv_iload_n hx hb dX14_readOne_281 rfl (lv_at hl 0 rfl) ?_
                        refine lv_iconst (v := (-1)) hx hb dX14_readOne_282 (by decide) ?_
                        have kb_m1 : bd (-1) (-1) ((-1) : Int32) := ⟨by decide, by decide⟩
                        refine lv_icmp_eq (tgt := 290) hx hb dX14_readOne_283 (by decide) (fun c_195 => ?_) (fun c_195 => ?_)
                        · have fc_195 := eq_f c_195
                          have b_196 : bd 0 (-1) r_179 := eqX fc_195 b_193 kb_m1 (by decide)
                          exact bd_no b_196 (by decide)
                        · have fc_195 := neq_f c_195
                          refine lv_iconst (v := 1) hx hb dX14_readOne_286 (by decide) ?_
                          refine lv_goto (tgt := 291) hx hb dX14_readOne_287 (by decide) ?_
                          refine lv_iconst (v := 2) hx hb dX14_readOne_291 (by decide) ?_
                          refine lv_aload_n hx hb dX14_readOne_292 rfl (lv_at hl 2 rfl) ?_
                          refine g_getk (C := RX14) (T := TX14) (N := 67) hx hb hts (mc_ inX14) hown hK g rfl 8 (by decide) rfl (hts _ (List.mem_cons_of_mem _ t_2154)) (fun _ h9 => h9) 2 rfl dX14_readOne_293 ?_
                          have hs_197 := sE_1 g 3 rfl (by have h9_0 := bo_; unfold bd at h9_0; have h9_1 := b_157; unfold bd at h9_1; have h9_2 := b_193; unfold bd at h9_2; have h9_3 := b_141; unfold bd at h9_3; have h9_4 := bx_1; unfold bd at h9_4; have h9_5 := h_125; unfold bd at h9_5; have h9_6 := b_156; unfold bd at h9_6; have h9_7 := h_149; unfold bd at h9_7; have h9_8 := h_151; unfold bd at h9_8; have h9_9 := b_165; unfold bd at h9_9; have h9_10 := bx_166; unfold bd at h9_10; have h9_11 := b_118; unfold bd at h9_11; have h9_12 := h_35; unfold bd at h9_12; have h8_0 := kb_1; unfold bd at h8_0; have h8_1 := kb_3; unfold bd at h8_1; have h8_2 := kb_m1; unfold bd at h8_2; omega)
                          have go_ := g
                          refine g_callEv (As := [.int 1, .int 2, .int x_166]) (rest := []) ⟨hx, hb, hml, hown, hts⟩ (r_X14_need_3 l dC dI L kd tys fr_179 H.size g.2.2.2.1 a0_ ma0_ ka0_ 1 kb_1 2 x_166) (cwV 3 hts (gV_ t_2403 t_2405 t_100 t_198 t_2406) rfl rfl rfl (by decide +kernel) ⟨(show 0 + 1 ≤ N + 1 + 24 by omega), (show 8 + (4 + 11) + 0 ≤ 60 * (N + 1) + 700 by omega)⟩) (pre3V g hK ma0_ ka0_ (by decide) (q := (RX14, TX14, 67)) rfl) rfl hl.1 rfl (lv_room (Nat.le_of_ble_eq_true rfl)) dX14_readOne_296 (cl_f hck_0) g hK (by decide) (by decide) (fx' := [(14, 13, a0_, .long x_176), (14, 12, a0_, .long x_175), (14, 8, a0_, .int x_166), (14, 6, a0_, .int x_158), (14, 10, a0_, .int x_148), (14, 25, a0_, .int x_150), (12, 58, q0_, .int x_124), (14, 2, a0_, .ref q0_), (14, 16, a0_, .int o_)]) rfl (fun xr_198 fr_198 H locs mxr_198 kxr_198 hp hMr_198 g => ?_) (fun fr_198 H locs hp hMr_198 g => ?_)
                          · have hG_199 := FR.frame hMr_198 go_.2.2.2.1 mq0_ kq0_ (by decide) (by decide) hG_181
                            have hG_200 := isV.frame hMr_198 go_.2.2.2.1 mq0_ kq0_ (by decide) (by decide) hG_182
                            have hG_201 := cEq.frame hMr_198 go_.2.2.2.1 ma0_ ka0_ (by decide) (by decide) hG_183
                            have hG_202 := isN.frame hMr_198 go_.2.2.2.1 ma0_ ka0_ (by decide) (by decide) hG_184
                            exact hp.elim
                          · have hG_203 := FR.frame hMr_198 go_.2.2.2.1 mq0_ kq0_ (by decide) (by decide) hG_181
                            have hG_204 := isV.frame hMr_198 go_.2.2.2.1 mq0_ kq0_ (by decide) (by decide) hG_182
                            have hG_205 := cEq.frame hMr_198 go_.2.2.2.1 ma0_ ka0_ (by decide) (by decide) hG_183
                            have hG_206 := isN.frame hMr_198 go_.2.2.2.1 ma0_ ka0_ (by decide) (by decide) hG_184
                            refine lv_aload_n hx hb dX14_readOne_299 rfl (lv_at hl 2 rfl) ?_
                            have hs_207 := sE_1 g 3 rfl (by have h9_0 := bo_; unfold bd at h9_0; have h9_1 := b_157; unfold bd at h9_1; have h9_2 := b_193; unfold bd at h9_2; have h9_3 := b_141; unfold bd at h9_3; have h9_4 := bx_1; unfold bd at h9_4; have h9_5 := h_125; unfold bd at h9_5; have h9_6 := b_156; unfold bd at h9_6; have h9_7 := h_149; unfold bd at h9_7; have h9_8 := h_151; unfold bd at h9_8; have h9_9 := b_165; unfold bd at h9_9; have h9_10 := bx_166; unfold bd at h9_10; have h9_11 := b_118; unfold bd at h9_11; have h9_12 := h_35; unfold bd at h9_12; have h8_0 := kb_1; unfold bd at h8_0; have h8_1 := kb_3; unfold bd at h8_1; have h8_2 := kb_m1; unfold bd at h8_2; omega)
                            have go_ := g
                            refine g_callEv (As := []) (rest := []) ⟨hx, hb, hml, hown, hts⟩ (r_X14_room l dC dI L kd tys fr_198 H.size g.2.2.2.1 a0_ ma0_ ka0_) (cwV 0 hts (gV_ t_2415 t_2417 t_103 t_198 t_2418) rfl rfl rfl (by decide +kernel) ⟨(show 2 + 1 ≤ N + 1 + 24 by omega), (show 8 + (1 + 11) + 45 ≤ 60 * (N + 1) + 700 by omega)⟩) (pre3V g hK ma0_ ka0_ (by decide) (q := (RX14, TX14, 67)) rfl) rfl hl.1 rfl (lv_room (Nat.le_of_ble_eq_true rfl)) dX14_readOne_300 (cl_f hck_0) g hK (by decide) (by decide) (fx' := [(14, 13, a0_, .long x_176), (14, 12, a0_, .long x_175), (14, 8, a0_, .int x_166), (14, 6, a0_, .int x_158), (14, 10, a0_, .int x_148), (14, 25, a0_, .int x_150), (12, 58, q0_, .int x_124), (14, 2, a0_, .ref q0_), (14, 16, a0_, .int o_)]) rfl (fun xr_208 fr_208 H locs mxr_208 kxr_208 hp hMr_208 g => ?_) (fun fr_208 H locs hp hMr_208 g => ?_)
                            · have hG_209 := FR.frame hMr_208 go_.2.2.2.1 mq0_ kq0_ (by decide) (by decide) hG_203
                              have hG_210 := isV.frame hMr_208 go_.2.2.2.1 mq0_ kq0_ (by decide) (by decide) hG_204
                              have hG_211 := cEq.frame hMr_208 go_.2.2.2.1 ma0_ ka0_ (by decide) (by decide) hG_205
                              have hG_212 := isN.frame hMr_208 go_.2.2.2.1 ma0_ ka0_ (by decide) (by decide) hG_206
                              subst hQ
                              exact leavesX hempty hlocks (fun t ht hW => g_thrX g hK mxr_208 kxr_208 (by omega) ht hW) g.2.2.1.2.2
                            · obtain ⟨x_213, h_214, hF_215⟩ := hp
                              have hG_216 := FR.frame hMr_208 go_.2.2.2.1 mq0_ kq0_ (by decide) (by decide) hG_203
                              have hG_217 := isV.frame hMr_208 go_.2.2.2.1 mq0_ kq0_ (by decide) (by decide) hG_204
                              have hG_218 := cEq.frame hMr_208 go_.2.2.2.1 ma0_ ka0_ (by decide) (by decide) hG_205
                              have hG_219 := isN.frame hMr_208 go_.2.2.2.1 ma0_ ka0_ (by decide) (by decide) hG_206
                              have g := g.more hF_215
                              have e_220 := fx_same g 5 0 rfl rfl
                              have b_221 : bd 0 1200 x_148 := eqX (eq_f e_220.symm) h_149 h_214 (by decide)
                              have g := g.sub (fx' := [(14, 13, a0_, .long x_176), (14, 12, a0_, .long x_175), (14, 8, a0_, .int x_166), (14, 6, a0_, .int x_158), (14, 10, a0_, .int x_148), (14, 25, a0_, .int x_150), (12, 58, q0_, .int x_124), (14, 2, a0_, .ref q0_), (14, 16, a0_, .int o_)]) [1, 2, 3, 4, 5, 6, 7, 8, 9] rfl
                              refine lv_aload_n hx hb dX14_readOne_303 rfl (lv_at hl 2 rfl) ?_
                              refine lv_iload_n hx hb dX14_readOne_304 rfl (lv_at hl 0 rfl) ?_
                              refine lv_sipush (v := 1000) hx hb dX14_readOne_305 (by decide) ?_
                              have kb_1000 : bd 1000 1000 (1000 : Int32) := ⟨by decide, by decide⟩
                              refine lv_icmp_ge (tgt := 335) hx hb dX14_readOne_308 (by decide) (fun c_222 => ?_) (fun c_222 => ?_)
                              · have fc_222 := le_f c_222
                                have b_223 : bd 1000 9 (1000 : Int32) := leL fc_222 kb_1000 b_193 (by decide)
                                exact bd_no (eqX rfl b_223 kb_1000 (lo := 1000) (hi := 9) (by decide)) (by decide)
                              · have fc_222 := nle_f c_222
                                refine lv_aload_n hx hb dX14_readOne_311 rfl (lv_at hl 2 rfl) ?_
                                refine g_getk (C := RX14) (T := TX14) (N := 67) hx hb hts (mc_ inX14) hown hK g rfl 2 (by decide) rfl (hts _ (List.mem_cons_of_mem _ t_2148)) (fun _ h9 => h9) 7 rfl dX14_readOne_312 ?_
                                refine g_getr (K := 164) (C := RX12) (T := TX12) (N := 60) hx hb hts (mc_ inX12) hown hK g mq0_ kq0_ (by decide) rfl 8 (by decide) rfl (hts _ (List.mem_cons_of_mem _ t_1922)) (fun _ h9 => h9) rfl dX14_readOne_315 (fun a_224 ma_224 ka_224 g => ?_)
                                refine lv_bipush (v := 10) hx hb dX14_readOne_318 (by decide) ?_
                                refine lv_aload_n hx hb dX14_readOne_320 rfl (lv_at hl 2 rfl) ?_
                                refine g_getk (C := RX14) (T := TX14) (N := 67) hx hb hts (mc_ inX14) hown hK g rfl 16 (by decide) rfl (hts _ (List.mem_cons_of_mem _ t_2162)) (fun _ h9 => h9) 9 rfl dX14_readOne_321 ?_
                                refine lv_imul hx hb dX14_readOne_324 ?_
                                refine lv_topi (fun y_225 ey_225 => ?_)
                                have ty_225 := cmul_bd ey_225 (c := 10) (by decide) bo_ (by decide)
                                have b_226 : bd 0 70 y_225 := mulc_rg ty_225 bo_ (by decide)
                                refine lv_iload_n hx hb dX14_readOne_325 rfl (lv_at hl 0 rfl) ?_
                                refine lv_iadd hx hb dX14_readOne_326 ?_
                                refine lv_topi (fun y_227 ey_227 => ?_)
                                have ty_227 := add_bd ey_227 b_226 b_193 (by decide)
                                have b_228 : bd 0 79 y_227 := add_rg ty_227 b_226 b_193 (by decide)
                                refine g_iald hx hb hK g ma_224 ka_224 (by decide) rfl (in_bd b_228 (by decide)) dX14_readOne_327 (fun x_229 bx_229 cx_229 => ?_)
                                have vx_229 : x_229 = V_.i 8 y_227.toNatClampNeg := hG_217.at g 0 rfl rfl cx_229
                                have kb_0 : bd 0 0 (0 : Int32) := ⟨by decide, by decide⟩
                                refine lv_if_le (tgt := 335) hx hb dX14_readOne_328 (by decide) (fun c_230 => ?_) (fun c_230 => ?_)
                                · have fc_230 := le_f c_230
                                  have b_231 : bd 0 0 x_229 := leL fc_230 bx_229 kb_0 (by decide)
                                  refine lv_iconst (v := 0) hx hb dX14_readOne_335 (by decide) ?_
                                  refine lv_iconst (v := 5) hx hb dX14_readOne_336 (by decide) ?_
                                  refine lv_aload_n hx hb dX14_readOne_337 rfl (lv_at hl 2 rfl) ?_
                                  refine g_getk (C := RX14) (T := TX14) (N := 67) hx hb hts (mc_ inX14) hown hK g rfl 8 (by decide) rfl (hts _ (List.mem_cons_of_mem _ t_2154)) (fun _ h9 => h9) 3 rfl dX14_readOne_338 ?_
                                  have hs_232 := sE_1 g 4 rfl (by have h9_0 := bo_; unfold bd at h9_0; have h9_1 := b_157; unfold bd at h9_1; have h9_2 := b_193; unfold bd at h9_2; have h9_3 := b_141; unfold bd at h9_3; have h9_4 := bx_1; unfold bd at h9_4; have h9_5 := h_125; unfold bd at h9_5; have h9_6 := b_156; unfold bd at h9_6; have h9_7 := b_221; unfold bd at h9_7; have h9_8 := h_151; unfold bd at h9_8; have h9_9 := b_165; unfold bd at h9_9; have h9_10 := bx_166; unfold bd at h9_10; have h9_11 := b_118; unfold bd at h9_11; have h9_12 := h_214; unfold bd at h9_12; have h9_13 := b_231; unfold bd at h9_13; have h9_14 := h_35; unfold bd at h9_14; have h9_15 := b_226; unfold bd at h9_15; have h9_16 := b_228; unfold bd at h9_16; have h8_0 := kb_0; unfold bd at h8_0; have h8_1 := kb_1; unfold bd at h8_1; have h8_2 := kb_1000; unfold bd at h8_2; have h8_3 := kb_3; unfold bd at h8_3; have h8_4 := kb_m1; unfold bd at h8_4; omega)
                                  have go_ := g
                                  refine g_callEv (As := [.int 0, .int 5, .int x_166]) (rest := []) ⟨hx, hb, hml, hown, hts⟩ (r_X14_need_2 l dC dI L kd tys fr_208 H.size g.2.2.2.1 a0_ ma0_ ka0_ 0 kb_0 5 x_166) (cwV 3 hts (gV_ t_2403 t_2405 t_100 t_198 t_2406) rfl rfl rfl (by decide +kernel) ⟨(show 1 + 1 ≤ N + 1 + 24 by omega), (show 8 + (4 + 11) + 22 ≤ 60 * (N + 1) + 700 by omega)⟩) (pre3V g hK ma0_ ka0_ (by decide) (q := (RX14, TX14, 67)) rfl) rfl hl.1 rfl (lv_room (Nat.le_of_ble_eq_true rfl)) dX14_readOne_341 (cl_f hck_0) g hK (by decide) (by decide) (fx' := [(12, 8, q0_, .ref a_224), (14, 13, a0_, .long x_176), (14, 12, a0_, .long x_175), (14, 8, a0_, .int x_166), (14, 6, a0_, .int x_158), (14, 10, a0_, .int x_148), (14, 25, a0_, .int x_150), (12, 58, q0_, .int x_124), (14, 2, a0_, .ref q0_), (14, 16, a0_, .int o_)]) rfl (fun xr_233 fr_233 H locs mxr_233 kxr_233 hp hMr_233 g => ?_) (fun fr_233 H locs hp hMr_233 g => ?_)
                                  · have hG_234 := FR.frame hMr_233 go_.2.2.2.1 mq0_ kq0_ (by decide) (by decide) hG_216
                                    have hG_235 := isV.frame hMr_233 go_.2.2.2.1 mq0_ kq0_ (by decide) (by decide) hG_217
                                    have hG_236 := cEq.frame hMr_233 go_.2.2.2.1 ma0_ ka0_ (by decide) (by decide) hG_218
                                    have hG_237 := isN.frame hMr_233 go_.2.2.2.1 ma0_ ka0_ (by decide) (by decide) hG_219
                                    subst hQ
                                    exact leavesX hempty hlocks (fun t ht hW => g_thrX g hK mxr_233 kxr_233 (by omega) ht hW) g.2.2.1.2.2
                                  · exact hp.elim
                                · have fc_230 := nle_f c_230
                                  have b_238 : bd 1 8 x_229 := ltR fc_230 kb_0 bx_229 (by decide)
                                  refine lv_iconst (v := 1) hx hb dX14_readOne_331 (by decide) ?_
                                  refine lv_goto (tgt := 336) hx hb dX14_readOne_332 (by decide) ?_
                                  refine lv_iconst (v := 5) hx hb dX14_readOne_336 (by decide) ?_
                                  refine lv_aload_n hx hb dX14_readOne_337 rfl (lv_at hl 2 rfl) ?_
                                  refine g_getk (C := RX14) (T := TX14) (N := 67) hx hb hts (mc_ inX14) hown hK g rfl 8 (by decide) rfl (hts _ (List.mem_cons_of_mem _ t_2154)) (fun _ h9 => h9) 3 rfl dX14_readOne_338 ?_
                                  have hs_239 := sE_1 g 4 rfl (by have h9_0 := bo_; unfold bd at h9_0; have h9_1 := b_157; unfold bd at h9_1; have h9_2 := b_193; unfold bd at h9_2; have h9_3 := b_141; unfold bd at h9_3; have h9_4 := bx_1; unfold bd at h9_4; have h9_5 := h_125; unfold bd at h9_5; have h9_6 := b_156; unfold bd at h9_6; have h9_7 := b_221; unfold bd at h9_7; have h9_8 := h_151; unfold bd at h9_8; have h9_9 := b_165; unfold bd at h9_9; have h9_10 := bx_166; unfold bd at h9_10; have h9_11 := b_118; unfold bd at h9_11; have h9_12 := h_214; unfold bd at h9_12; have h9_13 := b_238; unfold bd at h9_13; have h9_14 := h_35; unfold bd at h9_14; have h9_15 := b_226; unfold bd at h9_15; have h9_16 := b_228; unfold bd at h9_16; have h8_0 := kb_0; unfold bd at h8_0; have h8_1 := kb_1; unfold bd at h8_1; have h8_2 := kb_1000; unfold bd at h8_2; have h8_3 := kb_3; unfold bd at h8_3; have h8_4 := kb_m1; unfold bd at h8_4; omega)
                                  have go_ := g
                                  refine g_callEv (As := [.int 1, .int 5, .int x_166]) (rest := []) ⟨hx, hb, hml, hown, hts⟩ (r_X14_need_3 l dC dI L kd tys fr_208 H.size g.2.2.2.1 a0_ ma0_ ka0_ 1 kb_1 5 x_166) (cwV 3 hts (gV_ t_2403 t_2405 t_100 t_198 t_2406) rfl rfl rfl (by decide +kernel) ⟨(show 0 + 1 ≤ N + 1 + 24 by omega), (show 8 + (4 + 11) + 0 ≤ 60 * (N + 1) + 700 by omega)⟩) (pre3V g hK ma0_ ka0_ (by decide) (q := (RX14, TX14, 67)) rfl) rfl hl.1 rfl (lv_room (Nat.le_of_ble_eq_true rfl)) dX14_readOne_341 (cl_f hck_0) g hK (by decide) (by decide) (fx' := [(12, 8, q0_, .ref a_224), (14, 13, a0_, .long x_176), (14, 12, a0_, .long x_175), (14, 8, a0_, .int x_166), (14, 6, a0_, .int x_158), (14, 10, a0_, .int x_148), (14, 25, a0_, .int x_150), (12, 58, q0_, .int x_124), (14, 2, a0_, .ref q0_), (14, 16, a0_, .int o_)]) rfl (fun xr_240 fr_240 H locs mxr_240 kxr_240 hp hMr_240 g => ?_) (fun fr_240 H locs hp hMr_240 g => ?_)
                                  · have hG_241 := FR.frame hMr_240 go_.2.2.2.1 mq0_ kq0_ (by decide) (by decide) hG_216
                                    have hG_242 := isV.frame hMr_240 go_.2.2.2.1 mq0_ kq0_ (by decide) (by decide) hG_217
                                    have hG_243 := cEq.frame hMr_240 go_.2.2.2.1 ma0_ ka0_ (by decide) (by decide) hG_218
                                    have hG_244 := isN.frame hMr_240 go_.2.2.2.1 ma0_ ka0_ (by decide) (by decide) hG_219
                                    exact hp.elim
                                  · have hG_245 := FR.frame hMr_240 go_.2.2.2.1 mq0_ kq0_ (by decide) (by decide) hG_216
                                    have hG_246 := isV.frame hMr_240 go_.2.2.2.1 mq0_ kq0_ (by decide) (by decide) hG_217
                                    have hG_247 := cEq.frame hMr_240 go_.2.2.2.1 ma0_ ka0_ (by decide) (by decide) hG_218
                                    have hG_248 := isN.frame hMr_240 go_.2.2.2.1 ma0_ ka0_ (by decide) (by decide) hG_219
                                    refine lv_aload_n hx hb dX14_readOne_344 rfl (lv_at hl 2 rfl) ?_
                                    have hs_249 := sE_1 g 4 rfl (by have h9_0 := bo_; unfold bd at h9_0; have h9_1 := b_157; unfold bd at h9_1; have h9_2 := b_193; unfold bd at h9_2; have h9_3 := b_141; unfold bd at h9_3; have h9_4 := bx_1; unfold bd at h9_4; have h9_5 := h_125; unfold bd at h9_5; have h9_6 := b_156; unfold bd at h9_6; have h9_7 := b_221; unfold bd at h9_7; have h9_8 := h_151; unfold bd at h9_8; have h9_9 := b_165; unfold bd at h9_9; have h9_10 := bx_166; unfold bd at h9_10; have h9_11 := b_118; unfold bd at h9_11; have h9_12 := h_214; unfold bd at h9_12; have h9_13 := b_238; unfold bd at h9_13; have h9_14 := h_35; unfold bd at h9_14; have h9_15 := b_226; unfold bd at h9_15; have h9_16 := b_228; unfold bd at h9_16; have h8_0 := kb_0; unfold bd at h8_0; have h8_1 := kb_1; unfold bd at h8_1; have h8_2 := kb_1000; unfold bd at h8_2; have h8_3 := kb_3; unfold bd at h8_3; have h8_4 := kb_m1; unfold bd at h8_4; omega)
                                    have go_ := g
                                    refine g_callEv (As := []) (rest := []) ⟨hx, hb, hml, hown, hts⟩ (r_X14_next_2 l dC dI L kd tys fr_240 H.size g.2.2.2.1 adK adV a0_ ma0_ ka0_ x_148 (bd_sub b_221 (by decide)) (g.fcts [5] rfl)) (cwV 0 hts (gV_ t_2411 t_2413 t_102 t_198 t_2414) rfl rfl rfl (by decide +kernel) ⟨(show 6 + 1 ≤ N + 1 + 24 by omega), (show 8 + (1 + 11) + 135 ≤ 60 * (N + 1) + 700 by omega)⟩) (pre3VA g hK hAm ma0_ ka0_ (by decide) (q := (RX14, TX14, 67)) rfl) rfl hl.1 rfl (lv_room (Nat.le_of_ble_eq_true rfl)) dX14_readOne_345 (cl_f hck_0) g hK (by decide) (by decide) (fx' := [(12, 8, q0_, .ref a_224), (14, 25, a0_, .int x_150), (12, 58, q0_, .int x_124), (14, 2, a0_, .ref q0_), (14, 16, a0_, .int o_)]) rfl (fun xr_250 fr_250 H locs mxr_250 kxr_250 hp hMr_250 g => ?_) (fun fr_250 H locs hp hMr_250 g => ?_)
                                    · have hG_251 := FR.frame hMr_250 go_.2.2.2.1 mq0_ kq0_ (by decide) (by decide) hG_245
                                      have hG_252 := isV.frame hMr_250 go_.2.2.2.1 mq0_ kq0_ (by decide) (by decide) hG_246
                                      have hG_253 := isN.frame hMr_250 go_.2.2.2.1 ma0_ ka0_ (by decide) (by decide) hG_248
                                      subst hQ
                                      exact leavesX hempty hlocks (fun t ht hW => g_thrX g hK mxr_250 kxr_250 (by omega) ht hW) g.2.2.1.2.2
                                    · obtain ⟨hx_254, h_255, x_256, h_257, hF_258⟩ := hp
                                      have hG_259 := FR.frame hMr_250 go_.2.2.2.1 mq0_ kq0_ (by decide) (by decide) hG_245
                                      have hG_260 := isV.frame hMr_250 go_.2.2.2.1 mq0_ kq0_ (by decide) (by decide) hG_246
                                      have hG_261 := isN.frame hMr_250 go_.2.2.2.1 ma0_ ka0_ (by decide) (by decide) hG_248
                                      obtain ⟨E_262, hE_262⟩ : ∃ E : Int, cEq fr_250 a0_ E := ⟨_, rfl⟩
                                      have mxE_262 : E_262 ≤ 1202 := by have h9 := cF_le g ma0_ ka0_; have h8 : cF _ _ = _ := hE_262; omega
                                      have lE_262 : E_155 + 1 ≤ E_262 := by have h9 := hx_254; have h8 : cF _ _ = _ := hE_262; have h7 : cF _ _ = _ := hG_247; have h6 := hs_249; have h5 := tk_c (f := fr_240) (t := a0_); omega
                                      have g := g.more hF_258
                                      refine lv_aload_n hx hb dX14_readOne_348 rfl (lv_at hl 2 rfl) ?_
                                      refine lv_bipush (v := 41) hx hb dX14_readOne_349 (by decide) ?_
                                      have go_ := g
                                      refine g_callEv (As := [.int 41]) (rest := []) ⟨hx, hb, hml, hown, hts⟩ (r_X14_closing l dC dI L kd tys fr_250 H.size g.2.2.2.1 adK adV a0_ ma0_ ka0_ 41 x_256 h_257 x_150 h_151 (g.fcts [0, 2] rfl)) (cwV 1 hts (gV_ t_2492 t_2494 t_120 t_198 t_2495) rfl rfl rfl (by decide +kernel) ⟨(show 8 + 1 ≤ N + 1 + 24 by omega), (show 8 + (2 + 11) + 176 ≤ 60 * (N + 1) + 700 by omega)⟩) (pre3VA g hK hAm ma0_ ka0_ (by decide) (q := (RX14, TX14, 67)) rfl) rfl hl.1 rfl (lv_room (Nat.le_of_ble_eq_true rfl)) dX14_readOne_351 (cl_f hck_0) g hK (by decide) (by decide) (fx' := [(12, 8, q0_, .ref a_224), (12, 58, q0_, .int x_124), (14, 2, a0_, .ref q0_), (14, 16, a0_, .int o_)]) rfl (fun xr_263 fr_263 H locs mxr_263 kxr_263 hp hMr_263 g => ?_) (fun fr_263 H locs hp hMr_263 g => ?_)
                                      · have hG_264 := FR.frame hMr_263 go_.2.2.2.1 mq0_ kq0_ (by decide) (by decide) hG_259
                                        have hG_265 := isV.frame hMr_263 go_.2.2.2.1 mq0_ kq0_ (by decide) (by decide) hG_260
                                        have hG_266 := isN.frame hMr_263 go_.2.2.2.1 ma0_ ka0_ (by decide) (by decide) hG_261
                                        subst hQ
                                        exact leavesX hempty hlocks (fun t ht hW => g_thrX g hK mxr_263 kxr_263 (by omega) ht hW) g.2.2.1.2.2
                                      · obtain ⟨hx_267, h_268, x_269, h_270, x_271, ⟨h_272, rh_272⟩, hF_273⟩ := hp
                                        have hG_274 := FR.frame hMr_263 go_.2.2.2.1 mq0_ kq0_ (by decide) (by decide) hG_259
                                        have hG_275 := isV.frame hMr_263 go_.2.2.2.1 mq0_ kq0_ (by decide) (by decide) hG_260
                                        have hG_276 := isN.frame hMr_263 go_.2.2.2.1 ma0_ ka0_ (by decide) (by decide) hG_261
                                        obtain ⟨E_277, hE_277⟩ : ∃ E : Int, cEq fr_263 a0_ E := ⟨_, rfl⟩
                                        have mxE_277 : E_277 ≤ 1202 := by have h9 := cF_le g ma0_ ka0_; have h8 : cF _ _ = _ := hE_277; omega
                                        have lE_277 : E_262 + 1 ≤ E_277 := by have h9 := hx_267; have h8 : cF _ _ = _ := hE_277; have h7 : cF _ _ = _ := hE_262; omega
                                        have b_278 : bd 0 1200 x_256 := eqX rfl h_257 h_268 (by decide)
                                        have g := g.more hF_273
                                        refine lv_aload_n hx hb dX14_readOne_354 rfl (lv_at hl 2 rfl) ?_
                                        refine lv_bipush (v := 6) hx hb dX14_readOne_355 (by decide) ?_
                                        refine lv_iconst (v := (-1)) hx hb dX14_readOne_357 (by decide) ?_
                                        refine lv_iconst (v := (-1)) hx hb dX14_readOne_358 (by decide) ?_
                                        refine lv_iconst (v := 1) hx hb dX14_readOne_359 (by decide) ?_
                                        have hnb : (V_.n 57).toInt ≤ 2499 := by omega
                                        have go_ := g
                                        refine g_calli (va_runV (As := [.int 6, .int (-1), .int (-1), .int 1]) (rest := []) ⟨hx, hb, hml, hown, hts⟩ (r_X14_node l dC dI L kd tys fr_263 H.size g.2.2.2.1 a0_ ma0_ ka0_ 6 (-1) (-1) 1 q0_ mq0_ kq0_ o_ bo_ V_ hG_275 hnb (g.fcts [4, 5] rfl)) (cwV 4 hts (gV_ t_2480 t_2482 t_117 t_198 t_2483) rfl rfl rfl (by decide +kernel) ⟨(show 0 + 1 ≤ N + 1 + 24 by omega), (show 8 + (6 + 11) + 0 ≤ 60 * (N + 1) + 700 by omega)⟩) (pre3V g hK ma0_ ka0_ (by decide) (q := (RX14, TX14, 67)) rfl) rfl rfl hl.1 rfl (lv_room (Nat.le_of_ble_eq_true rfl)) dX14_readOne_360 (cl_f hck_0)) g hK (by decide) (by decide) (fx' := [(14, 10, a0_, .int x_269), (14, 25, a0_, .int x_271), (12, 8, q0_, .ref a_224), (12, 58, q0_, .int x_124), (14, 2, a0_, .ref q0_), (14, 16, a0_, .int o_)]) rfl (fun r_279 fr_279 H locs hp hMr_279 g => ?_)
                                        obtain ⟨hx_280, hx_281, h_282, x_283, h_284, hF_285⟩ := hp
                                        have hG_286 := isN.frame hMr_279 go_.2.2.2.1 ma0_ ka0_ (by decide) (by decide) hG_276
                                        have hG_287 := cEq.frame hMr_279 go_.2.2.2.1 ma0_ ka0_ (by decide) (by decide) hE_277
                                        have hF_288 := FR.call (mds := []) (mas := []) hG_274 go_ mq0_ kq0_ rfl hx_281
                                        obtain ⟨V_289, hV_290, hN_291⟩ := hx_280
                                        have g := g.more hF_285
                                        refine lv_istore_n (lv' := [(3, .int r_279), (2, .int r_179), (1, .int x_1), (0, .ref a0_)]) hx hb dX14_readOne_363 rfl hl (by decide) rfl (fun ls hl => ?_)
                                        refine lv_aload_n hx hb dX14_readOne_364 rfl (lv_at hl 3 rfl) ?_
                                        refine g_getk (C := RX14) (T := TX14) (N := 67) hx hb hts (mc_ inX14) hown hK g rfl 2 (by decide) rfl (hts _ (List.mem_cons_of_mem _ t_2148)) (fun _ h9 => h9) 5 rfl dX14_readOne_365 ?_
                                        refine g_getr (K := 204) (C := RX12) (T := TX12) (N := 60) hx hb hts (mc_ inX12) hown hK g mq0_ kq0_ (by decide) rfl 50 (by decide) rfl (hts _ (List.mem_cons_of_mem _ t_2004)) (fun _ h9 => h9) rfl dX14_readOne_368 (fun a_292 ma_292 ka_292 g => ?_)
                                        refine lv_iload_n hx hb dX14_readOne_371 rfl (lv_at hl 0 rfl) ?_
                                        refine lv_iload_n hx hb dX14_readOne_372 rfl (lv_at hl 1 rfl) ?_
                                        have gp_293 := g
                                        have go_ := g
                                        refine g_iastX hx hb hK g ma_292 ka_292 (by decide) rfl (in_bd h_282 (by decide)) (bd_sub b_193 (by decide)) (by decide) dX14_readOne_373 (fun f H locs hM_294 u_297 g => ?_)
                                        have hG_295 := isN.frame hM_294 go_.2.2.2.1 ma0_ ka0_ (by decide) (by decide) hG_286
                                        have hG_296 := cEq.frame hM_294 go_.2.2.2.1 ma0_ ka0_ (by decide) (by decide) hG_287
                                        have hV_298 := isV.ui hV_290 gp_293 0 rfl mq0_ kq0_ rfl u_297
                                        have hF_299 := FR.arr hF_288 gp_293 0 rfl mq0_ kq0_ rfl rfl u_297.1
                                        have hN_300 := NN.s50 (v := r_179) hN_291 h_282.1
                                        refine lv_iload_n hx hb dX14_readOne_374 rfl (lv_at hl 0 rfl) ?_
                                        have hf_301 : fin V_ (V_289.ui 50 r_279.toNatClampNeg r_179) r_279 12 o_ := nd_size hN_300 h_282.1 hwf (by decide) (by decide) ho (by decide) ⟨b_193.1, b_193.2⟩
                                        have ho_305 : ((V_289.ui 50 r_279.toNatClampNeg r_179).i 47 r_279.toNatClampNeg).toInt = 6 := (congrArg Int32.toInt (hN_300).2.2.2.1).trans (by decide)
                                        obtain ⟨V_302, hV_303, hf_304, ho_305⟩ : ∃ V1 : PV, isV f q0_ V1 ∧ fin V_ V1 r_279 12 o_ ∧ (V1.i 47 r_279.toNatClampNeg).toInt = 6 := ⟨_, hV_298, hf_301, ho_305⟩
                                        have hf_304n := hf_304.2.2.2
                                        have hx_306 := exN.tr exN.rf hf_304.1
                                        have hv_307 := exN.var hf_304.1 hv_194
                                        have hd_308 := nmd_ex hf_304.1 hd_186
                                        obtain rfl : op_ = x_271 := Int32.toInt_inj.mp (by have h9_0 := bo_; unfold bd at h9_0; have h9_1 := b_157; unfold bd at h9_1; have h9_2 := b_193; unfold bd at h9_2; have h9_3 := h_282; unfold bd at h9_3; have h9_4 := b_141; unfold bd at h9_4; have h9_5 := bx_1; unfold bd at h9_5; have h9_6 := h_125; unfold bd at h9_6; have h9_7 := b_156; unfold bd at h9_7; have h9_8 := b_221; unfold bd at h9_8; have h9_9 := h_151; unfold bd at h9_9; have h9_10 := b_165; unfold bd at h9_10; have h9_11 := bx_166; unfold bd at h9_11; have h9_12 := b_118; unfold bd at h9_12; have h9_13 := h_214; unfold bd at h9_13; have h9_14 := b_238; unfold bd at h9_14; have h9_15 := b_278; unfold bd at h9_15; have h9_16 := h_270; unfold bd at h9_16; have h9_17 := h_272; unfold bd at h9_17; have h9_18 := h_284; unfold bd at h9_18; have h9_19 := h_35; unfold bd at h9_19; have h9_20 := b_226; unfold bd at h9_20; have h9_21 := b_228; unfold bd at h9_21; have h8_0 := kb_0; unfold bd at h8_0; have h8_1 := kb_1; unfold bd at h8_1; have h8_2 := kb_1000; unfold bd at h8_2; have h8_3 := kb_3; unfold bd at h8_3; have h8_4 := kb_m1; unfold bd at h8_4; omega)
                                        have h9c : cF f a0_ = _ := hG_296
                                        subst hQ
                                        exact iretX (v := r_279) hx hb hr (fun t ht hW => g_retX g hK ⟨_, rfl, ⟨⟨_, hV_303, hF_299, hx_306, hf_304.2.1, hf_304.2.2.1, trivial, (by omega), (by omega), (by omega)⟩, x_269, h_270, (g.fcts [3, 2] rfl)⟩⟩ ht hW) g.2.2.1.2.2 dX14_readOne_375 hlocks
                      · have b_309 : bd 1000 1002 r_179 := ⟨h_185.1, h_185.2⟩
                        have hv_310 : varOK V_ r_179 o_.toNatClampNeg := Or.inr (Or.inl h_185)
                        refine lv_istore_n (lv' := [(2, .int r_179), (1, .int x_1), (0, .ref a0_)]) hx hb dX14_readOne_279 rfl hl (by decide) rfl (fun ls hl => ?_)
                        refine lv_aload_n hx hb dX14_readOne_280 rfl (lv_at hl 2 rfl) ?_
                        refine lv_iload_n hx hb dX14_readOne_281 rfl (lv_at hl 0 rfl) ?_
                        refine lv_iconst (v := (-1)) hx hb dX14_readOne_282 (by decide) ?_
                        have kb_m1 : bd (-1) (-1) ((-1) : Int32) := ⟨by decide, by decide⟩
                        refine lv_icmp_eq (tgt := 290) hx hb dX14_readOne_283 (by decide) (fun c_311 => ?_) (fun c_311 => ?_)
                        · have fc_311 := eq_f c_311
                          have b_312 : bd 1000 (-1) r_179 := eqX fc_311 b_309 kb_m1 (by decide)
                          exact bd_no b_312 (by decide)
                        · have fc_311 := neq_f c_311
                          refine lv_iconst (v := 1) hx hb dX14_readOne_286 (by decide) ?_
                          refine lv_goto (tgt := 291) hx hb dX14_readOne_287 (by decide) ?_
                          refine lv_iconst (v := 2) hx hb dX14_readOne_291 (by decide) ?_
                          refine lv_aload_n hx hb dX14_readOne_292 rfl (lv_at hl 2 rfl) ?_
                          refine g_getk (C := RX14) (T := TX14) (N := 67) hx hb hts (mc_ inX14) hown hK g rfl 8 (by decide) rfl (hts _ (List.mem_cons_of_mem _ t_2154)) (fun _ h9 => h9) 2 rfl dX14_readOne_293 ?_
                          have hs_313 := sE_1 g 3 rfl (by have h9_0 := bo_; unfold bd at h9_0; have h9_1 := b_157; unfold bd at h9_1; have h9_2 := b_309; unfold bd at h9_2; have h9_3 := b_141; unfold bd at h9_3; have h9_4 := bx_1; unfold bd at h9_4; have h9_5 := h_125; unfold bd at h9_5; have h9_6 := b_156; unfold bd at h9_6; have h9_7 := h_149; unfold bd at h9_7; have h9_8 := h_151; unfold bd at h9_8; have h9_9 := b_165; unfold bd at h9_9; have h9_10 := bx_166; unfold bd at h9_10; have h9_11 := b_118; unfold bd at h9_11; have h9_12 := h_35; unfold bd at h9_12; have h8_0 := kb_1; unfold bd at h8_0; have h8_1 := kb_3; unfold bd at h8_1; have h8_2 := kb_m1; unfold bd at h8_2; omega)
                          have go_ := g
                          refine g_callEv (As := [.int 1, .int 2, .int x_166]) (rest := []) ⟨hx, hb, hml, hown, hts⟩ (r_X14_need_3 l dC dI L kd tys fr_179 H.size g.2.2.2.1 a0_ ma0_ ka0_ 1 kb_1 2 x_166) (cwV 3 hts (gV_ t_2403 t_2405 t_100 t_198 t_2406) rfl rfl rfl (by decide +kernel) ⟨(show 0 + 1 ≤ N + 1 + 24 by omega), (show 8 + (4 + 11) + 0 ≤ 60 * (N + 1) + 700 by omega)⟩) (pre3V g hK ma0_ ka0_ (by decide) (q := (RX14, TX14, 67)) rfl) rfl hl.1 rfl (lv_room (Nat.le_of_ble_eq_true rfl)) dX14_readOne_296 (cl_f hck_0) g hK (by decide) (by decide) (fx' := [(14, 13, a0_, .long x_176), (14, 12, a0_, .long x_175), (14, 8, a0_, .int x_166), (14, 6, a0_, .int x_158), (14, 10, a0_, .int x_148), (14, 25, a0_, .int x_150), (12, 58, q0_, .int x_124), (14, 2, a0_, .ref q0_), (14, 16, a0_, .int o_)]) rfl (fun xr_314 fr_314 H locs mxr_314 kxr_314 hp hMr_314 g => ?_) (fun fr_314 H locs hp hMr_314 g => ?_)
                          · have hG_315 := FR.frame hMr_314 go_.2.2.2.1 mq0_ kq0_ (by decide) (by decide) hG_181
                            have hG_316 := isV.frame hMr_314 go_.2.2.2.1 mq0_ kq0_ (by decide) (by decide) hG_182
                            have hG_317 := cEq.frame hMr_314 go_.2.2.2.1 ma0_ ka0_ (by decide) (by decide) hG_183
                            have hG_318 := isN.frame hMr_314 go_.2.2.2.1 ma0_ ka0_ (by decide) (by decide) hG_184
                            exact hp.elim
                          · have hG_319 := FR.frame hMr_314 go_.2.2.2.1 mq0_ kq0_ (by decide) (by decide) hG_181
                            have hG_320 := isV.frame hMr_314 go_.2.2.2.1 mq0_ kq0_ (by decide) (by decide) hG_182
                            have hG_321 := cEq.frame hMr_314 go_.2.2.2.1 ma0_ ka0_ (by decide) (by decide) hG_183
                            have hG_322 := isN.frame hMr_314 go_.2.2.2.1 ma0_ ka0_ (by decide) (by decide) hG_184
                            refine lv_aload_n hx hb dX14_readOne_299 rfl (lv_at hl 2 rfl) ?_
                            have hs_323 := sE_1 g 3 rfl (by have h9_0 := bo_; unfold bd at h9_0; have h9_1 := b_157; unfold bd at h9_1; have h9_2 := b_309; unfold bd at h9_2; have h9_3 := b_141; unfold bd at h9_3; have h9_4 := bx_1; unfold bd at h9_4; have h9_5 := h_125; unfold bd at h9_5; have h9_6 := b_156; unfold bd at h9_6; have h9_7 := h_149; unfold bd at h9_7; have h9_8 := h_151; unfold bd at h9_8; have h9_9 := b_165; unfold bd at h9_9; have h9_10 := bx_166; unfold bd at h9_10; have h9_11 := b_118; unfold bd at h9_11; have h9_12 := h_35; unfold bd at h9_12; have h8_0 := kb_1; unfold bd at h8_0; have h8_1 := kb_3; unfold bd at h8_1; have h8_2 := kb_m1; unfold bd at h8_2; omega)
                            have go_ := g
                            refine g_callEv (As := []) (rest := []) ⟨hx, hb, hml, hown, hts⟩ (r_X14_room l dC dI L kd tys fr_314 H.size g.2.2.2.1 a0_ ma0_ ka0_) (cwV 0 hts (gV_ t_2415 t_2417 t_103 t_198 t_2418) rfl rfl rfl (by decide +kernel) ⟨(show 2 + 1 ≤ N + 1 + 24 by omega), (show 8 + (1 + 11) + 45 ≤ 60 * (N + 1) + 700 by omega)⟩) (pre3V g hK ma0_ ka0_ (by decide) (q := (RX14, TX14, 67)) rfl) rfl hl.1 rfl (lv_room (Nat.le_of_ble_eq_true rfl)) dX14_readOne_300 (cl_f hck_0) g hK (by decide) (by decide) (fx' := [(14, 13, a0_, .long x_176), (14, 12, a0_, .long x_175), (14, 8, a0_, .int x_166), (14, 6, a0_, .int x_158), (14, 10, a0_, .int x_148), (14, 25, a0_, .int x_150), (12, 58, q0_, .int x_124), (14, 2, a0_, .ref q0_), (14, 16, a0_, .int o_)]) rfl (fun xr_324 fr_324 H locs mxr_324 kxr_324 hp hMr_324 g => ?_) (fun fr_324 H locs hp hMr_324 g => ?_)
                            · have hG_325 := FR.frame hMr_324 go_.2.2.2.1 mq0_ kq0_ (by decide) (by decide) hG_319
                              have hG_326 := isV.frame hMr_324 go_.2.2.2.1 mq0_ kq0_ (by decide) (by decide) hG_320
                              have hG_327 := cEq.frame hMr_324 go_.2.2.2.1 ma0_ ka0_ (by decide) (by decide) hG_321
                              have hG_328 := isN.frame hMr_324 go_.2.2.2.1 ma0_ ka0_ (by decide) (by decide) hG_322
                              subst hQ
                              exact leavesX hempty hlocks (fun t ht hW => g_thrX g hK mxr_324 kxr_324 (by omega) ht hW) g.2.2.1.2.2
                            · obtain ⟨x_329, h_330, hF_331⟩ := hp
                              have hG_332 := FR.frame hMr_324 go_.2.2.2.1 mq0_ kq0_ (by decide) (by decide) hG_319
                              have hG_333 := isV.frame hMr_324 go_.2.2.2.1 mq0_ kq0_ (by decide) (by decide) hG_320
                              have hG_334 := cEq.frame hMr_324 go_.2.2.2.1 ma0_ ka0_ (by decide) (by decide) hG_321
                              have hG_335 := isN.frame hMr_324 go_.2.2.2.1 ma0_ ka0_ (by decide) (by decide) hG_322
                              have g := g.more hF_331
                              have e_336 := fx_same g 5 0 rfl rfl
                              have b_337 : bd 0 1200 x_148 := eqX (eq_f e_336.symm) h_149 h_330 (by decide)
                              have g := g.sub (fx' := [(14, 13, a0_, .long x_176), (14, 12, a0_, .long x_175), (14, 8, a0_, .int x_166), (14, 6, a0_, .int x_158), (14, 10, a0_, .int x_148), (14, 25, a0_, .int x_150), (12, 58, q0_, .int x_124), (14, 2, a0_, .ref q0_), (14, 16, a0_, .int o_)]) [1, 2, 3, 4, 5, 6, 7, 8, 9] rfl
                              refine lv_aload_n hx hb dX14_readOne_303 rfl (lv_at hl 2 rfl) ?_
                              refine lv_iload_n hx hb dX14_readOne_304 rfl (lv_at hl 0 rfl) ?_
                              refine lv_sipush (v := 1000) hx hb dX14_readOne_305 (by decide) ?_
                              have kb_1000 : bd 1000 1000 (1000 : Int32) := ⟨by decide, by decide⟩
                              refine lv_icmp_ge (tgt := 335) hx hb dX14_readOne_308 (by decide) (fun c_338 => ?_) (fun c_338 => ?_)
                              · have fc_338 := le_f c_338
                                refine lv_iconst (v := 0) hx hb dX14_readOne_335 (by decide) ?_
                                refine lv_iconst (v := 5) hx hb dX14_readOne_336 (by decide) ?_
                                refine lv_aload_n hx hb dX14_readOne_337 rfl (lv_at hl 2 rfl) ?_
                                refine g_getk (C := RX14) (T := TX14) (N := 67) hx hb hts (mc_ inX14) hown hK g rfl 8 (by decide) rfl (hts _ (List.mem_cons_of_mem _ t_2154)) (fun _ h9 => h9) 2 rfl dX14_readOne_338 ?_
                                have hs_339 := sE_1 g 3 rfl (by have h9_0 := bo_; unfold bd at h9_0; have h9_1 := b_157; unfold bd at h9_1; have h9_2 := b_309; unfold bd at h9_2; have h9_3 := b_141; unfold bd at h9_3; have h9_4 := bx_1; unfold bd at h9_4; have h9_5 := h_125; unfold bd at h9_5; have h9_6 := b_156; unfold bd at h9_6; have h9_7 := b_337; unfold bd at h9_7; have h9_8 := h_151; unfold bd at h9_8; have h9_9 := b_165; unfold bd at h9_9; have h9_10 := bx_166; unfold bd at h9_10; have h9_11 := b_118; unfold bd at h9_11; have h9_12 := h_330; unfold bd at h9_12; have h9_13 := h_35; unfold bd at h9_13; have h8_0 := kb_1; unfold bd at h8_0; have h8_1 := kb_1000; unfold bd at h8_1; have h8_2 := kb_3; unfold bd at h8_2; have h8_3 := kb_m1; unfold bd at h8_3; omega)
                                have kb_0 : bd 0 0 (0 : Int32) := ⟨by decide, by decide⟩
                                have go_ := g
                                refine g_callEv (As := [.int 0, .int 5, .int x_166]) (rest := []) ⟨hx, hb, hml, hown, hts⟩ (r_X14_need_2 l dC dI L kd tys fr_324 H.size g.2.2.2.1 a0_ ma0_ ka0_ 0 kb_0 5 x_166) (cwV 3 hts (gV_ t_2403 t_2405 t_100 t_198 t_2406) rfl rfl rfl (by decide +kernel) ⟨(show 1 + 1 ≤ N + 1 + 24 by omega), (show 8 + (4 + 11) + 22 ≤ 60 * (N + 1) + 700 by omega)⟩) (pre3V g hK ma0_ ka0_ (by decide) (q := (RX14, TX14, 67)) rfl) rfl hl.1 rfl (lv_room (Nat.le_of_ble_eq_true rfl)) dX14_readOne_341 (cl_f hck_0) g hK (by decide) (by decide) (fx' := [(14, 13, a0_, .long x_176), (14, 12, a0_, .long x_175), (14, 8, a0_, .int x_166), (14, 6, a0_, .int x_158), (14, 10, a0_, .int x_148), (14, 25, a0_, .int x_150), (12, 58, q0_, .int x_124), (14, 2, a0_, .ref q0_), (14, 16, a0_, .int o_)]) rfl (fun xr_340 fr_340 H locs mxr_340 kxr_340 hp hMr_340 g => ?_) (fun fr_340 H locs hp hMr_340 g => ?_)
                                · have hG_341 := FR.frame hMr_340 go_.2.2.2.1 mq0_ kq0_ (by decide) (by decide) hG_332
                                  have hG_342 := isV.frame hMr_340 go_.2.2.2.1 mq0_ kq0_ (by decide) (by decide) hG_333
                                  have hG_343 := cEq.frame hMr_340 go_.2.2.2.1 ma0_ ka0_ (by decide) (by decide) hG_334
                                  have hG_344 := isN.frame hMr_340 go_.2.2.2.1 ma0_ ka0_ (by decide) (by decide) hG_335
                                  subst hQ
                                  exact leavesX hempty hlocks (fun t ht hW => g_thrX g hK mxr_340 kxr_340 (by omega) ht hW) g.2.2.1.2.2
                                · exact hp.elim
                              · have fc_338 := nle_f c_338
                                have b_345 : bd 1000 999 r_179 := ltL fc_338 b_309 kb_1000 (by decide)
                                exact bd_no b_345 (by decide)
                      · have b_346 : bd 2000 2007 r_179 := ⟨h_185.1, h_185.2⟩
                        have hv_347 : varOK V_ r_179 o_.toNatClampNeg := Or.inr (Or.inr h_185)
                        refine lv_istore_n (lv' := [(2, .int r_179), (1, .int x_1), (0, .ref a0_)]) hx hb dX14_readOne_279 rfl hl (by decide) rfl (fun ls hl => ?_)
                        refine lv_aload_n hx hb dX14_readOne_280 rfl (lv_at hl 2 rfl) ?_
                        refine lv_iload_n hx hb dX14_readOne_281 rfl (lv_at hl 0 rfl) ?_
                        refine lv_iconst (v := (-1)) hx hb dX14_readOne_282 (by decide) ?_
                        have kb_m1 : bd (-1) (-1) ((-1) : Int32) := ⟨by decide, by decide⟩
                        refine lv_icmp_eq (tgt := 290) hx hb dX14_readOne_283 (by decide) (fun c_348 => ?_) (fun c_348 => ?_)
                        · have fc_348 := eq_f c_348
                          have b_349 : bd 2000 (-1) r_179 := eqX fc_348 b_346 kb_m1 (by decide)
                          exact bd_no b_349 (by decide)
                        · have fc_348 := neq_f c_348
                          refine lv_iconst (v := 1) hx hb dX14_readOne_286 (by decide) ?_
                          refine lv_goto (tgt := 291) hx hb dX14_readOne_287 (by decide) ?_
                          refine lv_iconst (v := 2) hx hb dX14_readOne_291 (by decide) ?_
                          refine lv_aload_n hx hb dX14_readOne_292 rfl (lv_at hl 2 rfl) ?_
                          refine g_getk (C := RX14) (T := TX14) (N := 67) hx hb hts (mc_ inX14) hown hK g rfl 8 (by decide) rfl (hts _ (List.mem_cons_of_mem _ t_2154)) (fun _ h9 => h9) 2 rfl dX14_readOne_293 ?_
                          have hs_350 := sE_1 g 3 rfl (by have h9_0 := bo_; unfold bd at h9_0; have h9_1 := b_157; unfold bd at h9_1; have h9_2 := b_346; unfold bd at h9_2; have h9_3 := b_141; unfold bd at h9_3; have h9_4 := bx_1; unfold bd at h9_4; have h9_5 := h_125; unfold bd at h9_5; have h9_6 := b_156; unfold bd at h9_6; have h9_7 := h_149; unfold bd at h9_7; have h9_8 := h_151; unfold bd at h9_8; have h9_9 := b_165; unfold bd at h9_9; have h9_10 := bx_166; unfold bd at h9_10; have h9_11 := b_118; unfold bd at h9_11; have h9_12 := h_35; unfold bd at h9_12; have h8_0 := kb_1; unfold bd at h8_0; have h8_1 := kb_3; unfold bd at h8_1; have h8_2 := kb_m1; unfold bd at h8_2; omega)
                          have go_ := g
                          refine g_callEv (As := [.int 1, .int 2, .int x_166]) (rest := []) ⟨hx, hb, hml, hown, hts⟩ (r_X14_need_3 l dC dI L kd tys fr_179 H.size g.2.2.2.1 a0_ ma0_ ka0_ 1 kb_1 2 x_166) (cwV 3 hts (gV_ t_2403 t_2405 t_100 t_198 t_2406) rfl rfl rfl (by decide +kernel) ⟨(show 0 + 1 ≤ N + 1 + 24 by omega), (show 8 + (4 + 11) + 0 ≤ 60 * (N + 1) + 700 by omega)⟩) (pre3V g hK ma0_ ka0_ (by decide) (q := (RX14, TX14, 67)) rfl) rfl hl.1 rfl (lv_room (Nat.le_of_ble_eq_true rfl)) dX14_readOne_296 (cl_f hck_0) g hK (by decide) (by decide) (fx' := [(14, 13, a0_, .long x_176), (14, 12, a0_, .long x_175), (14, 8, a0_, .int x_166), (14, 6, a0_, .int x_158), (14, 10, a0_, .int x_148), (14, 25, a0_, .int x_150), (12, 58, q0_, .int x_124), (14, 2, a0_, .ref q0_), (14, 16, a0_, .int o_)]) rfl (fun xr_351 fr_351 H locs mxr_351 kxr_351 hp hMr_351 g => ?_) (fun fr_351 H locs hp hMr_351 g => ?_)
                          · have hG_352 := FR.frame hMr_351 go_.2.2.2.1 mq0_ kq0_ (by decide) (by decide) hG_181
                            have hG_353 := isV.frame hMr_351 go_.2.2.2.1 mq0_ kq0_ (by decide) (by decide) hG_182
                            have hG_354 := cEq.frame hMr_351 go_.2.2.2.1 ma0_ ka0_ (by decide) (by decide) hG_183
                            have hG_355 := isN.frame hMr_351 go_.2.2.2.1 ma0_ ka0_ (by decide) (by decide) hG_184
                            exact hp.elim
                          · have hG_356 := FR.frame hMr_351 go_.2.2.2.1 mq0_ kq0_ (by decide) (by decide) hG_181
                            have hG_357 := isV.frame hMr_351 go_.2.2.2.1 mq0_ kq0_ (by decide) (by decide) hG_182
                            have hG_358 := cEq.frame hMr_351 go_.2.2.2.1 ma0_ ka0_ (by decide) (by decide) hG_183
                            have hG_359 := isN.frame hMr_351 go_.2.2.2.1 ma0_ ka0_ (by decide) (by decide) hG_184
                            refine lv_aload_n hx hb dX14_readOne_299 rfl (lv_at hl 2 rfl) ?_
                            have hs_360 := sE_1 g 3 rfl (by have h9_0 := bo_; unfold bd at h9_0; have h9_1 := b_157; unfold bd at h9_1; have h9_2 := b_346; unfold bd at h9_2; have h9_3 := b_141; unfold bd at h9_3; have h9_4 := bx_1; unfold bd at h9_4; have h9_5 := h_125; unfold bd at h9_5; have h9_6 := b_156; unfold bd at h9_6; have h9_7 := h_149; unfold bd at h9_7; have h9_8 := h_151; unfold bd at h9_8; have h9_9 := b_165; unfold bd at h9_9; have h9_10 := bx_166; unfold bd at h9_10; have h9_11 := b_118; unfold bd at h9_11; have h9_12 := h_35; unfold bd at h9_12; have h8_0 := kb_1; unfold bd at h8_0; have h8_1 := kb_3; unfold bd at h8_1; have h8_2 := kb_m1; unfold bd at h8_2; omega)
                            have go_ := g
                            refine g_callEv (As := []) (rest := []) ⟨hx, hb, hml, hown, hts⟩ (r_X14_room l dC dI L kd tys fr_351 H.size g.2.2.2.1 a0_ ma0_ ka0_) (cwV 0 hts (gV_ t_2415 t_2417 t_103 t_198 t_2418) rfl rfl rfl (by decide +kernel) ⟨(show 2 + 1 ≤ N + 1 + 24 by omega), (show 8 + (1 + 11) + 45 ≤ 60 * (N + 1) + 700 by omega)⟩) (pre3V g hK ma0_ ka0_ (by decide) (q := (RX14, TX14, 67)) rfl) rfl hl.1 rfl (lv_room (Nat.le_of_ble_eq_true rfl)) dX14_readOne_300 (cl_f hck_0) g hK (by decide) (by decide) (fx' := [(14, 13, a0_, .long x_176), (14, 12, a0_, .long x_175), (14, 8, a0_, .int x_166), (14, 6, a0_, .int x_158), (14, 10, a0_, .int x_148), (14, 25, a0_, .int x_150), (12, 58, q0_, .int x_124), (14, 2, a0_, .ref q0_), (14, 16, a0_, .int o_)]) rfl (fun xr_361 fr_361 H locs mxr_361 kxr_361 hp hMr_361 g => ?_) (fun fr_361 H locs hp hMr_361 g => ?_)
                            · have hG_362 := FR.frame hMr_361 go_.2.2.2.1 mq0_ kq0_ (by decide) (by decide) hG_356
                              have hG_363 := isV.frame hMr_361 go_.2.2.2.1 mq0_ kq0_ (by decide) (by decide) hG_357
                              have hG_364 := cEq.frame hMr_361 go_.2.2.2.1 ma0_ ka0_ (by decide) (by decide) hG_358
                              have hG_365 := isN.frame hMr_361 go_.2.2.2.1 ma0_ ka0_ (by decide) (by decide) hG_359
                              subst hQ
                              exact leavesX hempty hlocks (fun t ht hW => g_thrX g hK mxr_361 kxr_361 (by omega) ht hW) g.2.2.1.2.2
                            · obtain ⟨x_366, h_367, hF_368⟩ := hp
                              have hG_369 := FR.frame hMr_361 go_.2.2.2.1 mq0_ kq0_ (by decide) (by decide) hG_356
                              have hG_370 := isV.frame hMr_361 go_.2.2.2.1 mq0_ kq0_ (by decide) (by decide) hG_357
                              have hG_371 := cEq.frame hMr_361 go_.2.2.2.1 ma0_ ka0_ (by decide) (by decide) hG_358
                              have hG_372 := isN.frame hMr_361 go_.2.2.2.1 ma0_ ka0_ (by decide) (by decide) hG_359
                              have g := g.more hF_368
                              have e_373 := fx_same g 5 0 rfl rfl
                              have b_374 : bd 0 1200 x_148 := eqX (eq_f e_373.symm) h_149 h_367 (by decide)
                              have g := g.sub (fx' := [(14, 13, a0_, .long x_176), (14, 12, a0_, .long x_175), (14, 8, a0_, .int x_166), (14, 6, a0_, .int x_158), (14, 10, a0_, .int x_148), (14, 25, a0_, .int x_150), (12, 58, q0_, .int x_124), (14, 2, a0_, .ref q0_), (14, 16, a0_, .int o_)]) [1, 2, 3, 4, 5, 6, 7, 8, 9] rfl
                              refine lv_aload_n hx hb dX14_readOne_303 rfl (lv_at hl 2 rfl) ?_
                              refine lv_iload_n hx hb dX14_readOne_304 rfl (lv_at hl 0 rfl) ?_
                              refine lv_sipush (v := 1000) hx hb dX14_readOne_305 (by decide) ?_
                              have kb_1000 : bd 1000 1000 (1000 : Int32) := ⟨by decide, by decide⟩
                              refine lv_icmp_ge (tgt := 335) hx hb dX14_readOne_308 (by decide) (fun c_375 => ?_) (fun c_375 => ?_)
                              · have fc_375 := le_f c_375
                                refine lv_iconst (v := 0) hx hb dX14_readOne_335 (by decide) ?_
                                refine lv_iconst (v := 5) hx hb dX14_readOne_336 (by decide) ?_
                                refine lv_aload_n hx hb dX14_readOne_337 rfl (lv_at hl 2 rfl) ?_
                                refine g_getk (C := RX14) (T := TX14) (N := 67) hx hb hts (mc_ inX14) hown hK g rfl 8 (by decide) rfl (hts _ (List.mem_cons_of_mem _ t_2154)) (fun _ h9 => h9) 2 rfl dX14_readOne_338 ?_
                                have hs_376 := sE_1 g 3 rfl (by have h9_0 := bo_; unfold bd at h9_0; have h9_1 := b_157; unfold bd at h9_1; have h9_2 := b_346; unfold bd at h9_2; have h9_3 := b_141; unfold bd at h9_3; have h9_4 := bx_1; unfold bd at h9_4; have h9_5 := h_125; unfold bd at h9_5; have h9_6 := b_156; unfold bd at h9_6; have h9_7 := b_374; unfold bd at h9_7; have h9_8 := h_151; unfold bd at h9_8; have h9_9 := b_165; unfold bd at h9_9; have h9_10 := bx_166; unfold bd at h9_10; have h9_11 := b_118; unfold bd at h9_11; have h9_12 := h_35; unfold bd at h9_12; have h9_13 := h_367; unfold bd at h9_13; have h8_0 := kb_1; unfold bd at h8_0; have h8_1 := kb_1000; unfold bd at h8_1; have h8_2 := kb_3; unfold bd at h8_2; have h8_3 := kb_m1; unfold bd at h8_3; omega)
                                have kb_0 : bd 0 0 (0 : Int32) := ⟨by decide, by decide⟩
                                have go_ := g
                                refine g_callEv (As := [.int 0, .int 5, .int x_166]) (rest := []) ⟨hx, hb, hml, hown, hts⟩ (r_X14_need_2 l dC dI L kd tys fr_361 H.size g.2.2.2.1 a0_ ma0_ ka0_ 0 kb_0 5 x_166) (cwV 3 hts (gV_ t_2403 t_2405 t_100 t_198 t_2406) rfl rfl rfl (by decide +kernel) ⟨(show 1 + 1 ≤ N + 1 + 24 by omega), (show 8 + (4 + 11) + 22 ≤ 60 * (N + 1) + 700 by omega)⟩) (pre3V g hK ma0_ ka0_ (by decide) (q := (RX14, TX14, 67)) rfl) rfl hl.1 rfl (lv_room (Nat.le_of_ble_eq_true rfl)) dX14_readOne_341 (cl_f hck_0) g hK (by decide) (by decide) (fx' := [(14, 13, a0_, .long x_176), (14, 12, a0_, .long x_175), (14, 8, a0_, .int x_166), (14, 6, a0_, .int x_158), (14, 10, a0_, .int x_148), (14, 25, a0_, .int x_150), (12, 58, q0_, .int x_124), (14, 2, a0_, .ref q0_), (14, 16, a0_, .int o_)]) rfl (fun xr_377 fr_377 H locs mxr_377 kxr_377 hp hMr_377 g => ?_) (fun fr_377 H locs hp hMr_377 g => ?_)
                                · have hG_378 := FR.frame hMr_377 go_.2.2.2.1 mq0_ kq0_ (by decide) (by decide) hG_369
                                  have hG_379 := isV.frame hMr_377 go_.2.2.2.1 mq0_ kq0_ (by decide) (by decide) hG_370
                                  have hG_380 := cEq.frame hMr_377 go_.2.2.2.1 ma0_ ka0_ (by decide) (by decide) hG_371
                                  have hG_381 := isN.frame hMr_377 go_.2.2.2.1 ma0_ ka0_ (by decide) (by decide) hG_372
                                  subst hQ
                                  exact leavesX hempty hlocks (fun t ht hW => g_thrX g hK mxr_377 kxr_377 (by omega) ht hW) g.2.2.1.2.2
                                · exact hp.elim
                              · have fc_375 := nle_f c_375
                                have b_382 : bd 2000 999 r_179 := ltL fc_375 b_346 kb_1000 (by decide)
                                exact bd_no b_382 (by decide)
        · have hG_383 := isV.frame hMr_22 go_.2.2.2.1 mq0_ kq0_ (by decide) (by decide) hG_19
          have hG_384 := FR.frame hMr_22 go_.2.2.2.1 mq0_ kq0_ (by decide) (by decide) hG_20
          have hG_385 := cEq.frame hMr_22 go_.2.2.2.1 ma0_ ka0_ (by decide) (by decide) hG_21
          obtain rfl : r_22 = 1 := h_24
          have g := g.more hF_27
          have e_386 := fx_same g 1 0 rfl rfl
          have b_387 : bd 2 2 x_2 := eqX (eq_f e_386.symm) bx_2 h_26 (by decide)
          have g := g.sub (fx' := [(14, 6, a0_, .int x_2), (14, 8, a0_, .int x_1), (14, 2, a0_, .ref q0_), (14, 16, a0_, .int o_), (14, 25, a0_, .int op_), (14, 10, a0_, .int t_)]) [1, 2, 3, 4, 5, 6] rfl
          refine lv_if_eq (tgt := 222) hx hb dX14_readOne_94 (by decide) (fun c_ => absurd c_ (by decide)) (fun c_ => ?_)
          refine lv_aload_n hx hb dX14_readOne_97 rfl (lv_at hl 1 rfl) ?_
          refine lv_aload_n hx hb dX14_readOne_98 rfl (lv_at hl 1 rfl) ?_
          refine g_geti (C := RX14) (T := TX14) (N := 67) hx hb hts (mc_ inX14) hown hK g ma0_ ka0_ (by decide) rfl 23 (by decide) rfl (hts _ (List.mem_cons_of_mem _ t_2169)) (fun _ h9 => h9) rfl dX14_readOne_99 (fun x_388 bx_388 g => ?_)
          refine lv_iconst (v := 1) hx hb dX14_readOne_102 (by decide) ?_
          refine lv_aload_n hx hb dX14_readOne_103 rfl (lv_at hl 1 rfl) ?_
          refine g_getk (C := RX14) (T := TX14) (N := 67) hx hb hts (mc_ inX14) hown hK g rfl 8 (by decide) rfl (hts _ (List.mem_cons_of_mem _ t_2154)) (fun _ h9 => h9) 2 rfl dX14_readOne_104 ?_
          have hs_389 := sE_1 g 1 rfl (by have h9_0 := bo_; unfold bd at h9_0; have h9_1 := bop_; unfold bd at h9_1; have h9_2 := bt_; unfold bd at h9_2; have h9_3 := bx_1; unfold bd at h9_3; have h9_4 := b_387; unfold bd at h9_4; have h9_5 := h_26; unfold bd at h9_5; have h9_6 := bx_388; unfold bd at h9_6; have h8_0 := kb_3; unfold bd at h8_0; omega)
          have go_ := g
          refine g_callEv (As := [.int x_388, .int 1, .int x_1]) (rest := []) ⟨hx, hb, hml, hown, hts⟩ (r_X14_need_4 l dC dI L kd tys fr_22 H.size g.2.2.2.1 a0_ ma0_ ka0_ x_388 bx_388 1 x_1) (cwV 3 hts (gV_ t_2403 t_2405 t_100 t_198 t_2406) rfl rfl rfl (by decide +kernel) ⟨(show 1 + 1 ≤ N + 1 + 24 by omega), (show 8 + (4 + 11) + 22 ≤ 60 * (N + 1) + 700 by omega)⟩) (pre3V g hK ma0_ ka0_ (by decide) (q := (RX14, TX14, 67)) rfl) rfl hl.1 rfl (lv_room (Nat.le_of_ble_eq_true rfl)) dX14_readOne_107 (cl_f hck_0) g hK (by decide) (by decide) (fx' := [(14, 23, a0_, .int x_388), (14, 6, a0_, .int x_2), (14, 8, a0_, .int x_1), (14, 2, a0_, .ref q0_), (14, 16, a0_, .int o_), (14, 25, a0_, .int op_), (14, 10, a0_, .int t_)]) rfl (fun xr_390 fr_390 H locs mxr_390 kxr_390 hp hMr_390 g => ?_) (fun fr_390 H locs hp hMr_390 g => ?_)
          · have hG_391 := isV.frame hMr_390 go_.2.2.2.1 mq0_ kq0_ (by decide) (by decide) hG_383
            have hG_392 := FR.frame hMr_390 go_.2.2.2.1 mq0_ kq0_ (by decide) (by decide) hG_384
            have hG_393 := cEq.frame hMr_390 go_.2.2.2.1 ma0_ ka0_ (by decide) (by decide) hG_385
            subst hQ
            exact leavesX hempty hlocks (fun t ht hW => g_thrX g hK mxr_390 kxr_390 (by omega) ht hW) g.2.2.1.2.2
          · obtain ⟨h_394, -⟩ := hp
            have hG_395 := isV.frame hMr_390 go_.2.2.2.1 mq0_ kq0_ (by decide) (by decide) hG_383
            have hG_396 := FR.frame hMr_390 go_.2.2.2.1 mq0_ kq0_ (by decide) (by decide) hG_384
            have hG_397 := cEq.frame hMr_390 go_.2.2.2.1 ma0_ ka0_ (by decide) (by decide) hG_385
            have b_398 : bd 1 1 x_388 := eqX rfl bx_388 h_394 (by decide)
            refine lv_aload_n hx hb dX14_readOne_110 rfl (lv_at hl 1 rfl) ?_
            have hs_399 := sE_1 g 1 rfl (by have h9_0 := bo_; unfold bd at h9_0; have h9_1 := bop_; unfold bd at h9_1; have h9_2 := bt_; unfold bd at h9_2; have h9_3 := bx_1; unfold bd at h9_3; have h9_4 := b_387; unfold bd at h9_4; have h9_5 := h_26; unfold bd at h9_5; have h9_6 := b_398; unfold bd at h9_6; have h8_0 := kb_3; unfold bd at h8_0; omega)
            have go_ := g
            refine g_callEv (As := []) (rest := []) ⟨hx, hb, hml, hown, hts⟩ (r_X14_counts_2 l dC dI L kd tys fr_390 H.size g.2.2.2.1 a0_ ma0_ ka0_ q0_ mq0_ kq0_ V_ hG_395 (g.fcts [3] rfl)) (cwV 0 hts (gV_ t_2476 t_2478 t_116 t_198 t_2479) rfl rfl rfl (by decide +kernel) ⟨(show 2 + 1 ≤ N + 1 + 24 by omega), (show 8 + (1 + 11) + 45 ≤ 60 * (N + 1) + 700 by omega)⟩) (pre3V g hK ma0_ ka0_ (by decide) (q := (RX14, TX14, 67)) rfl) rfl hl.1 rfl (lv_room (Nat.le_of_ble_eq_true rfl)) dX14_readOne_111 (cl_f hck_0) g hK (by decide) (by decide) (fx' := [(14, 23, a0_, .int x_388), (14, 6, a0_, .int x_2), (14, 8, a0_, .int x_1), (14, 2, a0_, .ref q0_), (14, 16, a0_, .int o_), (14, 25, a0_, .int op_), (14, 10, a0_, .int t_)]) rfl (fun xr_400 fr_400 H locs mxr_400 kxr_400 hp hMr_400 g => ?_) (fun fr_400 H locs hp hMr_400 g => ?_)
            · have hG_401 := cEq.frame hMr_400 go_.2.2.2.1 ma0_ ka0_ (by decide) (by decide) hG_397
              subst hQ
              exact leavesX hempty hlocks (fun t ht hW => g_thrX g hK mxr_400 kxr_400 (by omega) ht hW) g.2.2.1.2.2
            · obtain ⟨hx_402, hx_403, x_404, h_405, hF_406⟩ := hp
              have hG_407 := cEq.frame hMr_400 go_.2.2.2.1 ma0_ ka0_ (by decide) (by decide) hG_397
              have hF_408 := FR.call (mds := []) (mas := []) hG_396 go_ mq0_ kq0_ rfl hx_403
              have g := g.more hF_406
              refine lv_aload_n hx hb dX14_readOne_114 rfl (lv_at hl 1 rfl) ?_
              refine lv_bipush (v := 19) hx hb dX14_readOne_115 (by decide) ?_
              have hs_409 := sE_1 g 2 rfl (by have h9_0 := bo_; unfold bd at h9_0; have h9_1 := bop_; unfold bd at h9_1; have h9_2 := bt_; unfold bd at h9_2; have h9_3 := bx_1; unfold bd at h9_3; have h9_4 := b_387; unfold bd at h9_4; have h9_5 := h_26; unfold bd at h9_5; have h9_6 := b_398; unfold bd at h9_6; have h9_7 := h_405; unfold bd at h9_7; have h8_0 := kb_3; unfold bd at h8_0; omega)
              have go_ := g
              refine g_callEi (As := [.int 19]) (rest := []) ⟨hx, hb, hml, hown, hts⟩ (r_X14_takes_2 l dC dI L kd tys fr_400 H.size g.2.2.2.1 adK adV a0_ ma0_ ka0_ 19 t_ bt_ (g.fcts [7] rfl)) (cwV 1 hts (gV_ t_2423 t_2425 t_105 t_198 t_2426) rfl rfl rfl (by decide +kernel) ⟨(show 7 + 1 ≤ N + 1 + 24 by omega), (show 8 + (3 + 11) + 155 ≤ 60 * (N + 1) + 700 by omega)⟩) (pre3VA g hK hAm ma0_ ka0_ (by decide) (q := (RX14, TX14, 67)) rfl) rfl hl.1 rfl (lv_room (Nat.le_of_ble_eq_true rfl)) dX14_readOne_117 (cl_f hck_0) g hK (by decide) (by decide) (fx' := [(12, 58, q0_, .int x_404), (14, 23, a0_, .int x_388), (14, 2, a0_, .ref q0_), (14, 16, a0_, .int o_), (14, 25, a0_, .int op_)]) rfl (fun xr_410 fr_410 H locs mxr_410 kxr_410 hp hMr_410 g => ?_) (fun r_410 fr_410 H locs hp hMr_410 g => ?_)
              · have hG_411 := FR.frame hMr_410 go_.2.2.2.1 mq0_ kq0_ (by decide) (by decide) hF_408
                have hG_412 := isV.frame hMr_410 go_.2.2.2.1 mq0_ kq0_ (by decide) (by decide) hx_402
                subst hQ
                exact leavesX hempty hlocks (fun t ht hW => g_thrX g hK mxr_410 kxr_410 (by omega) ht hW) g.2.2.1.2.2
              · rcases hp with ⟨hx_413, h_414, hF_415⟩ | ⟨hx_416, h_417, h_418, x_419, h_420, hF_421⟩
                · have hG_422 := FR.frame hMr_410 go_.2.2.2.1 mq0_ kq0_ (by decide) (by decide) hF_408
                  have hG_423 := isV.frame hMr_410 go_.2.2.2.1 mq0_ kq0_ (by decide) (by decide) hx_402
                  obtain rfl : r_410 = 0 := h_414
                  obtain ⟨E_424, hE_424⟩ : ∃ E : Int, cEq fr_410 a0_ E := ⟨_, rfl⟩
                  have mxE_424 : E_424 ≤ 1202 := by have h9 := cF_le g ma0_ ka0_; have h8 : cF _ _ = _ := hE_424; omega
                  have lE_424 : (cF f0 a0_) = E_424 := by have h9 := hx_413; have h8 : cF _ _ = _ := hE_424; have h7 : cF _ _ = _ := hG_407; omega
                  have g := g.more hF_415
                  refine lv_if_eq (tgt := 132) hx hb dX14_readOne_120 (by decide) (fun c_ => ?_) (fun c_ => absurd (by decide) c_)
                  refine lv_aload_n hx hb dX14_readOne_132 rfl (lv_at hl 1 rfl) ?_
                  have go_ := g
                  refine g_callEv (As := []) (rest := []) ⟨hx, hb, hml, hown, hts⟩ (r_X14_next_2 l dC dI L kd tys fr_410 H.size g.2.2.2.1 adK adV a0_ ma0_ ka0_ t_ bt_ (g.fcts [0] rfl)) (cwV 0 hts (gV_ t_2411 t_2413 t_102 t_198 t_2414) rfl rfl rfl (by decide +kernel) ⟨(show 6 + 1 ≤ N + 1 + 24 by omega), (show 8 + (1 + 11) + 135 ≤ 60 * (N + 1) + 700 by omega)⟩) (pre3VA g hK hAm ma0_ ka0_ (by decide) (q := (RX14, TX14, 67)) rfl) rfl hl.1 rfl (lv_room (Nat.le_of_ble_eq_true rfl)) dX14_readOne_133 (cl_f hck_0) g hK (by decide) (by decide) (fx' := [(12, 58, q0_, .int x_404), (14, 23, a0_, .int x_388), (14, 2, a0_, .ref q0_), (14, 16, a0_, .int o_), (14, 25, a0_, .int op_)]) rfl (fun xr_425 fr_425 H locs mxr_425 kxr_425 hp hMr_425 g => ?_) (fun fr_425 H locs hp hMr_425 g => ?_)
                  · have hG_426 := FR.frame hMr_425 go_.2.2.2.1 mq0_ kq0_ (by decide) (by decide) hG_422
                    have hG_427 := isV.frame hMr_425 go_.2.2.2.1 mq0_ kq0_ (by decide) (by decide) hG_423
                    subst hQ
                    exact leavesX hempty hlocks (fun t ht hW => g_thrX g hK mxr_425 kxr_425 (by omega) ht hW) g.2.2.1.2.2
                  · obtain ⟨hx_428, h_429, x_430, h_431, hF_432⟩ := hp
                    have hG_433 := FR.frame hMr_425 go_.2.2.2.1 mq0_ kq0_ (by decide) (by decide) hG_422
                    have hG_434 := isV.frame hMr_425 go_.2.2.2.1 mq0_ kq0_ (by decide) (by decide) hG_423
                    obtain ⟨E_435, hE_435⟩ : ∃ E : Int, cEq fr_425 a0_ E := ⟨_, rfl⟩
                    have mxE_435 : E_435 ≤ 1202 := by have h9 := cF_le g ma0_ ka0_; have h8 : cF _ _ = _ := hE_435; omega
                    have lE_435 : E_424 ≤ E_435 := by have h9 := hx_428; have h8 : cF _ _ = _ := hE_435; have h7 : cF _ _ = _ := hE_424; have h6 := sE_bd (f := fr_410) (t := a0_); have h5 := tk_c (f := fr_410) (t := a0_); omega
                    have b_436 : bd 0 1200 t_ := eqX rfl bt_ h_429 (by decide)
                    have g := g.more hF_432
                    refine lv_aload_n hx hb dX14_readOne_136 rfl (lv_at hl 1 rfl) ?_
                    refine lv_bipush (v := 40) hx hb dX14_readOne_137 (by decide) ?_
                    have go_ := g
                    refine g_callEv (As := [.int 40]) (rest := []) ⟨hx, hb, hml, hown, hts⟩ (r_X14_opening_2 l dC dI L kd tys fr_425 H.size g.2.2.2.1 adK adV a0_ ma0_ ka0_ 40 x_430 h_431 op_ bop_ (g.fcts [0, 5] rfl)) (cwV 1 hts (gV_ t_2484 t_2486 t_118 t_198 t_2487) rfl rfl rfl (by decide +kernel) ⟨(show 7 + 1 ≤ N + 1 + 24 by omega), (show 8 + (2 + 11) + 155 ≤ 60 * (N + 1) + 700 by omega)⟩) (pre3VA g hK hAm ma0_ ka0_ (by decide) (q := (RX14, TX14, 67)) rfl) rfl hl.1 rfl (lv_room (Nat.le_of_ble_eq_true rfl)) dX14_readOne_139 (cl_f hck_0) g hK (by decide) (by decide) (fx' := [(12, 58, q0_, .int x_404), (14, 23, a0_, .int x_388), (14, 2, a0_, .ref q0_), (14, 16, a0_, .int o_)]) rfl (fun xr_437 fr_437 H locs mxr_437 kxr_437 hp hMr_437 g => ?_) (fun fr_437 H locs hp hMr_437 g => ?_)
                    · have hG_438 := FR.frame hMr_437 go_.2.2.2.1 mq0_ kq0_ (by decide) (by decide) hG_433
                      have hG_439 := isV.frame hMr_437 go_.2.2.2.1 mq0_ kq0_ (by decide) (by decide) hG_434
                      subst hQ
                      exact leavesX hempty hlocks (fun t ht hW => g_thrX g hK mxr_437 kxr_437 (by omega) ht hW) g.2.2.1.2.2
                    · obtain ⟨hx_440, h_441, h_442, x_443, h_444, x_445, ⟨h_446, rh_446⟩, hF_447⟩ := hp
                      have hG_448 := FR.frame hMr_437 go_.2.2.2.1 mq0_ kq0_ (by decide) (by decide) hG_433
                      have hG_449 := isV.frame hMr_437 go_.2.2.2.1 mq0_ kq0_ (by decide) (by decide) hG_434
                      obtain ⟨E_450, hE_450⟩ : ∃ E : Int, cEq fr_437 a0_ E := ⟨_, rfl⟩
                      have mxE_450 : E_450 ≤ 1202 := by have h9 := cF_le g ma0_ ka0_; have h8 : cF _ _ = _ := hE_450; omega
                      have lE_450 : E_435 + 1 ≤ E_450 := by have h9 := hx_440; have h8 : cF _ _ = _ := hE_450; have h7 : cF _ _ = _ := hE_435; omega
                      have b_451 : bd 0 1200 x_430 := eqX rfl h_431 h_441 (by decide)
                      have b_452 : bd 0 39 op_ := eqX rfl bop_ h_442 (by decide)
                      have g := g.more hF_447
                      refine lv_aload_n hx hb dX14_readOne_142 rfl (lv_at hl 1 rfl) ?_
                      refine lv_aload_n hx hb dX14_readOne_143 rfl (lv_at hl 1 rfl) ?_
                      refine g_geti (C := RX14) (T := TX14) (N := 67) hx hb hts (mc_ inX14) hown hK g ma0_ ka0_ (by decide) rfl 6 (by decide) rfl (hts _ (List.mem_cons_of_mem _ t_2152)) (fun _ h9 => h9) rfl dX14_readOne_144 (fun x_453 bx_453 g => ?_)
                      refine lv_iconst (v := 1) hx hb dX14_readOne_147 (by decide) ?_
                      have kb_1 : bd 1 1 (1 : Int32) := ⟨by decide, by decide⟩
                      refine lv_icmp_ne (tgt := 155) hx hb dX14_readOne_148 (by decide) (fun c_454 => ?_) (fun c_454 => ?_)
                      · have fc_454 := neq_f c_454
                        refine lv_iconst (v := 0) hx hb dX14_readOne_155 (by decide) ?_
                        refine lv_iconst (v := 1) hx hb dX14_readOne_156 (by decide) ?_
                        refine lv_aload_n hx hb dX14_readOne_157 rfl (lv_at hl 1 rfl) ?_
                        refine g_geti (C := RX14) (T := TX14) (N := 67) hx hb hts (mc_ inX14) hown hK g ma0_ ka0_ (by decide) rfl 8 (by decide) rfl (hts _ (List.mem_cons_of_mem _ t_2154)) (fun _ h9 => h9) rfl dX14_readOne_158 (fun x_455 bx_455 g => ?_)
                        have kb_0 : bd 0 0 (0 : Int32) := ⟨by decide, by decide⟩
                        have go_ := g
                        refine g_callEv (As := [.int 0, .int 1, .int x_455]) (rest := []) ⟨hx, hb, hml, hown, hts⟩ (r_X14_need_2 l dC dI L kd tys fr_437 H.size g.2.2.2.1 a0_ ma0_ ka0_ 0 kb_0 1 x_455) (cwV 3 hts (gV_ t_2403 t_2405 t_100 t_198 t_2406) rfl rfl rfl (by decide +kernel) ⟨(show 1 + 1 ≤ N + 1 + 24 by omega), (show 8 + (4 + 11) + 22 ≤ 60 * (N + 1) + 700 by omega)⟩) (pre3V g hK ma0_ ka0_ (by decide) (q := (RX14, TX14, 67)) rfl) rfl hl.1 rfl (lv_room (Nat.le_of_ble_eq_true rfl)) dX14_readOne_161 (cl_f hck_0) g hK (by decide) (by decide) (fx' := [(14, 8, a0_, .int x_455), (14, 6, a0_, .int x_453), (14, 10, a0_, .int x_443), (14, 25, a0_, .int x_445), (12, 58, q0_, .int x_404), (14, 23, a0_, .int x_388), (14, 2, a0_, .ref q0_), (14, 16, a0_, .int o_)]) rfl (fun xr_456 fr_456 H locs mxr_456 kxr_456 hp hMr_456 g => ?_) (fun fr_456 H locs hp hMr_456 g => ?_)
                        · have hG_457 := FR.frame hMr_456 go_.2.2.2.1 mq0_ kq0_ (by decide) (by decide) hG_448
                          have hG_458 := isV.frame hMr_456 go_.2.2.2.1 mq0_ kq0_ (by decide) (by decide) hG_449
                          have hG_459 := cEq.frame hMr_456 go_.2.2.2.1 ma0_ ka0_ (by decide) (by decide) hE_450
                          subst hQ
                          exact leavesX hempty hlocks (fun t ht hW => g_thrX g hK mxr_456 kxr_456 (by omega) ht hW) g.2.2.1.2.2
                        · exact hp.elim
                      · have fc_454 := eq_f c_454
                        have b_460 : bd 1 1 x_453 := eqX fc_454 bx_453 kb_1 (by decide)
                        refine lv_iconst (v := 1) hx hb dX14_readOne_151 (by decide) ?_
                        refine lv_goto (tgt := 156) hx hb dX14_readOne_152 (by decide) ?_
                        refine lv_iconst (v := 1) hx hb dX14_readOne_156 (by decide) ?_
                        refine lv_aload_n hx hb dX14_readOne_157 rfl (lv_at hl 1 rfl) ?_
                        refine g_geti (C := RX14) (T := TX14) (N := 67) hx hb hts (mc_ inX14) hown hK g ma0_ ka0_ (by decide) rfl 8 (by decide) rfl (hts _ (List.mem_cons_of_mem _ t_2154)) (fun _ h9 => h9) rfl dX14_readOne_158 (fun x_461 bx_461 g => ?_)
                        have hs_462 := sE_1 g 1 rfl (by have h9_0 := bo_; unfold bd at h9_0; have h9_1 := b_452; unfold bd at h9_1; have h9_2 := b_436; unfold bd at h9_2; have h9_3 := bx_1; unfold bd at h9_3; have h9_4 := b_387; unfold bd at h9_4; have h9_5 := h_26; unfold bd at h9_5; have h9_6 := b_398; unfold bd at h9_6; have h9_7 := h_405; unfold bd at h9_7; have h9_8 := b_451; unfold bd at h9_8; have h9_9 := h_444; unfold bd at h9_9; have h9_10 := h_446; unfold bd at h9_10; have h9_11 := b_460; unfold bd at h9_11; have h9_12 := bx_461; unfold bd at h9_12; have h8_0 := kb_1; unfold bd at h8_0; have h8_1 := kb_3; unfold bd at h8_1; omega)
                        have go_ := g
                        refine g_callEv (As := [.int 1, .int 1, .int x_461]) (rest := []) ⟨hx, hb, hml, hown, hts⟩ (r_X14_need_3 l dC dI L kd tys fr_437 H.size g.2.2.2.1 a0_ ma0_ ka0_ 1 kb_1 1 x_461) (cwV 3 hts (gV_ t_2403 t_2405 t_100 t_198 t_2406) rfl rfl rfl (by decide +kernel) ⟨(show 0 + 1 ≤ N + 1 + 24 by omega), (show 8 + (4 + 11) + 0 ≤ 60 * (N + 1) + 700 by omega)⟩) (pre3V g hK ma0_ ka0_ (by decide) (q := (RX14, TX14, 67)) rfl) rfl hl.1 rfl (lv_room (Nat.le_of_ble_eq_true rfl)) dX14_readOne_161 (cl_f hck_0) g hK (by decide) (by decide) (fx' := [(14, 8, a0_, .int x_461), (14, 6, a0_, .int x_453), (14, 10, a0_, .int x_443), (14, 25, a0_, .int x_445), (12, 58, q0_, .int x_404), (14, 23, a0_, .int x_388), (14, 2, a0_, .ref q0_), (14, 16, a0_, .int o_)]) rfl (fun xr_463 fr_463 H locs mxr_463 kxr_463 hp hMr_463 g => ?_) (fun fr_463 H locs hp hMr_463 g => ?_)
                        · have hG_464 := FR.frame hMr_463 go_.2.2.2.1 mq0_ kq0_ (by decide) (by decide) hG_448
                          have hG_465 := isV.frame hMr_463 go_.2.2.2.1 mq0_ kq0_ (by decide) (by decide) hG_449
                          have hG_466 := cEq.frame hMr_463 go_.2.2.2.1 ma0_ ka0_ (by decide) (by decide) hE_450
                          exact hp.elim
                        · have hG_467 := FR.frame hMr_463 go_.2.2.2.1 mq0_ kq0_ (by decide) (by decide) hG_448
                          have hG_468 := isV.frame hMr_463 go_.2.2.2.1 mq0_ kq0_ (by decide) (by decide) hG_449
                          have hG_469 := cEq.frame hMr_463 go_.2.2.2.1 ma0_ ka0_ (by decide) (by decide) hE_450
                          refine lv_aload_n hx hb dX14_readOne_164 rfl (lv_at hl 1 rfl) ?_
                          refine lv_iconst (v := 1) hx hb dX14_readOne_165 (by decide) ?_
                          refine lv_iconst (v := 1) hx hb dX14_readOne_166 (by decide) ?_
                          have qc__470 : cF fr_463 a0_ = _ := hG_469
                          have hs_471 := sE_1 g 1 rfl (by have h9_0 := bo_; unfold bd at h9_0; have h9_1 := b_452; unfold bd at h9_1; have h9_2 := b_436; unfold bd at h9_2; have h9_3 := bx_1; unfold bd at h9_3; have h9_4 := b_387; unfold bd at h9_4; have h9_5 := h_26; unfold bd at h9_5; have h9_6 := b_398; unfold bd at h9_6; have h9_7 := h_405; unfold bd at h9_7; have h9_8 := b_451; unfold bd at h9_8; have h9_9 := h_444; unfold bd at h9_9; have h9_10 := h_446; unfold bd at h9_10; have h9_11 := b_460; unfold bd at h9_11; have h9_12 := bx_461; unfold bd at h9_12; have h8_0 := kb_1; unfold bd at h8_0; have h8_1 := kb_3; unfold bd at h8_1; omega)
                          have go_ := g
                          refine g_callXi (As := [.int 1, .int 1]) (rest := []) ⟨hx, hb, hml, hown, hts⟩ (ih.2.2.2.2.1 l dC dI L kd tys fr_463 H.size g.2.2.2.1 adK adV a0_ ma0_ ka0_ (1 : Int32) (bd_sub kb_1 (by decide)) (1 : Int32) (bd_sub kb_1 (by decide)) q0_ mq0_ kq0_ V_ o_ bo_ x_445 (bd_sub h_446 (by decide)) x_443 h_444 x_453 (bd_sub b_460 (by decide)) hG_468 hwf ho (by omega) 12 ⟨(by decide), (by decide), (fun h9 => absurd h9 (by decide))⟩ (K_ - cl_0) (by omega) (by have h9_0 := bo_; unfold bd at h9_0; have h9_1 := b_452; unfold bd at h9_1; have h9_2 := b_436; unfold bd at h9_2; have h9_3 := bx_1; unfold bd at h9_3; have h9_4 := b_387; unfold bd at h9_4; have h9_5 := h_26; unfold bd at h9_5; have h9_6 := b_398; unfold bd at h9_6; have h9_7 := h_405; unfold bd at h9_7; have h9_8 := b_451; unfold bd at h9_8; have h9_9 := h_444; unfold bd at h9_9; have h9_10 := h_446; unfold bd at h9_10; have h9_11 := b_460; unfold bd at h9_11; have h9_12 := bx_461; unfold bd at h9_12; have h8_0 := kb_1; unfold bd at h8_0; have h8_1 := kb_3; unfold bd at h8_1; omega) (g.fcts [6, 7, 3, 2, 1] rfl)) (cwV 2 hts (gV_ t_2496 t_2498 t_121 t_198 t_2499) rfl rfl rfl (by decide +kernel) ⟨(show N + 24 + 1 ≤ N + 1 + 24 by omega), (show 8 + (11 + 11) + (60 * N + 700) ≤ 60 * (N + 1) + 700 by omega)⟩) (pre3VA g hK hAm ma0_ ka0_ (by decide) (q := (RX14, TX14, 67)) rfl) rfl hl.1 rfl (lv_room (Nat.le_of_ble_eq_true rfl)) dX14_readOne_167 (cl_k (K := K_) (k := K_ - cl_0) (show cl_0 + (K_ - cl_0) ≤ K_ by omega)) g hK (by decide) (by decide) (fx' := [(14, 23, a0_, .int x_388), (14, 2, a0_, .ref q0_), (14, 16, a0_, .int o_)]) rfl (fun xr_472 fr_472 H locs kr_472 cr_472 ecr_472 mxr_472 kxr_472 hp hMr_472 g => ?_) (fun r_472 fr_472 H locs kr_472 cr_472 ecr_472 hp hMr_472 g => ?_)
                          · subst hQ
                            exact leavesX hempty hlocks (fun t ht hW => g_thrX g hK mxr_472 kxr_472 (by omega) ht hW) g.2.2.1.2.2
                          · obtain ⟨hx_473, x_474, h_475, hF_476⟩ := hp
                            obtain ⟨V_477, E_478, hV_479, hF_480, hE_481, hX_482, hw_483, hv_484, hP_485, hn_486, hk_487, hc_488⟩ := rd_use hx_473 hG_469
                            have hF_489 := FR.call (mds := []) (mas := []) hG_467 go_ mq0_ kq0_ rfl hF_480
                            have mxE_478 : E_478 ≤ 1202 := by have h9 := cF_le g ma0_ ka0_; have h8 : cF _ _ = _ := hE_481; omega
                            have hx_490 := exN.tr exN.rf hX_482
                            have hck_491 : cr_472 ≤ K_ := by omega
                            have b_492 : bd 0 2499 r_472 := ⟨hv_484.1, (by have h9 := hv_484.2.1; omega)⟩
                            have g := g.more hF_476
                            refine lv_istore_n (lv' := [(2, .int r_472), (1, .int x_1), (0, .ref a0_)]) hx hb dX14_readOne_170 rfl hl (by decide) rfl (fun ls hl => ?_)
                            refine lv_aload_n hx hb dX14_readOne_171 rfl (lv_at hl 2 rfl) ?_
                            refine lv_bipush (v := 41) hx hb dX14_readOne_172 (by decide) ?_
                            have go_ := g
                            refine g_callEv (As := [.int 41]) (rest := []) ⟨hx, hb, hml, hown, hts⟩ (r_X14_closing l dC dI L kd tys fr_472 H.size g.2.2.2.1 adK adV a0_ ma0_ ka0_ 41 x_474 h_475 x_445 h_446 (g.fcts [1, 0] rfl)) (cwV 1 hts (gV_ t_2492 t_2494 t_120 t_198 t_2495) rfl rfl rfl (by decide +kernel) ⟨(show 8 + 1 ≤ N + 1 + 24 by omega), (show 8 + (2 + 11) + 176 ≤ 60 * (N + 1) + 700 by omega)⟩) (pre3VA g hK hAm ma0_ ka0_ (by decide) (q := (RX14, TX14, 67)) rfl) rfl hl.1 rfl (lv_room (Nat.le_of_ble_eq_true rfl)) dX14_readOne_174 (cl_f hck_491) g hK (by decide) (by decide) (fx' := [(14, 23, a0_, .int x_388), (14, 2, a0_, .ref q0_), (14, 16, a0_, .int o_)]) rfl (fun xr_493 fr_493 H locs mxr_493 kxr_493 hp hMr_493 g => ?_) (fun fr_493 H locs hp hMr_493 g => ?_)
                            · have hG_494 := isV.frame hMr_493 go_.2.2.2.1 mq0_ kq0_ (by decide) (by decide) hV_479
                              have hG_495 := FR.frame hMr_493 go_.2.2.2.1 mq0_ kq0_ (by decide) (by decide) hF_489
                              subst hQ
                              exact leavesX hempty hlocks (fun t ht hW => g_thrX g hK mxr_493 kxr_493 (by omega) ht hW) g.2.2.1.2.2
                            · obtain ⟨hx_496, h_497, x_498, h_499, x_500, ⟨h_501, rh_501⟩, hF_502⟩ := hp
                              have hG_503 := isV.frame hMr_493 go_.2.2.2.1 mq0_ kq0_ (by decide) (by decide) hV_479
                              have hG_504 := FR.frame hMr_493 go_.2.2.2.1 mq0_ kq0_ (by decide) (by decide) hF_489
                              obtain ⟨E_505, hE_505⟩ : ∃ E : Int, cEq fr_493 a0_ E := ⟨_, rfl⟩
                              have mxE_505 : E_505 ≤ 1202 := by have h9 := cF_le g ma0_ ka0_; have h8 : cF _ _ = _ := hE_505; omega
                              have lE_505 : E_478 + 1 ≤ E_505 := by have h9 := hx_496; have h8 : cF _ _ = _ := hE_505; have h7 : cF _ _ = _ := hE_481; omega
                              have b_506 : bd 0 1200 x_474 := eqX rfl h_475 h_497 (by decide)
                              have g := g.more hF_502
                              refine lv_aload_n hx hb dX14_readOne_177 rfl (lv_at hl 2 rfl) ?_
                              refine lv_aload_n hx hb dX14_readOne_178 rfl (lv_at hl 2 rfl) ?_
                              refine g_getk (C := RX14) (T := TX14) (N := 67) hx hb hts (mc_ inX14) hown hK g rfl 2 (by decide) rfl (hts _ (List.mem_cons_of_mem _ t_2148)) (fun _ h9 => h9) 3 rfl dX14_readOne_179 ?_
                              refine g_getr (K := 205) (C := RX12) (T := TX12) (N := 60) hx hb hts (mc_ inX12) hown hK g mq0_ kq0_ (by decide) rfl 51 (by decide) rfl (hts _ (List.mem_cons_of_mem _ t_2006)) (fun _ h9 => h9) rfl dX14_readOne_182 (fun a_507 ma_507 ka_507 g => ?_)
                              refine lv_iload_n hx hb dX14_readOne_185 rfl (lv_at hl 0 rfl) ?_
                              refine g_iald hx hb hK g ma_507 ka_507 (by decide) rfl (in_bd b_492 (by decide)) dX14_readOne_186 (fun x_508 bx_508 cx_508 => ?_)
                              have vx_508 : x_508 = V_477.i 51 r_472.toNatClampNeg := hG_503.at g 0 rfl rfl cx_508
                              have b_509 : bd 1 12 x_508 := ev_hb hw_483 hv_484 vx_508
                              refine lv_bipush (v := 12) hx hb dX14_readOne_187 (by decide) ?_
                              have kb_12 : bd 12 12 (12 : Int32) := ⟨by decide, by decide⟩
                              refine lv_icmp_ge (tgt := 196) hx hb dX14_readOne_189 (by decide) (fun c_510 => ?_) (fun c_510 => ?_)
                              · have fc_510 := le_f c_510
                                have b_511 : bd 12 12 x_508 := leR fc_510 kb_12 b_509 (by decide)
                                refine lv_iconst (v := 0) hx hb dX14_readOne_196 (by decide) ?_
                                refine lv_bipush (v := 7) hx hb dX14_readOne_197 (by decide) ?_
                                refine lv_iload_n hx hb dX14_readOne_199 rfl (lv_at hl 1 rfl) ?_
                                have kb_0 : bd 0 0 (0 : Int32) := ⟨by decide, by decide⟩
                                have go_ := g
                                refine g_callEv (As := [.int 0, .int 7, .int x_1]) (rest := []) ⟨hx, hb, hml, hown, hts⟩ (r_X14_need_2 l dC dI L kd tys fr_493 H.size g.2.2.2.1 a0_ ma0_ ka0_ 0 kb_0 7 x_1) (cwV 3 hts (gV_ t_2403 t_2405 t_100 t_198 t_2406) rfl rfl rfl (by decide +kernel) ⟨(show 1 + 1 ≤ N + 1 + 24 by omega), (show 8 + (4 + 11) + 22 ≤ 60 * (N + 1) + 700 by omega)⟩) (pre3V g hK ma0_ ka0_ (by decide) (q := (RX14, TX14, 67)) rfl) rfl hl.1 rfl (lv_room (Nat.le_of_ble_eq_true rfl)) dX14_readOne_200 (cl_f hck_491) g hK (by decide) (by decide) (fx' := [(12, 51, q0_, .ref a_507), (14, 10, a0_, .int x_498), (14, 25, a0_, .int x_500), (14, 23, a0_, .int x_388), (14, 2, a0_, .ref q0_), (14, 16, a0_, .int o_)]) rfl (fun xr_512 fr_512 H locs mxr_512 kxr_512 hp hMr_512 g => ?_) (fun fr_512 H locs hp hMr_512 g => ?_)
                                · have hG_513 := isV.frame hMr_512 go_.2.2.2.1 mq0_ kq0_ (by decide) (by decide) hG_503
                                  have hG_514 := FR.frame hMr_512 go_.2.2.2.1 mq0_ kq0_ (by decide) (by decide) hG_504
                                  have hG_515 := cEq.frame hMr_512 go_.2.2.2.1 ma0_ ka0_ (by decide) (by decide) hE_505
                                  subst hQ
                                  exact leavesX hempty hlocks (fun t ht hW => g_thrX g hK mxr_512 kxr_512 (by omega) ht hW) g.2.2.1.2.2
                                · exact hp.elim
                              · have fc_510 := nle_f c_510
                                have b_516 : bd 1 11 x_508 := ltL fc_510 b_509 kb_12 (by decide)
                                refine lv_iconst (v := 1) hx hb dX14_readOne_192 (by decide) ?_
                                refine lv_goto (tgt := 197) hx hb dX14_readOne_193 (by decide) ?_
                                refine lv_bipush (v := 7) hx hb dX14_readOne_197 (by decide) ?_
                                refine lv_iload_n hx hb dX14_readOne_199 rfl (lv_at hl 1 rfl) ?_
                                have go_ := g
                                refine g_callEv (As := [.int 1, .int 7, .int x_1]) (rest := []) ⟨hx, hb, hml, hown, hts⟩ (r_X14_need_3 l dC dI L kd tys fr_493 H.size g.2.2.2.1 a0_ ma0_ ka0_ 1 kb_1 7 x_1) (cwV 3 hts (gV_ t_2403 t_2405 t_100 t_198 t_2406) rfl rfl rfl (by decide +kernel) ⟨(show 0 + 1 ≤ N + 1 + 24 by omega), (show 8 + (4 + 11) + 0 ≤ 60 * (N + 1) + 700 by omega)⟩) (pre3V g hK ma0_ ka0_ (by decide) (q := (RX14, TX14, 67)) rfl) rfl hl.1 rfl (lv_room (Nat.le_of_ble_eq_true rfl)) dX14_readOne_200 (cl_f hck_491) g hK (by decide) (by decide) (fx' := [(12, 51, q0_, .ref a_507), (14, 10, a0_, .int x_498), (14, 25, a0_, .int x_500), (14, 23, a0_, .int x_388), (14, 2, a0_, .ref q0_), (14, 16, a0_, .int o_)]) rfl (fun xr_517 fr_517 H locs mxr_517 kxr_517 hp hMr_517 g => ?_) (fun fr_517 H locs hp hMr_517 g => ?_)
                                · have hG_518 := isV.frame hMr_517 go_.2.2.2.1 mq0_ kq0_ (by decide) (by decide) hG_503
                                  have hG_519 := FR.frame hMr_517 go_.2.2.2.1 mq0_ kq0_ (by decide) (by decide) hG_504
                                  have hG_520 := cEq.frame hMr_517 go_.2.2.2.1 ma0_ ka0_ (by decide) (by decide) hE_505
                                  exact hp.elim
                                · have hG_521 := isV.frame hMr_517 go_.2.2.2.1 mq0_ kq0_ (by decide) (by decide) hG_503
                                  have hG_522 := FR.frame hMr_517 go_.2.2.2.1 mq0_ kq0_ (by decide) (by decide) hG_504
                                  have hG_523 := cEq.frame hMr_517 go_.2.2.2.1 ma0_ ka0_ (by decide) (by decide) hE_505
                                  refine lv_aload_n hx hb dX14_readOne_203 rfl (lv_at hl 2 rfl) ?_
                                  refine lv_iconst (v := 4) hx hb dX14_readOne_204 (by decide) ?_
                                  refine lv_iload_n hx hb dX14_readOne_205 rfl (lv_at hl 0 rfl) ?_
                                  refine lv_iconst (v := (-1)) hx hb dX14_readOne_206 (by decide) ?_
                                  refine lv_iconst (v := 1) hx hb dX14_readOne_207 (by decide) ?_
                                  refine lv_aload_n hx hb dX14_readOne_208 rfl (lv_at hl 2 rfl) ?_
                                  refine g_getk (C := RX14) (T := TX14) (N := 67) hx hb hts (mc_ inX14) hown hK g rfl 2 (by decide) rfl (hts _ (List.mem_cons_of_mem _ t_2148)) (fun _ h9 => h9) 4 rfl dX14_readOne_209 ?_
                                  refine g_getk (C := RX12) (T := TX12) (N := 60) hx hb hts (mc_ inX12) hown hK g rfl 51 (by decide) rfl (hts _ (List.mem_cons_of_mem _ t_2006)) (fun _ h9 => h9) 0 rfl dX14_readOne_212 ?_
                                  refine lv_iload_n hx hb dX14_readOne_215 rfl (lv_at hl 0 rfl) ?_
                                  refine g_iald hx hb hK g ma_507 ka_507 (by decide) rfl (in_bd b_492 (by decide)) dX14_readOne_216 (fun x_524 bx_524 cx_524 => ?_)
                                  obtain rfl : x_508 = x_524 := el_same cx_508 cx_524 (arr_eq hMr_517 ma_507 ka_507 (by decide) rfl)
                                  refine lv_iadd hx hb dX14_readOne_217 ?_
                                  refine lv_topi (fun y_525 ey_525 => ?_)
                                  have ty_525 := add_bd ey_525 kb_1 b_516 (by decide)
                                  have b_526 : bd 2 12 y_525 := add_rg ty_525 kb_1 b_516 (by decide)
                                  have hnb : (V_477.n 57).toInt ≤ 2499 := by omega
                                  have go_ := g
                                  refine g_calli (va_runV (As := [.int 4, .int r_472, .int (-1), .int y_525]) (rest := []) ⟨hx, hb, hml, hown, hts⟩ (r_X14_node l dC dI L kd tys fr_517 H.size g.2.2.2.1 a0_ ma0_ ka0_ 4 r_472 (-1) y_525 q0_ mq0_ kq0_ o_ bo_ V_477 hG_521 hnb (g.fcts [4, 5] rfl)) (cwV 4 hts (gV_ t_2480 t_2482 t_117 t_198 t_2483) rfl rfl rfl (by decide +kernel) ⟨(show 0 + 1 ≤ N + 1 + 24 by omega), (show 8 + (6 + 11) + 0 ≤ 60 * (N + 1) + 700 by omega)⟩) (pre3V g hK ma0_ ka0_ (by decide) (q := (RX14, TX14, 67)) rfl) rfl rfl hl.1 rfl (lv_room (Nat.le_of_ble_eq_true rfl)) dX14_readOne_218 (cl_f hck_491)) g hK (by decide) (by decide) (fx' := [(12, 51, q0_, .ref a_507), (14, 10, a0_, .int x_498), (14, 25, a0_, .int x_500), (14, 23, a0_, .int x_388), (14, 2, a0_, .ref q0_), (14, 16, a0_, .int o_)]) rfl (fun r_527 fr_527 H locs hp hMr_527 g => ?_)
                                  obtain ⟨hx_528, hx_529, h_530, x_531, h_532, hF_533⟩ := hp
                                  have hG_534 := cEq.frame hMr_527 go_.2.2.2.1 ma0_ ka0_ (by decide) (by decide) hG_523
                                  have hF_535 := FR.call (mds := []) (mas := []) hG_522 go_ mq0_ kq0_ rfl hx_529
                                  obtain ⟨V_536, hV_537, hN_538⟩ := hx_528
                                  have g := g.more hF_533
                                  have hf_539 : fin V_477 V_536 r_527 12 o_ := nd_old hN_538 h_530.1 hw_483 ⟨(by have h9_0 := bo_; unfold bd at h9_0; have h9_1 := b_452; unfold bd at h9_1; have h9_2 := b_492; unfold bd at h9_2; have h9_3 := h_530; unfold bd at h9_3; have h9_4 := b_436; unfold bd at h9_4; have h9_5 := bx_1; unfold bd at h9_5; have h9_6 := b_387; unfold bd at h9_6; have h9_7 := h_26; unfold bd at h9_7; have h9_8 := b_398; unfold bd at h9_8; have h9_9 := h_405; unfold bd at h9_9; have h9_10 := b_451; unfold bd at h9_10; have h9_11 := h_444; unfold bd at h9_11; have h9_12 := h_446; unfold bd at h9_12; have h9_13 := b_460; unfold bd at h9_13; have h9_14 := bx_461; unfold bd at h9_14; have h9_15 := b_506; unfold bd at h9_15; have h9_16 := h_499; unfold bd at h9_16; have h9_17 := h_501; unfold bd at h9_17; have h9_18 := b_516; unfold bd at h9_18; have h9_19 := h_532; unfold bd at h9_19; have h9_20 := b_526; unfold bd at h9_20; have h8_0 := kb_1; unfold bd at h8_0; have h8_1 := kb_12; unfold bd at h8_1; have h8_2 := kb_3; unfold bd at h8_2; omega), (by have h9_0 := bo_; unfold bd at h9_0; have h9_1 := b_452; unfold bd at h9_1; have h9_2 := b_492; unfold bd at h9_2; have h9_3 := h_530; unfold bd at h9_3; have h9_4 := b_436; unfold bd at h9_4; have h9_5 := bx_1; unfold bd at h9_5; have h9_6 := b_387; unfold bd at h9_6; have h9_7 := h_26; unfold bd at h9_7; have h9_8 := b_398; unfold bd at h9_8; have h9_9 := h_405; unfold bd at h9_9; have h9_10 := b_451; unfold bd at h9_10; have h9_11 := h_444; unfold bd at h9_11; have h9_12 := h_446; unfold bd at h9_12; have h9_13 := b_460; unfold bd at h9_13; have h9_14 := bx_461; unfold bd at h9_14; have h9_15 := b_506; unfold bd at h9_15; have h9_16 := h_499; unfold bd at h9_16; have h9_17 := h_501; unfold bd at h9_17; have h9_18 := b_516; unfold bd at h9_18; have h9_19 := h_532; unfold bd at h9_19; have h9_20 := b_526; unfold bd at h9_20; have h8_0 := kb_1; unfold bd at h8_0; have h8_1 := kb_12; unfold bd at h8_1; have h8_2 := kb_3; unfold bd at h8_2; omega)⟩ (by have h9_0 := bo_; unfold bd at h9_0; have h9_1 := b_452; unfold bd at h9_1; have h9_2 := b_492; unfold bd at h9_2; have h9_3 := h_530; unfold bd at h9_3; have h9_4 := b_436; unfold bd at h9_4; have h9_5 := bx_1; unfold bd at h9_5; have h9_6 := b_387; unfold bd at h9_6; have h9_7 := h_26; unfold bd at h9_7; have h9_8 := b_398; unfold bd at h9_8; have h9_9 := h_405; unfold bd at h9_9; have h9_10 := b_451; unfold bd at h9_10; have h9_11 := h_444; unfold bd at h9_11; have h9_12 := h_446; unfold bd at h9_12; have h9_13 := b_460; unfold bd at h9_13; have h9_14 := bx_461; unfold bd at h9_14; have h9_15 := b_506; unfold bd at h9_15; have h9_16 := h_499; unfold bd at h9_16; have h9_17 := h_501; unfold bd at h9_17; have h9_18 := b_516; unfold bd at h9_18; have h9_19 := h_532; unfold bd at h9_19; have h9_20 := b_526; unfold bd at h9_20; have h8_0 := kb_1; unfold bd at h8_0; have h8_1 := kb_12; unfold bd at h8_1; have h8_2 := kb_3; unfold bd at h8_2; omega) (by rw [hx_490.2.2.1 0 (by decide)]; exact ho) (by decide) (EV.at_ hv_484 vx_508) (by have h9_0 := bo_; unfold bd at h9_0; have h9_1 := b_452; unfold bd at h9_1; have h9_2 := b_492; unfold bd at h9_2; have h9_3 := h_530; unfold bd at h9_3; have h9_4 := b_436; unfold bd at h9_4; have h9_5 := bx_1; unfold bd at h9_5; have h9_6 := b_387; unfold bd at h9_6; have h9_7 := h_26; unfold bd at h9_7; have h9_8 := b_398; unfold bd at h9_8; have h9_9 := h_405; unfold bd at h9_9; have h9_10 := b_451; unfold bd at h9_10; have h9_11 := h_444; unfold bd at h9_11; have h9_12 := h_446; unfold bd at h9_12; have h9_13 := b_460; unfold bd at h9_13; have h9_14 := bx_461; unfold bd at h9_14; have h9_15 := b_506; unfold bd at h9_15; have h9_16 := h_499; unfold bd at h9_16; have h9_17 := h_501; unfold bd at h9_17; have h9_18 := b_516; unfold bd at h9_18; have h9_19 := h_532; unfold bd at h9_19; have h9_20 := b_526; unfold bd at h9_20; have h8_0 := kb_1; unfold bd at h8_0; have h8_1 := kb_12; unfold bd at h8_1; have h8_2 := kb_3; unfold bd at h8_2; omega) (hP_485.2 (by decide))
                                  have ho_543 : (V_536.i 47 r_527.toNatClampNeg).toInt = 4 := (congrArg Int32.toInt (hN_538).2.2.2.1).trans (by decide)
                                  obtain ⟨V_540, hV_541, hf_542, ho_543⟩ : ∃ V1 : PV, isV fr_527 q0_ V1 ∧ fin V_477 V1 r_527 12 o_ ∧ (V1.i 47 r_527.toNatClampNeg).toInt = 4 := ⟨_, hV_537, hf_539, ho_543⟩
                                  have hf_542n := hf_542.2.2.2
                                  have hx_544 := exN.tr hx_490 hf_542.1
                                  have he_545 := exN.ev hf_542.1 hv_484
                                  obtain rfl : op_ = x_500 := Int32.toInt_inj.mp (by have h9_0 := bo_; unfold bd at h9_0; have h9_1 := b_452; unfold bd at h9_1; have h9_2 := b_492; unfold bd at h9_2; have h9_3 := h_530; unfold bd at h9_3; have h9_4 := b_436; unfold bd at h9_4; have h9_5 := bx_1; unfold bd at h9_5; have h9_6 := b_387; unfold bd at h9_6; have h9_7 := h_26; unfold bd at h9_7; have h9_8 := b_398; unfold bd at h9_8; have h9_9 := h_405; unfold bd at h9_9; have h9_10 := b_451; unfold bd at h9_10; have h9_11 := h_444; unfold bd at h9_11; have h9_12 := h_446; unfold bd at h9_12; have h9_13 := b_460; unfold bd at h9_13; have h9_14 := bx_461; unfold bd at h9_14; have h9_15 := b_506; unfold bd at h9_15; have h9_16 := h_499; unfold bd at h9_16; have h9_17 := h_501; unfold bd at h9_17; have h9_18 := b_516; unfold bd at h9_18; have h9_19 := h_532; unfold bd at h9_19; have h9_20 := b_526; unfold bd at h9_20; have h8_0 := kb_1; unfold bd at h8_0; have h8_1 := kb_12; unfold bd at h8_1; have h8_2 := kb_3; unfold bd at h8_2; omega)
                                  have h9c : cF fr_527 a0_ = _ := hG_534
                                  subst hQ
                                  exact iretX (v := r_527) hx hb hr (fun t ht hW => g_retX g hK ⟨_, rfl, ⟨⟨_, hV_541, hF_535, hx_544, hf_542.2.1, hf_542.2.2.1, trivial, (by omega), (by omega), (by omega)⟩, x_498, h_499, (g.fcts [3, 2] rfl)⟩⟩ ht hW) g.2.2.1.2.2 dX14_readOne_221 hlocks
                · have hG_546 := FR.frame hMr_410 go_.2.2.2.1 mq0_ kq0_ (by decide) (by decide) hF_408
                  have hG_547 := isV.frame hMr_410 go_.2.2.2.1 mq0_ kq0_ (by decide) (by decide) hx_402
                  obtain rfl : r_410 = 1 := h_417
                  obtain ⟨E_548, hE_548⟩ : ∃ E : Int, cEq fr_410 a0_ E := ⟨_, rfl⟩
                  have mxE_548 : E_548 ≤ 1202 := by have h9 := cF_le g ma0_ ka0_; have h8 : cF _ _ = _ := hE_548; omega
                  have lE_548 : (cF f0 a0_) + 1 ≤ E_548 := by have h9 := hx_416; have h8 : cF _ _ = _ := hE_548; have h7 : cF _ _ = _ := hG_407; omega
                  have b_549 : bd 0 1200 t_ := eqX rfl bt_ h_418 (by decide)
                  have g := g.more hF_421
                  refine lv_if_eq (tgt := 132) hx hb dX14_readOne_120 (by decide) (fun c_ => absurd c_ (by decide)) (fun c_ => ?_)
                  refine lv_aload_n hx hb dX14_readOne_123 rfl (lv_at hl 1 rfl) ?_
                  refine lv_iconst (v := 5) hx hb dX14_readOne_124 (by decide) ?_
                  refine lv_iconst (v := (-1)) hx hb dX14_readOne_125 (by decide) ?_
                  refine lv_iconst (v := (-1)) hx hb dX14_readOne_126 (by decide) ?_
                  refine lv_iconst (v := 1) hx hb dX14_readOne_127 (by decide) ?_
                  have hnb : (V_.n 57).toInt ≤ 2499 := by omega
                  have go_ := g
                  refine g_calli (va_runV (As := [.int 5, .int (-1), .int (-1), .int 1]) (rest := []) ⟨hx, hb, hml, hown, hts⟩ (r_X14_node l dC dI L kd tys fr_410 H.size g.2.2.2.1 a0_ ma0_ ka0_ 5 (-1) (-1) 1 q0_ mq0_ kq0_ o_ bo_ V_ hG_547 hnb (g.fcts [3, 4] rfl)) (cwV 4 hts (gV_ t_2480 t_2482 t_117 t_198 t_2483) rfl rfl rfl (by decide +kernel) ⟨(show 0 + 1 ≤ N + 1 + 24 by omega), (show 8 + (6 + 11) + 0 ≤ 60 * (N + 1) + 700 by omega)⟩) (pre3V g hK ma0_ ka0_ (by decide) (q := (RX14, TX14, 67)) rfl) rfl rfl hl.1 rfl (lv_room (Nat.le_of_ble_eq_true rfl)) dX14_readOne_128 (cl_f hck_0)) g hK (by decide) (by decide) (fx' := [(14, 10, a0_, .int x_419), (12, 58, q0_, .int x_404), (14, 23, a0_, .int x_388), (14, 2, a0_, .ref q0_), (14, 16, a0_, .int o_), (14, 25, a0_, .int op_)]) rfl (fun r_550 fr_550 H locs hp hMr_550 g => ?_)
                  obtain ⟨hx_551, hx_552, h_553, x_554, h_555, hF_556⟩ := hp
                  have hG_557 := cEq.frame hMr_550 go_.2.2.2.1 ma0_ ka0_ (by decide) (by decide) hE_548
                  have hF_558 := FR.call (mds := []) (mas := []) hG_546 go_ mq0_ kq0_ rfl hx_552
                  obtain ⟨V_559, hV_560, hN_561⟩ := hx_551
                  have g := g.more hF_556
                  have hf_562 : fin V_ V_559 r_550 12 o_ := nd_leaf hN_561 h_553.1 hwf (by decide) (by decide) ho (by decide)
                  have ho_566 : (V_559.i 47 r_550.toNatClampNeg).toInt = 5 := (congrArg Int32.toInt (hN_561).2.2.2.1).trans (by decide)
                  obtain ⟨V_563, hV_564, hf_565, ho_566⟩ : ∃ V1 : PV, isV fr_550 q0_ V1 ∧ fin V_ V1 r_550 12 o_ ∧ (V1.i 47 r_550.toNatClampNeg).toInt = 5 := ⟨_, hV_560, hf_562, ho_566⟩
                  have hf_565n := hf_565.2.2.2
                  have hx_567 := exN.tr exN.rf hf_565.1
                  have h9c : cF fr_550 a0_ = _ := hG_557
                  subst hQ
                  exact iretX (v := r_550) hx hb hr (fun t ht hW => g_retX g hK ⟨_, rfl, ⟨⟨_, hV_564, hF_558, hx_567, hf_565.2.1, hf_565.2.2.1, trivial, (by omega), (by omega), (by omega)⟩, x_419, h_420, (g.fcts [6, 1] rfl)⟩⟩ ht hW) g.2.2.1.2.2 dX14_readOne_131 hlocks
      · have hG_568 := isV.frame hMr_13 go_.2.2.2.1 mq0_ kq0_ (by decide) (by decide) hG_10
        have hG_569 := FR.frame hMr_13 go_.2.2.2.1 mq0_ kq0_ (by decide) (by decide) hG_11
        have hG_570 := cEq.frame hMr_13 go_.2.2.2.1 ma0_ ka0_ (by decide) (by decide) hG_12
        obtain rfl : r_13 = 1 := h_15
        have g := g.more hF_18
        have e_571 := fx_same g 1 0 rfl rfl
        have b_572 : bd 2 2 x_2 := eqX (eq_f e_571.symm) bx_2 h_17 (by decide)
        have g := g.sub (fx' := [(14, 6, a0_, .int x_2), (14, 8, a0_, .int x_1), (14, 2, a0_, .ref q0_), (14, 16, a0_, .int o_), (14, 25, a0_, .int op_), (14, 10, a0_, .int t_)]) [1, 2, 3, 4, 5, 6] rfl
        refine lv_if_ne (tgt := 97) hx hb dX14_readOne_85 (by decide) (fun c_ => ?_) (fun c_ => absurd c_ (by decide))
        refine lv_aload_n hx hb dX14_readOne_97 rfl (lv_at hl 1 rfl) ?_
        refine lv_aload_n hx hb dX14_readOne_98 rfl (lv_at hl 1 rfl) ?_
        refine g_geti (C := RX14) (T := TX14) (N := 67) hx hb hts (mc_ inX14) hown hK g ma0_ ka0_ (by decide) rfl 23 (by decide) rfl (hts _ (List.mem_cons_of_mem _ t_2169)) (fun _ h9 => h9) rfl dX14_readOne_99 (fun x_573 bx_573 g => ?_)
        refine lv_iconst (v := 1) hx hb dX14_readOne_102 (by decide) ?_
        refine lv_aload_n hx hb dX14_readOne_103 rfl (lv_at hl 1 rfl) ?_
        refine g_getk (C := RX14) (T := TX14) (N := 67) hx hb hts (mc_ inX14) hown hK g rfl 8 (by decide) rfl (hts _ (List.mem_cons_of_mem _ t_2154)) (fun _ h9 => h9) 2 rfl dX14_readOne_104 ?_
        have hs_574 := sE_1 g 1 rfl (by have h9_0 := bo_; unfold bd at h9_0; have h9_1 := bop_; unfold bd at h9_1; have h9_2 := bt_; unfold bd at h9_2; have h9_3 := bx_1; unfold bd at h9_3; have h9_4 := h_17; unfold bd at h9_4; have h9_5 := b_572; unfold bd at h9_5; have h9_6 := bx_573; unfold bd at h9_6; have h8_0 := kb_3; unfold bd at h8_0; omega)
        have go_ := g
        refine g_callEv (As := [.int x_573, .int 1, .int x_1]) (rest := []) ⟨hx, hb, hml, hown, hts⟩ (r_X14_need_4 l dC dI L kd tys fr_13 H.size g.2.2.2.1 a0_ ma0_ ka0_ x_573 bx_573 1 x_1) (cwV 3 hts (gV_ t_2403 t_2405 t_100 t_198 t_2406) rfl rfl rfl (by decide +kernel) ⟨(show 1 + 1 ≤ N + 1 + 24 by omega), (show 8 + (4 + 11) + 22 ≤ 60 * (N + 1) + 700 by omega)⟩) (pre3V g hK ma0_ ka0_ (by decide) (q := (RX14, TX14, 67)) rfl) rfl hl.1 rfl (lv_room (Nat.le_of_ble_eq_true rfl)) dX14_readOne_107 (cl_f hck_0) g hK (by decide) (by decide) (fx' := [(14, 23, a0_, .int x_573), (14, 6, a0_, .int x_2), (14, 8, a0_, .int x_1), (14, 2, a0_, .ref q0_), (14, 16, a0_, .int o_), (14, 25, a0_, .int op_), (14, 10, a0_, .int t_)]) rfl (fun xr_575 fr_575 H locs mxr_575 kxr_575 hp hMr_575 g => ?_) (fun fr_575 H locs hp hMr_575 g => ?_)
        · have hG_576 := isV.frame hMr_575 go_.2.2.2.1 mq0_ kq0_ (by decide) (by decide) hG_568
          have hG_577 := FR.frame hMr_575 go_.2.2.2.1 mq0_ kq0_ (by decide) (by decide) hG_569
          have hG_578 := cEq.frame hMr_575 go_.2.2.2.1 ma0_ ka0_ (by decide) (by decide) hG_570
          subst hQ
          exact leavesX hempty hlocks (fun t ht hW => g_thrX g hK mxr_575 kxr_575 (by omega) ht hW) g.2.2.1.2.2
        · obtain ⟨h_579, -⟩ := hp
          have hG_580 := isV.frame hMr_575 go_.2.2.2.1 mq0_ kq0_ (by decide) (by decide) hG_568
          have hG_581 := FR.frame hMr_575 go_.2.2.2.1 mq0_ kq0_ (by decide) (by decide) hG_569
          have hG_582 := cEq.frame hMr_575 go_.2.2.2.1 ma0_ ka0_ (by decide) (by decide) hG_570
          have b_583 : bd 1 1 x_573 := eqX rfl bx_573 h_579 (by decide)
          refine lv_aload_n hx hb dX14_readOne_110 rfl (lv_at hl 1 rfl) ?_
          have hs_584 := sE_1 g 1 rfl (by have h9_0 := bo_; unfold bd at h9_0; have h9_1 := bop_; unfold bd at h9_1; have h9_2 := bt_; unfold bd at h9_2; have h9_3 := bx_1; unfold bd at h9_3; have h9_4 := h_17; unfold bd at h9_4; have h9_5 := b_572; unfold bd at h9_5; have h9_6 := b_583; unfold bd at h9_6; have h8_0 := kb_3; unfold bd at h8_0; omega)
          have go_ := g
          refine g_callEv (As := []) (rest := []) ⟨hx, hb, hml, hown, hts⟩ (r_X14_counts_2 l dC dI L kd tys fr_575 H.size g.2.2.2.1 a0_ ma0_ ka0_ q0_ mq0_ kq0_ V_ hG_580 (g.fcts [3] rfl)) (cwV 0 hts (gV_ t_2476 t_2478 t_116 t_198 t_2479) rfl rfl rfl (by decide +kernel) ⟨(show 2 + 1 ≤ N + 1 + 24 by omega), (show 8 + (1 + 11) + 45 ≤ 60 * (N + 1) + 700 by omega)⟩) (pre3V g hK ma0_ ka0_ (by decide) (q := (RX14, TX14, 67)) rfl) rfl hl.1 rfl (lv_room (Nat.le_of_ble_eq_true rfl)) dX14_readOne_111 (cl_f hck_0) g hK (by decide) (by decide) (fx' := [(14, 23, a0_, .int x_573), (14, 6, a0_, .int x_2), (14, 8, a0_, .int x_1), (14, 2, a0_, .ref q0_), (14, 16, a0_, .int o_), (14, 25, a0_, .int op_), (14, 10, a0_, .int t_)]) rfl (fun xr_585 fr_585 H locs mxr_585 kxr_585 hp hMr_585 g => ?_) (fun fr_585 H locs hp hMr_585 g => ?_)
          · have hG_586 := cEq.frame hMr_585 go_.2.2.2.1 ma0_ ka0_ (by decide) (by decide) hG_582
            subst hQ
            exact leavesX hempty hlocks (fun t ht hW => g_thrX g hK mxr_585 kxr_585 (by omega) ht hW) g.2.2.1.2.2
          · obtain ⟨hx_587, hx_588, x_589, h_590, hF_591⟩ := hp
            have hG_592 := cEq.frame hMr_585 go_.2.2.2.1 ma0_ ka0_ (by decide) (by decide) hG_582
            have hF_593 := FR.call (mds := []) (mas := []) hG_581 go_ mq0_ kq0_ rfl hx_588
            have g := g.more hF_591
            refine lv_aload_n hx hb dX14_readOne_114 rfl (lv_at hl 1 rfl) ?_
            refine lv_bipush (v := 19) hx hb dX14_readOne_115 (by decide) ?_
            have hs_594 := sE_1 g 2 rfl (by have h9_0 := bo_; unfold bd at h9_0; have h9_1 := bop_; unfold bd at h9_1; have h9_2 := bt_; unfold bd at h9_2; have h9_3 := bx_1; unfold bd at h9_3; have h9_4 := h_17; unfold bd at h9_4; have h9_5 := b_572; unfold bd at h9_5; have h9_6 := b_583; unfold bd at h9_6; have h9_7 := h_590; unfold bd at h9_7; have h8_0 := kb_3; unfold bd at h8_0; omega)
            have go_ := g
            refine g_callEi (As := [.int 19]) (rest := []) ⟨hx, hb, hml, hown, hts⟩ (r_X14_takes_2 l dC dI L kd tys fr_585 H.size g.2.2.2.1 adK adV a0_ ma0_ ka0_ 19 t_ bt_ (g.fcts [7] rfl)) (cwV 1 hts (gV_ t_2423 t_2425 t_105 t_198 t_2426) rfl rfl rfl (by decide +kernel) ⟨(show 7 + 1 ≤ N + 1 + 24 by omega), (show 8 + (3 + 11) + 155 ≤ 60 * (N + 1) + 700 by omega)⟩) (pre3VA g hK hAm ma0_ ka0_ (by decide) (q := (RX14, TX14, 67)) rfl) rfl hl.1 rfl (lv_room (Nat.le_of_ble_eq_true rfl)) dX14_readOne_117 (cl_f hck_0) g hK (by decide) (by decide) (fx' := [(12, 58, q0_, .int x_589), (14, 23, a0_, .int x_573), (14, 2, a0_, .ref q0_), (14, 16, a0_, .int o_), (14, 25, a0_, .int op_)]) rfl (fun xr_595 fr_595 H locs mxr_595 kxr_595 hp hMr_595 g => ?_) (fun r_595 fr_595 H locs hp hMr_595 g => ?_)
            · have hG_596 := FR.frame hMr_595 go_.2.2.2.1 mq0_ kq0_ (by decide) (by decide) hF_593
              have hG_597 := isV.frame hMr_595 go_.2.2.2.1 mq0_ kq0_ (by decide) (by decide) hx_587
              subst hQ
              exact leavesX hempty hlocks (fun t ht hW => g_thrX g hK mxr_595 kxr_595 (by omega) ht hW) g.2.2.1.2.2
            · rcases hp with ⟨hx_598, h_599, hF_600⟩ | ⟨hx_601, h_602, h_603, x_604, h_605, hF_606⟩
              · have hG_607 := FR.frame hMr_595 go_.2.2.2.1 mq0_ kq0_ (by decide) (by decide) hF_593
                have hG_608 := isV.frame hMr_595 go_.2.2.2.1 mq0_ kq0_ (by decide) (by decide) hx_587
                obtain rfl : r_595 = 0 := h_599
                obtain ⟨E_609, hE_609⟩ : ∃ E : Int, cEq fr_595 a0_ E := ⟨_, rfl⟩
                have mxE_609 : E_609 ≤ 1202 := by have h9 := cF_le g ma0_ ka0_; have h8 : cF _ _ = _ := hE_609; omega
                have lE_609 : (cF f0 a0_) = E_609 := by have h9 := hx_598; have h8 : cF _ _ = _ := hE_609; have h7 : cF _ _ = _ := hG_592; omega
                have g := g.more hF_600
                refine lv_if_eq (tgt := 132) hx hb dX14_readOne_120 (by decide) (fun c_ => ?_) (fun c_ => absurd (by decide) c_)
                refine lv_aload_n hx hb dX14_readOne_132 rfl (lv_at hl 1 rfl) ?_
                have go_ := g
                refine g_callEv (As := []) (rest := []) ⟨hx, hb, hml, hown, hts⟩ (r_X14_next_2 l dC dI L kd tys fr_595 H.size g.2.2.2.1 adK adV a0_ ma0_ ka0_ t_ bt_ (g.fcts [0] rfl)) (cwV 0 hts (gV_ t_2411 t_2413 t_102 t_198 t_2414) rfl rfl rfl (by decide +kernel) ⟨(show 6 + 1 ≤ N + 1 + 24 by omega), (show 8 + (1 + 11) + 135 ≤ 60 * (N + 1) + 700 by omega)⟩) (pre3VA g hK hAm ma0_ ka0_ (by decide) (q := (RX14, TX14, 67)) rfl) rfl hl.1 rfl (lv_room (Nat.le_of_ble_eq_true rfl)) dX14_readOne_133 (cl_f hck_0) g hK (by decide) (by decide) (fx' := [(12, 58, q0_, .int x_589), (14, 23, a0_, .int x_573), (14, 2, a0_, .ref q0_), (14, 16, a0_, .int o_), (14, 25, a0_, .int op_)]) rfl (fun xr_610 fr_610 H locs mxr_610 kxr_610 hp hMr_610 g => ?_) (fun fr_610 H locs hp hMr_610 g => ?_)
                · have hG_611 := FR.frame hMr_610 go_.2.2.2.1 mq0_ kq0_ (by decide) (by decide) hG_607
                  have hG_612 := isV.frame hMr_610 go_.2.2.2.1 mq0_ kq0_ (by decide) (by decide) hG_608
                  subst hQ
                  exact leavesX hempty hlocks (fun t ht hW => g_thrX g hK mxr_610 kxr_610 (by omega) ht hW) g.2.2.1.2.2
                · obtain ⟨hx_613, h_614, x_615, h_616, hF_617⟩ := hp
                  have hG_618 := FR.frame hMr_610 go_.2.2.2.1 mq0_ kq0_ (by decide) (by decide) hG_607
                  have hG_619 := isV.frame hMr_610 go_.2.2.2.1 mq0_ kq0_ (by decide) (by decide) hG_608
                  obtain ⟨E_620, hE_620⟩ : ∃ E : Int, cEq fr_610 a0_ E := ⟨_, rfl⟩
                  have mxE_620 : E_620 ≤ 1202 := by have h9 := cF_le g ma0_ ka0_; have h8 : cF _ _ = _ := hE_620; omega
                  have lE_620 : E_609 ≤ E_620 := by have h9 := hx_613; have h8 : cF _ _ = _ := hE_620; have h7 : cF _ _ = _ := hE_609; have h6 := sE_bd (f := fr_595) (t := a0_); have h5 := tk_c (f := fr_595) (t := a0_); omega
                  have b_621 : bd 0 1200 t_ := eqX rfl bt_ h_614 (by decide)
                  have g := g.more hF_617
                  refine lv_aload_n hx hb dX14_readOne_136 rfl (lv_at hl 1 rfl) ?_
                  refine lv_bipush (v := 40) hx hb dX14_readOne_137 (by decide) ?_
                  have go_ := g
                  refine g_callEv (As := [.int 40]) (rest := []) ⟨hx, hb, hml, hown, hts⟩ (r_X14_opening_2 l dC dI L kd tys fr_610 H.size g.2.2.2.1 adK adV a0_ ma0_ ka0_ 40 x_615 h_616 op_ bop_ (g.fcts [0, 5] rfl)) (cwV 1 hts (gV_ t_2484 t_2486 t_118 t_198 t_2487) rfl rfl rfl (by decide +kernel) ⟨(show 7 + 1 ≤ N + 1 + 24 by omega), (show 8 + (2 + 11) + 155 ≤ 60 * (N + 1) + 700 by omega)⟩) (pre3VA g hK hAm ma0_ ka0_ (by decide) (q := (RX14, TX14, 67)) rfl) rfl hl.1 rfl (lv_room (Nat.le_of_ble_eq_true rfl)) dX14_readOne_139 (cl_f hck_0) g hK (by decide) (by decide) (fx' := [(12, 58, q0_, .int x_589), (14, 23, a0_, .int x_573), (14, 2, a0_, .ref q0_), (14, 16, a0_, .int o_)]) rfl (fun xr_622 fr_622 H locs mxr_622 kxr_622 hp hMr_622 g => ?_) (fun fr_622 H locs hp hMr_622 g => ?_)
                  · have hG_623 := FR.frame hMr_622 go_.2.2.2.1 mq0_ kq0_ (by decide) (by decide) hG_618
                    have hG_624 := isV.frame hMr_622 go_.2.2.2.1 mq0_ kq0_ (by decide) (by decide) hG_619
                    subst hQ
                    exact leavesX hempty hlocks (fun t ht hW => g_thrX g hK mxr_622 kxr_622 (by omega) ht hW) g.2.2.1.2.2
                  · obtain ⟨hx_625, h_626, h_627, x_628, h_629, x_630, ⟨h_631, rh_631⟩, hF_632⟩ := hp
                    have hG_633 := FR.frame hMr_622 go_.2.2.2.1 mq0_ kq0_ (by decide) (by decide) hG_618
                    have hG_634 := isV.frame hMr_622 go_.2.2.2.1 mq0_ kq0_ (by decide) (by decide) hG_619
                    obtain ⟨E_635, hE_635⟩ : ∃ E : Int, cEq fr_622 a0_ E := ⟨_, rfl⟩
                    have mxE_635 : E_635 ≤ 1202 := by have h9 := cF_le g ma0_ ka0_; have h8 : cF _ _ = _ := hE_635; omega
                    have lE_635 : E_620 + 1 ≤ E_635 := by have h9 := hx_625; have h8 : cF _ _ = _ := hE_635; have h7 : cF _ _ = _ := hE_620; omega
                    have b_636 : bd 0 1200 x_615 := eqX rfl h_616 h_626 (by decide)
                    have b_637 : bd 0 39 op_ := eqX rfl bop_ h_627 (by decide)
                    have g := g.more hF_632
                    refine lv_aload_n hx hb dX14_readOne_142 rfl (lv_at hl 1 rfl) ?_
                    refine lv_aload_n hx hb dX14_readOne_143 rfl (lv_at hl 1 rfl) ?_
                    refine g_geti (C := RX14) (T := TX14) (N := 67) hx hb hts (mc_ inX14) hown hK g ma0_ ka0_ (by decide) rfl 6 (by decide) rfl (hts _ (List.mem_cons_of_mem _ t_2152)) (fun _ h9 => h9) rfl dX14_readOne_144 (fun x_638 bx_638 g => ?_)
                    refine lv_iconst (v := 1) hx hb dX14_readOne_147 (by decide) ?_
                    have kb_1 : bd 1 1 (1 : Int32) := ⟨by decide, by decide⟩
                    refine lv_icmp_ne (tgt := 155) hx hb dX14_readOne_148 (by decide) (fun c_639 => ?_) (fun c_639 => ?_)
                    · have fc_639 := neq_f c_639
                      refine lv_iconst (v := 0) hx hb dX14_readOne_155 (by decide) ?_
                      refine lv_iconst (v := 1) hx hb dX14_readOne_156 (by decide) ?_
                      refine lv_aload_n hx hb dX14_readOne_157 rfl (lv_at hl 1 rfl) ?_
                      refine g_geti (C := RX14) (T := TX14) (N := 67) hx hb hts (mc_ inX14) hown hK g ma0_ ka0_ (by decide) rfl 8 (by decide) rfl (hts _ (List.mem_cons_of_mem _ t_2154)) (fun _ h9 => h9) rfl dX14_readOne_158 (fun x_640 bx_640 g => ?_)
                      have kb_0 : bd 0 0 (0 : Int32) := ⟨by decide, by decide⟩
                      have go_ := g
                      refine g_callEv (As := [.int 0, .int 1, .int x_640]) (rest := []) ⟨hx, hb, hml, hown, hts⟩ (r_X14_need_2 l dC dI L kd tys fr_622 H.size g.2.2.2.1 a0_ ma0_ ka0_ 0 kb_0 1 x_640) (cwV 3 hts (gV_ t_2403 t_2405 t_100 t_198 t_2406) rfl rfl rfl (by decide +kernel) ⟨(show 1 + 1 ≤ N + 1 + 24 by omega), (show 8 + (4 + 11) + 22 ≤ 60 * (N + 1) + 700 by omega)⟩) (pre3V g hK ma0_ ka0_ (by decide) (q := (RX14, TX14, 67)) rfl) rfl hl.1 rfl (lv_room (Nat.le_of_ble_eq_true rfl)) dX14_readOne_161 (cl_f hck_0) g hK (by decide) (by decide) (fx' := [(14, 8, a0_, .int x_640), (14, 6, a0_, .int x_638), (14, 10, a0_, .int x_628), (14, 25, a0_, .int x_630), (12, 58, q0_, .int x_589), (14, 23, a0_, .int x_573), (14, 2, a0_, .ref q0_), (14, 16, a0_, .int o_)]) rfl (fun xr_641 fr_641 H locs mxr_641 kxr_641 hp hMr_641 g => ?_) (fun fr_641 H locs hp hMr_641 g => ?_)
                      · have hG_642 := FR.frame hMr_641 go_.2.2.2.1 mq0_ kq0_ (by decide) (by decide) hG_633
                        have hG_643 := isV.frame hMr_641 go_.2.2.2.1 mq0_ kq0_ (by decide) (by decide) hG_634
                        have hG_644 := cEq.frame hMr_641 go_.2.2.2.1 ma0_ ka0_ (by decide) (by decide) hE_635
                        subst hQ
                        exact leavesX hempty hlocks (fun t ht hW => g_thrX g hK mxr_641 kxr_641 (by omega) ht hW) g.2.2.1.2.2
                      · exact hp.elim
                    · have fc_639 := eq_f c_639
                      have b_645 : bd 1 1 x_638 := eqX fc_639 bx_638 kb_1 (by decide)
                      refine lv_iconst (v := 1) hx hb dX14_readOne_151 (by decide) ?_
                      refine lv_goto (tgt := 156) hx hb dX14_readOne_152 (by decide) ?_
                      refine lv_iconst (v := 1) hx hb dX14_readOne_156 (by decide) ?_
                      refine lv_aload_n hx hb dX14_readOne_157 rfl (lv_at hl 1 rfl) ?_
                      refine g_geti (C := RX14) (T := TX14) (N := 67) hx hb hts (mc_ inX14) hown hK g ma0_ ka0_ (by decide) rfl 8 (by decide) rfl (hts _ (List.mem_cons_of_mem _ t_2154)) (fun _ h9 => h9) rfl dX14_readOne_158 (fun x_646 bx_646 g => ?_)
                      have hs_647 := sE_1 g 1 rfl (by have h9_0 := bo_; unfold bd at h9_0; have h9_1 := b_637; unfold bd at h9_1; have h9_2 := b_621; unfold bd at h9_2; have h9_3 := bx_1; unfold bd at h9_3; have h9_4 := h_17; unfold bd at h9_4; have h9_5 := b_572; unfold bd at h9_5; have h9_6 := b_583; unfold bd at h9_6; have h9_7 := h_590; unfold bd at h9_7; have h9_8 := b_636; unfold bd at h9_8; have h9_9 := h_629; unfold bd at h9_9; have h9_10 := h_631; unfold bd at h9_10; have h9_11 := b_645; unfold bd at h9_11; have h9_12 := bx_646; unfold bd at h9_12; have h8_0 := kb_1; unfold bd at h8_0; have h8_1 := kb_3; unfold bd at h8_1; omega)
                      have go_ := g
                      refine g_callEv (As := [.int 1, .int 1, .int x_646]) (rest := []) ⟨hx, hb, hml, hown, hts⟩ (r_X14_need_3 l dC dI L kd tys fr_622 H.size g.2.2.2.1 a0_ ma0_ ka0_ 1 kb_1 1 x_646) (cwV 3 hts (gV_ t_2403 t_2405 t_100 t_198 t_2406) rfl rfl rfl (by decide +kernel) ⟨(show 0 + 1 ≤ N + 1 + 24 by omega), (show 8 + (4 + 11) + 0 ≤ 60 * (N + 1) + 700 by omega)⟩) (pre3V g hK ma0_ ka0_ (by decide) (q := (RX14, TX14, 67)) rfl) rfl hl.1 rfl (lv_room (Nat.le_of_ble_eq_true rfl)) dX14_readOne_161 (cl_f hck_0) g hK (by decide) (by decide) (fx' := [(14, 8, a0_, .int x_646), (14, 6, a0_, .int x_638), (14, 10, a0_, .int x_628), (14, 25, a0_, .int x_630), (12, 58, q0_, .int x_589), (14, 23, a0_, .int x_573), (14, 2, a0_, .ref q0_), (14, 16, a0_, .int o_)]) rfl (fun xr_648 fr_648 H locs mxr_648 kxr_648 hp hMr_648 g => ?_) (fun fr_648 H locs hp hMr_648 g => ?_)
                      · have hG_649 := FR.frame hMr_648 go_.2.2.2.1 mq0_ kq0_ (by decide) (by decide) hG_633
                        have hG_650 := isV.frame hMr_648 go_.2.2.2.1 mq0_ kq0_ (by decide) (by decide) hG_634
                        have hG_651 := cEq.frame hMr_648 go_.2.2.2.1 ma0_ ka0_ (by decide) (by decide) hE_635
                        exact hp.elim
                      · have hG_652 := FR.frame hMr_648 go_.2.2.2.1 mq0_ kq0_ (by decide) (by decide) hG_633
                        have hG_653 := isV.frame hMr_648 go_.2.2.2.1 mq0_ kq0_ (by decide) (by decide) hG_634
                        have hG_654 := cEq.frame hMr_648 go_.2.2.2.1 ma0_ ka0_ (by decide) (by decide) hE_635
                        refine lv_aload_n hx hb dX14_readOne_164 rfl (lv_at hl 1 rfl) ?_
                        refine lv_iconst (v := 1) hx hb dX14_readOne_165 (by decide) ?_
                        refine lv_iconst (v := 1) hx hb dX14_readOne_166 (by decide) ?_
                        have qc__655 : cF fr_648 a0_ = _ := hG_654
                        have hs_656 := sE_1 g 1 rfl (by have h9_0 := bo_; unfold bd at h9_0; have h9_1 := b_637; unfold bd at h9_1; have h9_2 := b_621; unfold bd at h9_2; have h9_3 := bx_1; unfold bd at h9_3; have h9_4 := h_17; unfold bd at h9_4; have h9_5 := b_572; unfold bd at h9_5; have h9_6 := b_583; unfold bd at h9_6; have h9_7 := h_590; unfold bd at h9_7; have h9_8 := b_636; unfold bd at h9_8; have h9_9 := h_629; unfold bd at h9_9; have h9_10 := h_631; unfold bd at h9_10; have h9_11 := b_645; unfold bd at h9_11; have h9_12 := bx_646; unfold bd at h9_12; have h8_0 := kb_1; unfold bd at h8_0; have h8_1 := kb_3; unfold bd at h8_1; omega)
                        have go_ := g
                        refine g_callXi (As := [.int 1, .int 1]) (rest := []) ⟨hx, hb, hml, hown, hts⟩ (ih.2.2.2.2.1 l dC dI L kd tys fr_648 H.size g.2.2.2.1 adK adV a0_ ma0_ ka0_ (1 : Int32) (bd_sub kb_1 (by decide)) (1 : Int32) (bd_sub kb_1 (by decide)) q0_ mq0_ kq0_ V_ o_ bo_ x_630 (bd_sub h_631 (by decide)) x_628 h_629 x_638 (bd_sub b_645 (by decide)) hG_653 hwf ho (by omega) 12 ⟨(by decide), (by decide), (fun h9 => absurd h9 (by decide))⟩ (K_ - cl_0) (by omega) (by have h9_0 := bo_; unfold bd at h9_0; have h9_1 := b_637; unfold bd at h9_1; have h9_2 := b_621; unfold bd at h9_2; have h9_3 := bx_1; unfold bd at h9_3; have h9_4 := h_17; unfold bd at h9_4; have h9_5 := b_572; unfold bd at h9_5; have h9_6 := b_583; unfold bd at h9_6; have h9_7 := h_590; unfold bd at h9_7; have h9_8 := b_636; unfold bd at h9_8; have h9_9 := h_629; unfold bd at h9_9; have h9_10 := h_631; unfold bd at h9_10; have h9_11 := b_645; unfold bd at h9_11; have h9_12 := bx_646; unfold bd at h9_12; have h8_0 := kb_1; unfold bd at h8_0; have h8_1 := kb_3; unfold bd at h8_1; omega) (g.fcts [6, 7, 3, 2, 1] rfl)) (cwV 2 hts (gV_ t_2496 t_2498 t_121 t_198 t_2499) rfl rfl rfl (by decide +kernel) ⟨(show N + 24 + 1 ≤ N + 1 + 24 by omega), (show 8 + (11 + 11) + (60 * N + 700) ≤ 60 * (N + 1) + 700 by omega)⟩) (pre3VA g hK hAm ma0_ ka0_ (by decide) (q := (RX14, TX14, 67)) rfl) rfl hl.1 rfl (lv_room (Nat.le_of_ble_eq_true rfl)) dX14_readOne_167 (cl_k (K := K_) (k := K_ - cl_0) (show cl_0 + (K_ - cl_0) ≤ K_ by omega)) g hK (by decide) (by decide) (fx' := [(14, 23, a0_, .int x_573), (14, 2, a0_, .ref q0_), (14, 16, a0_, .int o_)]) rfl (fun xr_657 fr_657 H locs kr_657 cr_657 ecr_657 mxr_657 kxr_657 hp hMr_657 g => ?_) (fun r_657 fr_657 H locs kr_657 cr_657 ecr_657 hp hMr_657 g => ?_)
                        · subst hQ
                          exact leavesX hempty hlocks (fun t ht hW => g_thrX g hK mxr_657 kxr_657 (by omega) ht hW) g.2.2.1.2.2
                        · obtain ⟨hx_658, x_659, h_660, hF_661⟩ := hp
                          obtain ⟨V_662, E_663, hV_664, hF_665, hE_666, hX_667, hw_668, hv_669, hP_670, hn_671, hk_672, hc_673⟩ := rd_use hx_658 hG_654
                          have hF_674 := FR.call (mds := []) (mas := []) hG_652 go_ mq0_ kq0_ rfl hF_665
                          have mxE_663 : E_663 ≤ 1202 := by have h9 := cF_le g ma0_ ka0_; have h8 : cF _ _ = _ := hE_666; omega
                          have hx_675 := exN.tr exN.rf hX_667
                          have hck_676 : cr_657 ≤ K_ := by omega
                          have b_677 : bd 0 2499 r_657 := ⟨hv_669.1, (by have h9 := hv_669.2.1; omega)⟩
                          have g := g.more hF_661
                          refine lv_istore_n (lv' := [(2, .int r_657), (1, .int x_1), (0, .ref a0_)]) hx hb dX14_readOne_170 rfl hl (by decide) rfl (fun ls hl => ?_)
                          refine lv_aload_n hx hb dX14_readOne_171 rfl (lv_at hl 2 rfl) ?_
                          refine lv_bipush (v := 41) hx hb dX14_readOne_172 (by decide) ?_
                          have go_ := g
                          refine g_callEv (As := [.int 41]) (rest := []) ⟨hx, hb, hml, hown, hts⟩ (r_X14_closing l dC dI L kd tys fr_657 H.size g.2.2.2.1 adK adV a0_ ma0_ ka0_ 41 x_659 h_660 x_630 h_631 (g.fcts [1, 0] rfl)) (cwV 1 hts (gV_ t_2492 t_2494 t_120 t_198 t_2495) rfl rfl rfl (by decide +kernel) ⟨(show 8 + 1 ≤ N + 1 + 24 by omega), (show 8 + (2 + 11) + 176 ≤ 60 * (N + 1) + 700 by omega)⟩) (pre3VA g hK hAm ma0_ ka0_ (by decide) (q := (RX14, TX14, 67)) rfl) rfl hl.1 rfl (lv_room (Nat.le_of_ble_eq_true rfl)) dX14_readOne_174 (cl_f hck_676) g hK (by decide) (by decide) (fx' := [(14, 23, a0_, .int x_573), (14, 2, a0_, .ref q0_), (14, 16, a0_, .int o_)]) rfl (fun xr_678 fr_678 H locs mxr_678 kxr_678 hp hMr_678 g => ?_) (fun fr_678 H locs hp hMr_678 g => ?_)
                          · have hG_679 := isV.frame hMr_678 go_.2.2.2.1 mq0_ kq0_ (by decide) (by decide) hV_664
                            have hG_680 := FR.frame hMr_678 go_.2.2.2.1 mq0_ kq0_ (by decide) (by decide) hF_674
                            subst hQ
                            exact leavesX hempty hlocks (fun t ht hW => g_thrX g hK mxr_678 kxr_678 (by omega) ht hW) g.2.2.1.2.2
                          · obtain ⟨hx_681, h_682, x_683, h_684, x_685, ⟨h_686, rh_686⟩, hF_687⟩ := hp
                            have hG_688 := isV.frame hMr_678 go_.2.2.2.1 mq0_ kq0_ (by decide) (by decide) hV_664
                            have hG_689 := FR.frame hMr_678 go_.2.2.2.1 mq0_ kq0_ (by decide) (by decide) hF_674
                            obtain ⟨E_690, hE_690⟩ : ∃ E : Int, cEq fr_678 a0_ E := ⟨_, rfl⟩
                            have mxE_690 : E_690 ≤ 1202 := by have h9 := cF_le g ma0_ ka0_; have h8 : cF _ _ = _ := hE_690; omega
                            have lE_690 : E_663 + 1 ≤ E_690 := by have h9 := hx_681; have h8 : cF _ _ = _ := hE_690; have h7 : cF _ _ = _ := hE_666; omega
                            have b_691 : bd 0 1200 x_659 := eqX rfl h_660 h_682 (by decide)
                            have g := g.more hF_687
                            refine lv_aload_n hx hb dX14_readOne_177 rfl (lv_at hl 2 rfl) ?_
                            refine lv_aload_n hx hb dX14_readOne_178 rfl (lv_at hl 2 rfl) ?_
                            refine g_getk (C := RX14) (T := TX14) (N := 67) hx hb hts (mc_ inX14) hown hK g rfl 2 (by decide) rfl (hts _ (List.mem_cons_of_mem _ t_2148)) (fun _ h9 => h9) 3 rfl dX14_readOne_179 ?_
                            refine g_getr (K := 205) (C := RX12) (T := TX12) (N := 60) hx hb hts (mc_ inX12) hown hK g mq0_ kq0_ (by decide) rfl 51 (by decide) rfl (hts _ (List.mem_cons_of_mem _ t_2006)) (fun _ h9 => h9) rfl dX14_readOne_182 (fun a_692 ma_692 ka_692 g => ?_)
                            refine lv_iload_n hx hb dX14_readOne_185 rfl (lv_at hl 0 rfl) ?_
                            refine g_iald hx hb hK g ma_692 ka_692 (by decide) rfl (in_bd b_677 (by decide)) dX14_readOne_186 (fun x_693 bx_693 cx_693 => ?_)
                            have vx_693 : x_693 = V_662.i 51 r_657.toNatClampNeg := hG_688.at g 0 rfl rfl cx_693
                            have b_694 : bd 1 12 x_693 := ev_hb hw_668 hv_669 vx_693
                            refine lv_bipush (v := 12) hx hb dX14_readOne_187 (by decide) ?_
                            have kb_12 : bd 12 12 (12 : Int32) := ⟨by decide, by decide⟩
                            refine lv_icmp_ge (tgt := 196) hx hb dX14_readOne_189 (by decide) (fun c_695 => ?_) (fun c_695 => ?_)
                            · have fc_695 := le_f c_695
                              have b_696 : bd 12 12 x_693 := leR fc_695 kb_12 b_694 (by decide)
                              refine lv_iconst (v := 0) hx hb dX14_readOne_196 (by decide) ?_
                              refine lv_bipush (v := 7) hx hb dX14_readOne_197 (by decide) ?_
                              refine lv_iload_n hx hb dX14_readOne_199 rfl (lv_at hl 1 rfl) ?_
                              have kb_0 : bd 0 0 (0 : Int32) := ⟨by decide, by decide⟩
                              have go_ := g
                              refine g_callEv (As := [.int 0, .int 7, .int x_1]) (rest := []) ⟨hx, hb, hml, hown, hts⟩ (r_X14_need_2 l dC dI L kd tys fr_678 H.size g.2.2.2.1 a0_ ma0_ ka0_ 0 kb_0 7 x_1) (cwV 3 hts (gV_ t_2403 t_2405 t_100 t_198 t_2406) rfl rfl rfl (by decide +kernel) ⟨(show 1 + 1 ≤ N + 1 + 24 by omega), (show 8 + (4 + 11) + 22 ≤ 60 * (N + 1) + 700 by omega)⟩) (pre3V g hK ma0_ ka0_ (by decide) (q := (RX14, TX14, 67)) rfl) rfl hl.1 rfl (lv_room (Nat.le_of_ble_eq_true rfl)) dX14_readOne_200 (cl_f hck_676) g hK (by decide) (by decide) (fx' := [(12, 51, q0_, .ref a_692), (14, 10, a0_, .int x_683), (14, 25, a0_, .int x_685), (14, 23, a0_, .int x_573), (14, 2, a0_, .ref q0_), (14, 16, a0_, .int o_)]) rfl (fun xr_697 fr_697 H locs mxr_697 kxr_697 hp hMr_697 g => ?_) (fun fr_697 H locs hp hMr_697 g => ?_)
                              · have hG_698 := isV.frame hMr_697 go_.2.2.2.1 mq0_ kq0_ (by decide) (by decide) hG_688
                                have hG_699 := FR.frame hMr_697 go_.2.2.2.1 mq0_ kq0_ (by decide) (by decide) hG_689
                                have hG_700 := cEq.frame hMr_697 go_.2.2.2.1 ma0_ ka0_ (by decide) (by decide) hE_690
                                subst hQ
                                exact leavesX hempty hlocks (fun t ht hW => g_thrX g hK mxr_697 kxr_697 (by omega) ht hW) g.2.2.1.2.2
                              · exact hp.elim
                            · have fc_695 := nle_f c_695
                              have b_701 : bd 1 11 x_693 := ltL fc_695 b_694 kb_12 (by decide)
                              refine lv_iconst (v := 1) hx hb dX14_readOne_192 (by decide) ?_
                              refine lv_goto (tgt := 197) hx hb dX14_readOne_193 (by decide) ?_
                              refine lv_bipush (v := 7) hx hb dX14_readOne_197 (by decide) ?_
                              refine lv_iload_n hx hb dX14_readOne_199 rfl (lv_at hl 1 rfl) ?_
                              have go_ := g
                              refine g_callEv (As := [.int 1, .int 7, .int x_1]) (rest := []) ⟨hx, hb, hml, hown, hts⟩ (r_X14_need_3 l dC dI L kd tys fr_678 H.size g.2.2.2.1 a0_ ma0_ ka0_ 1 kb_1 7 x_1) (cwV 3 hts (gV_ t_2403 t_2405 t_100 t_198 t_2406) rfl rfl rfl (by decide +kernel) ⟨(show 0 + 1 ≤ N + 1 + 24 by omega), (show 8 + (4 + 11) + 0 ≤ 60 * (N + 1) + 700 by omega)⟩) (pre3V g hK ma0_ ka0_ (by decide) (q := (RX14, TX14, 67)) rfl) rfl hl.1 rfl (lv_room (Nat.le_of_ble_eq_true rfl)) dX14_readOne_200 (cl_f hck_676) g hK (by decide) (by decide) (fx' := [(12, 51, q0_, .ref a_692), (14, 10, a0_, .int x_683), (14, 25, a0_, .int x_685), (14, 23, a0_, .int x_573), (14, 2, a0_, .ref q0_), (14, 16, a0_, .int o_)]) rfl (fun xr_702 fr_702 H locs mxr_702 kxr_702 hp hMr_702 g => ?_) (fun fr_702 H locs hp hMr_702 g => ?_)
                              · have hG_703 := isV.frame hMr_702 go_.2.2.2.1 mq0_ kq0_ (by decide) (by decide) hG_688
                                have hG_704 := FR.frame hMr_702 go_.2.2.2.1 mq0_ kq0_ (by decide) (by decide) hG_689
                                have hG_705 := cEq.frame hMr_702 go_.2.2.2.1 ma0_ ka0_ (by decide) (by decide) hE_690
                                exact hp.elim
                              · have hG_706 := isV.frame hMr_702 go_.2.2.2.1 mq0_ kq0_ (by decide) (by decide) hG_688
                                have hG_707 := FR.frame hMr_702 go_.2.2.2.1 mq0_ kq0_ (by decide) (by decide) hG_689
                                have hG_708 := cEq.frame hMr_702 go_.2.2.2.1 ma0_ ka0_ (by decide) (by decide) hE_690
                                refine lv_aload_n hx hb dX14_readOne_203 rfl (lv_at hl 2 rfl) ?_
                                refine lv_iconst (v := 4) hx hb dX14_readOne_204 (by decide) ?_
                                refine lv_iload_n hx hb dX14_readOne_205 rfl (lv_at hl 0 rfl) ?_
                                refine lv_iconst (v := (-1)) hx hb dX14_readOne_206 (by decide) ?_
                                refine lv_iconst (v := 1) hx hb dX14_readOne_207 (by decide) ?_
                                refine lv_aload_n hx hb dX14_readOne_208 rfl (lv_at hl 2 rfl) ?_
                                refine g_getk (C := RX14) (T := TX14) (N := 67) hx hb hts (mc_ inX14) hown hK g rfl 2 (by decide) rfl (hts _ (List.mem_cons_of_mem _ t_2148)) (fun _ h9 => h9) 4 rfl dX14_readOne_209 ?_
                                refine g_getk (C := RX12) (T := TX12) (N := 60) hx hb hts (mc_ inX12) hown hK g rfl 51 (by decide) rfl (hts _ (List.mem_cons_of_mem _ t_2006)) (fun _ h9 => h9) 0 rfl dX14_readOne_212 ?_
                                refine lv_iload_n hx hb dX14_readOne_215 rfl (lv_at hl 0 rfl) ?_
                                refine g_iald hx hb hK g ma_692 ka_692 (by decide) rfl (in_bd b_677 (by decide)) dX14_readOne_216 (fun x_709 bx_709 cx_709 => ?_)
                                obtain rfl : x_693 = x_709 := el_same cx_693 cx_709 (arr_eq hMr_702 ma_692 ka_692 (by decide) rfl)
                                refine lv_iadd hx hb dX14_readOne_217 ?_
                                refine lv_topi (fun y_710 ey_710 => ?_)
                                have ty_710 := add_bd ey_710 kb_1 b_701 (by decide)
                                have b_711 : bd 2 12 y_710 := add_rg ty_710 kb_1 b_701 (by decide)
                                have hnb : (V_662.n 57).toInt ≤ 2499 := by omega
                                have go_ := g
                                refine g_calli (va_runV (As := [.int 4, .int r_657, .int (-1), .int y_710]) (rest := []) ⟨hx, hb, hml, hown, hts⟩ (r_X14_node l dC dI L kd tys fr_702 H.size g.2.2.2.1 a0_ ma0_ ka0_ 4 r_657 (-1) y_710 q0_ mq0_ kq0_ o_ bo_ V_662 hG_706 hnb (g.fcts [4, 5] rfl)) (cwV 4 hts (gV_ t_2480 t_2482 t_117 t_198 t_2483) rfl rfl rfl (by decide +kernel) ⟨(show 0 + 1 ≤ N + 1 + 24 by omega), (show 8 + (6 + 11) + 0 ≤ 60 * (N + 1) + 700 by omega)⟩) (pre3V g hK ma0_ ka0_ (by decide) (q := (RX14, TX14, 67)) rfl) rfl rfl hl.1 rfl (lv_room (Nat.le_of_ble_eq_true rfl)) dX14_readOne_218 (cl_f hck_676)) g hK (by decide) (by decide) (fx' := [(12, 51, q0_, .ref a_692), (14, 10, a0_, .int x_683), (14, 25, a0_, .int x_685), (14, 23, a0_, .int x_573), (14, 2, a0_, .ref q0_), (14, 16, a0_, .int o_)]) rfl (fun r_712 fr_712 H locs hp hMr_712 g => ?_)
                                obtain ⟨hx_713, hx_714, h_715, x_716, h_717, hF_718⟩ := hp
                                have hG_719 := cEq.frame hMr_712 go_.2.2.2.1 ma0_ ka0_ (by decide) (by decide) hG_708
                                have hF_720 := FR.call (mds := []) (mas := []) hG_707 go_ mq0_ kq0_ rfl hx_714
                                obtain ⟨V_721, hV_722, hN_723⟩ := hx_713
                                have g := g.more hF_718
                                have hf_724 : fin V_662 V_721 r_712 12 o_ := nd_old hN_723 h_715.1 hw_668 ⟨(by have h9_0 := bo_; unfold bd at h9_0; have h9_1 := b_637; unfold bd at h9_1; have h9_2 := b_677; unfold bd at h9_2; have h9_3 := h_715; unfold bd at h9_3; have h9_4 := b_621; unfold bd at h9_4; have h9_5 := bx_1; unfold bd at h9_5; have h9_6 := h_17; unfold bd at h9_6; have h9_7 := b_572; unfold bd at h9_7; have h9_8 := b_583; unfold bd at h9_8; have h9_9 := h_590; unfold bd at h9_9; have h9_10 := b_636; unfold bd at h9_10; have h9_11 := h_629; unfold bd at h9_11; have h9_12 := h_631; unfold bd at h9_12; have h9_13 := b_645; unfold bd at h9_13; have h9_14 := bx_646; unfold bd at h9_14; have h9_15 := b_691; unfold bd at h9_15; have h9_16 := h_684; unfold bd at h9_16; have h9_17 := h_686; unfold bd at h9_17; have h9_18 := b_701; unfold bd at h9_18; have h9_19 := h_717; unfold bd at h9_19; have h9_20 := b_711; unfold bd at h9_20; have h8_0 := kb_1; unfold bd at h8_0; have h8_1 := kb_12; unfold bd at h8_1; have h8_2 := kb_3; unfold bd at h8_2; omega), (by have h9_0 := bo_; unfold bd at h9_0; have h9_1 := b_637; unfold bd at h9_1; have h9_2 := b_677; unfold bd at h9_2; have h9_3 := h_715; unfold bd at h9_3; have h9_4 := b_621; unfold bd at h9_4; have h9_5 := bx_1; unfold bd at h9_5; have h9_6 := h_17; unfold bd at h9_6; have h9_7 := b_572; unfold bd at h9_7; have h9_8 := b_583; unfold bd at h9_8; have h9_9 := h_590; unfold bd at h9_9; have h9_10 := b_636; unfold bd at h9_10; have h9_11 := h_629; unfold bd at h9_11; have h9_12 := h_631; unfold bd at h9_12; have h9_13 := b_645; unfold bd at h9_13; have h9_14 := bx_646; unfold bd at h9_14; have h9_15 := b_691; unfold bd at h9_15; have h9_16 := h_684; unfold bd at h9_16; have h9_17 := h_686; unfold bd at h9_17; have h9_18 := b_701; unfold bd at h9_18; have h9_19 := h_717; unfold bd at h9_19; have h9_20 := b_711; unfold bd at h9_20; have h8_0 := kb_1; unfold bd at h8_0; have h8_1 := kb_12; unfold bd at h8_1; have h8_2 := kb_3; unfold bd at h8_2; omega)⟩ (by have h9_0 := bo_; unfold bd at h9_0; have h9_1 := b_637; unfold bd at h9_1; have h9_2 := b_677; unfold bd at h9_2; have h9_3 := h_715; unfold bd at h9_3; have h9_4 := b_621; unfold bd at h9_4; have h9_5 := bx_1; unfold bd at h9_5; have h9_6 := h_17; unfold bd at h9_6; have h9_7 := b_572; unfold bd at h9_7; have h9_8 := b_583; unfold bd at h9_8; have h9_9 := h_590; unfold bd at h9_9; have h9_10 := b_636; unfold bd at h9_10; have h9_11 := h_629; unfold bd at h9_11; have h9_12 := h_631; unfold bd at h9_12; have h9_13 := b_645; unfold bd at h9_13; have h9_14 := bx_646; unfold bd at h9_14; have h9_15 := b_691; unfold bd at h9_15; have h9_16 := h_684; unfold bd at h9_16; have h9_17 := h_686; unfold bd at h9_17; have h9_18 := b_701; unfold bd at h9_18; have h9_19 := h_717; unfold bd at h9_19; have h9_20 := b_711; unfold bd at h9_20; have h8_0 := kb_1; unfold bd at h8_0; have h8_1 := kb_12; unfold bd at h8_1; have h8_2 := kb_3; unfold bd at h8_2; omega) (by rw [hx_675.2.2.1 0 (by decide)]; exact ho) (by decide) (EV.at_ hv_669 vx_693) (by have h9_0 := bo_; unfold bd at h9_0; have h9_1 := b_637; unfold bd at h9_1; have h9_2 := b_677; unfold bd at h9_2; have h9_3 := h_715; unfold bd at h9_3; have h9_4 := b_621; unfold bd at h9_4; have h9_5 := bx_1; unfold bd at h9_5; have h9_6 := h_17; unfold bd at h9_6; have h9_7 := b_572; unfold bd at h9_7; have h9_8 := b_583; unfold bd at h9_8; have h9_9 := h_590; unfold bd at h9_9; have h9_10 := b_636; unfold bd at h9_10; have h9_11 := h_629; unfold bd at h9_11; have h9_12 := h_631; unfold bd at h9_12; have h9_13 := b_645; unfold bd at h9_13; have h9_14 := bx_646; unfold bd at h9_14; have h9_15 := b_691; unfold bd at h9_15; have h9_16 := h_684; unfold bd at h9_16; have h9_17 := h_686; unfold bd at h9_17; have h9_18 := b_701; unfold bd at h9_18; have h9_19 := h_717; unfold bd at h9_19; have h9_20 := b_711; unfold bd at h9_20; have h8_0 := kb_1; unfold bd at h8_0; have h8_1 := kb_12; unfold bd at h8_1; have h8_2 := kb_3; unfold bd at h8_2; omega) (hP_670.2 (by decide))
                                have ho_728 : (V_721.i 47 r_712.toNatClampNeg).toInt = 4 := (congrArg Int32.toInt (hN_723).2.2.2.1).trans (by decide)
                                obtain ⟨V_725, hV_726, hf_727, ho_728⟩ : ∃ V1 : PV, isV fr_712 q0_ V1 ∧ fin V_662 V1 r_712 12 o_ ∧ (V1.i 47 r_712.toNatClampNeg).toInt = 4 := ⟨_, hV_722, hf_724, ho_728⟩
                                have hf_727n := hf_727.2.2.2
                                have hx_729 := exN.tr hx_675 hf_727.1
                                have he_730 := exN.ev hf_727.1 hv_669
                                obtain rfl : op_ = x_685 := Int32.toInt_inj.mp (by have h9_0 := bo_; unfold bd at h9_0; have h9_1 := b_637; unfold bd at h9_1; have h9_2 := b_677; unfold bd at h9_2; have h9_3 := h_715; unfold bd at h9_3; have h9_4 := b_621; unfold bd at h9_4; have h9_5 := bx_1; unfold bd at h9_5; have h9_6 := h_17; unfold bd at h9_6; have h9_7 := b_572; unfold bd at h9_7; have h9_8 := b_583; unfold bd at h9_8; have h9_9 := h_590; unfold bd at h9_9; have h9_10 := b_636; unfold bd at h9_10; have h9_11 := h_629; unfold bd at h9_11; have h9_12 := h_631; unfold bd at h9_12; have h9_13 := b_645; unfold bd at h9_13; have h9_14 := bx_646; unfold bd at h9_14; have h9_15 := b_691; unfold bd at h9_15; have h9_16 := h_684; unfold bd at h9_16; have h9_17 := h_686; unfold bd at h9_17; have h9_18 := b_701; unfold bd at h9_18; have h9_19 := h_717; unfold bd at h9_19; have h9_20 := b_711; unfold bd at h9_20; have h8_0 := kb_1; unfold bd at h8_0; have h8_1 := kb_12; unfold bd at h8_1; have h8_2 := kb_3; unfold bd at h8_2; omega)
                                have h9c : cF fr_712 a0_ = _ := hG_719
                                subst hQ
                                exact iretX (v := r_712) hx hb hr (fun t ht hW => g_retX g hK ⟨_, rfl, ⟨⟨_, hV_726, hF_720, hx_729, hf_727.2.1, hf_727.2.2.1, trivial, (by omega), (by omega), (by omega)⟩, x_683, h_684, (g.fcts [3, 2] rfl)⟩⟩ ht hW) g.2.2.1.2.2 dX14_readOne_221 hlocks
              · have hG_731 := FR.frame hMr_595 go_.2.2.2.1 mq0_ kq0_ (by decide) (by decide) hF_593
                have hG_732 := isV.frame hMr_595 go_.2.2.2.1 mq0_ kq0_ (by decide) (by decide) hx_587
                obtain rfl : r_595 = 1 := h_602
                obtain ⟨E_733, hE_733⟩ : ∃ E : Int, cEq fr_595 a0_ E := ⟨_, rfl⟩
                have mxE_733 : E_733 ≤ 1202 := by have h9 := cF_le g ma0_ ka0_; have h8 : cF _ _ = _ := hE_733; omega
                have lE_733 : (cF f0 a0_) + 1 ≤ E_733 := by have h9 := hx_601; have h8 : cF _ _ = _ := hE_733; have h7 : cF _ _ = _ := hG_592; omega
                have b_734 : bd 0 1200 t_ := eqX rfl bt_ h_603 (by decide)
                have g := g.more hF_606
                refine lv_if_eq (tgt := 132) hx hb dX14_readOne_120 (by decide) (fun c_ => absurd c_ (by decide)) (fun c_ => ?_)
                refine lv_aload_n hx hb dX14_readOne_123 rfl (lv_at hl 1 rfl) ?_
                refine lv_iconst (v := 5) hx hb dX14_readOne_124 (by decide) ?_
                refine lv_iconst (v := (-1)) hx hb dX14_readOne_125 (by decide) ?_
                refine lv_iconst (v := (-1)) hx hb dX14_readOne_126 (by decide) ?_
                refine lv_iconst (v := 1) hx hb dX14_readOne_127 (by decide) ?_
                have hnb : (V_.n 57).toInt ≤ 2499 := by omega
                have go_ := g
                refine g_calli (va_runV (As := [.int 5, .int (-1), .int (-1), .int 1]) (rest := []) ⟨hx, hb, hml, hown, hts⟩ (r_X14_node l dC dI L kd tys fr_595 H.size g.2.2.2.1 a0_ ma0_ ka0_ 5 (-1) (-1) 1 q0_ mq0_ kq0_ o_ bo_ V_ hG_732 hnb (g.fcts [3, 4] rfl)) (cwV 4 hts (gV_ t_2480 t_2482 t_117 t_198 t_2483) rfl rfl rfl (by decide +kernel) ⟨(show 0 + 1 ≤ N + 1 + 24 by omega), (show 8 + (6 + 11) + 0 ≤ 60 * (N + 1) + 700 by omega)⟩) (pre3V g hK ma0_ ka0_ (by decide) (q := (RX14, TX14, 67)) rfl) rfl rfl hl.1 rfl (lv_room (Nat.le_of_ble_eq_true rfl)) dX14_readOne_128 (cl_f hck_0)) g hK (by decide) (by decide) (fx' := [(14, 10, a0_, .int x_604), (12, 58, q0_, .int x_589), (14, 23, a0_, .int x_573), (14, 2, a0_, .ref q0_), (14, 16, a0_, .int o_), (14, 25, a0_, .int op_)]) rfl (fun r_735 fr_735 H locs hp hMr_735 g => ?_)
                obtain ⟨hx_736, hx_737, h_738, x_739, h_740, hF_741⟩ := hp
                have hG_742 := cEq.frame hMr_735 go_.2.2.2.1 ma0_ ka0_ (by decide) (by decide) hE_733
                have hF_743 := FR.call (mds := []) (mas := []) hG_731 go_ mq0_ kq0_ rfl hx_737
                obtain ⟨V_744, hV_745, hN_746⟩ := hx_736
                have g := g.more hF_741
                have hf_747 : fin V_ V_744 r_735 12 o_ := nd_leaf hN_746 h_738.1 hwf (by decide) (by decide) ho (by decide)
                have ho_751 : (V_744.i 47 r_735.toNatClampNeg).toInt = 5 := (congrArg Int32.toInt (hN_746).2.2.2.1).trans (by decide)
                obtain ⟨V_748, hV_749, hf_750, ho_751⟩ : ∃ V1 : PV, isV fr_735 q0_ V1 ∧ fin V_ V1 r_735 12 o_ ∧ (V1.i 47 r_735.toNatClampNeg).toInt = 5 := ⟨_, hV_745, hf_747, ho_751⟩
                have hf_750n := hf_750.2.2.2
                have hx_752 := exN.tr exN.rf hf_750.1
                have h9c : cF fr_735 a0_ = _ := hG_742
                subst hQ
                exact iretX (v := r_735) hx hb hr (fun t ht hW => g_retX g hK ⟨_, rfl, ⟨⟨_, hV_749, hF_743, hx_752, hf_750.2.1, hf_750.2.2.1, trivial, (by omega), (by omega), (by omega)⟩, x_604, h_605, (g.fcts [6, 1] rfl)⟩⟩ ht hW) g.2.2.1.2.2 dX14_readOne_131 hlocks
    · have hG_753 := isV.frame hMr_4 go_.2.2.2.1 mq0_ kq0_ (by decide) (by decide) hV
      have hG_754 := FR.frame hMr_4 go_.2.2.2.1 mq0_ kq0_ (by decide) (by decide) FR.refl
      have hG_755 := cEq.frame hMr_4 go_.2.2.2.1 ma0_ ka0_ (by decide) (by decide) hC_0
      obtain rfl : r_4 = 1 := h_6
      have g := g.more hF_9
      have e_756 := fx_same g 1 0 rfl rfl
      have b_757 : bd 4 4 x_2 := eqX (eq_f e_756.symm) bx_2 h_8 (by decide)
      have g := g.sub (fx' := [(14, 6, a0_, .int x_2), (14, 8, a0_, .int x_1), (14, 2, a0_, .ref q0_), (14, 16, a0_, .int o_), (14, 25, a0_, .int op_), (14, 10, a0_, .int t_)]) [1, 2, 3, 4, 5, 6] rfl
      refine lv_if_eq (tgt := 79) hx hb dX14_readOne_56 (by decide) (fun c_ => absurd c_ (by decide)) (fun c_ => ?_)
      refine lv_aload_n hx hb dX14_readOne_59 rfl (lv_at hl 1 rfl) ?_
      refine lv_bipush (v := 40) hx hb dX14_readOne_60 (by decide) ?_
      have hs_758 := sE_1 g 0 rfl (by have h9_0 := bo_; unfold bd at h9_0; have h9_1 := bop_; unfold bd at h9_1; have h9_2 := bt_; unfold bd at h9_2; have h9_3 := bx_1; unfold bd at h9_3; have h9_4 := b_757; unfold bd at h9_4; have h9_5 := h_8; unfold bd at h9_5; have h8_0 := kb_3; unfold bd at h8_0; omega)
      have go_ := g
      refine g_callEv (As := [.int 40]) (rest := []) ⟨hx, hb, hml, hown, hts⟩ (r_X14_opening_2 l dC dI L kd tys fr_4 H.size g.2.2.2.1 adK adV a0_ ma0_ ka0_ 40 t_ bt_ op_ bop_ (g.fcts [5, 4] rfl)) (cwV 1 hts (gV_ t_2484 t_2486 t_118 t_198 t_2487) rfl rfl rfl (by decide +kernel) ⟨(show 7 + 1 ≤ N + 1 + 24 by omega), (show 8 + (2 + 11) + 155 ≤ 60 * (N + 1) + 700 by omega)⟩) (pre3VA g hK hAm ma0_ ka0_ (by decide) (q := (RX14, TX14, 67)) rfl) rfl hl.1 rfl (lv_room (Nat.le_of_ble_eq_true rfl)) dX14_readOne_62 (cl_f hck_0) g hK (by decide) (by decide) (fx' := [(14, 2, a0_, .ref q0_), (14, 16, a0_, .int o_)]) rfl (fun xr_759 fr_759 H locs mxr_759 kxr_759 hp hMr_759 g => ?_) (fun fr_759 H locs hp hMr_759 g => ?_)
      · have hG_760 := isV.frame hMr_759 go_.2.2.2.1 mq0_ kq0_ (by decide) (by decide) hG_753
        have hG_761 := FR.frame hMr_759 go_.2.2.2.1 mq0_ kq0_ (by decide) (by decide) hG_754
        subst hQ
        exact leavesX hempty hlocks (fun t ht hW => g_thrX g hK mxr_759 kxr_759 (by omega) ht hW) g.2.2.1.2.2
      · obtain ⟨hx_762, h_763, h_764, x_765, h_766, x_767, ⟨h_768, rh_768⟩, hF_769⟩ := hp
        have hG_770 := isV.frame hMr_759 go_.2.2.2.1 mq0_ kq0_ (by decide) (by decide) hG_753
        have hG_771 := FR.frame hMr_759 go_.2.2.2.1 mq0_ kq0_ (by decide) (by decide) hG_754
        obtain ⟨E_772, hE_772⟩ : ∃ E : Int, cEq fr_759 a0_ E := ⟨_, rfl⟩
        have mxE_772 : E_772 ≤ 1202 := by have h9 := cF_le g ma0_ ka0_; have h8 : cF _ _ = _ := hE_772; omega
        have lE_772 : (cF f0 a0_) + 1 ≤ E_772 := by have h9 := hx_762; have h8 : cF _ _ = _ := hE_772; have h7 : cF _ _ = _ := hG_755; omega
        have b_773 : bd 0 1200 t_ := eqX rfl bt_ h_763 (by decide)
        have b_774 : bd 0 39 op_ := eqX rfl bop_ h_764 (by decide)
        have g := g.more hF_769
        refine lv_aload_n hx hb dX14_readOne_65 rfl (lv_at hl 1 rfl) ?_
        refine lv_iconst (v := 1) hx hb dX14_readOne_66 (by decide) ?_
        have qc__775 : cF fr_759 a0_ = _ := hE_772
        have kb_1 : bd 1 1 (1 : Int32) := ⟨by decide, by decide⟩
        have go_ := g
        refine g_callXi (As := [.int 1]) (rest := []) ⟨hx, hb, hml, hown, hts⟩ (ih.1 l dC dI L kd tys fr_759 H.size g.2.2.2.1 adK adV a0_ ma0_ ka0_ (1 : Int32) (bd_sub kb_1 (by decide)) q0_ mq0_ kq0_ V_ o_ bo_ x_767 (bd_sub h_768 (by decide)) x_765 h_766 hG_770 hwf ho (by omega) (K_ - cl_0) (by omega) (by have h9_0 := bo_; unfold bd at h9_0; have h9_1 := b_774; unfold bd at h9_1; have h9_2 := b_773; unfold bd at h9_2; have h9_3 := bx_1; unfold bd at h9_3; have h9_4 := b_757; unfold bd at h9_4; have h9_5 := h_8; unfold bd at h9_5; have h9_6 := h_766; unfold bd at h9_6; have h9_7 := h_768; unfold bd at h9_7; have h8_0 := kb_1; unfold bd at h8_0; have h8_1 := kb_3; unfold bd at h8_1; omega) (g.fcts [2, 3, 1, 0] rfl)) (cwV 1 hts (gV_ t_2464 t_2466 t_113 t_198 t_2467) rfl rfl rfl (by decide +kernel) ⟨(show N + 24 + 1 ≤ N + 1 + 24 by omega), (show 8 + (7 + 11) + (60 * N + 700) ≤ 60 * (N + 1) + 700 by omega)⟩) (pre3VA g hK hAm ma0_ ka0_ (by decide) (q := (RX14, TX14, 67)) rfl) rfl hl.1 rfl (lv_room (Nat.le_of_ble_eq_true rfl)) dX14_readOne_67 (cl_k (K := K_) (k := K_ - cl_0) (show cl_0 + (K_ - cl_0) ≤ K_ by omega)) g hK (by decide) (by decide) (fx' := [(14, 2, a0_, .ref q0_), (14, 16, a0_, .int o_)]) rfl (fun xr_776 fr_776 H locs kr_776 cr_776 ecr_776 mxr_776 kxr_776 hp hMr_776 g => ?_) (fun r_776 fr_776 H locs kr_776 cr_776 ecr_776 hp hMr_776 g => ?_)
        · subst hQ
          exact leavesX hempty hlocks (fun t ht hW => g_thrX g hK mxr_776 kxr_776 (by omega) ht hW) g.2.2.1.2.2
        · obtain ⟨hx_777, x_778, h_779, hF_780⟩ := hp
          obtain ⟨V_781, E_782, hV_783, hF_784, hE_785, hX_786, hw_787, hv_788, hP_789, hn_790, hk_791, hc_792⟩ := rd_use hx_777 hE_772
          have hF_793 := FR.call (mds := []) (mas := []) hG_771 go_ mq0_ kq0_ rfl hF_784
          have mxE_782 : E_782 ≤ 1202 := by have h9 := cF_le g ma0_ ka0_; have h8 : cF _ _ = _ := hE_785; omega
          have hx_794 := exN.tr exN.rf hX_786
          have hck_795 : cr_776 ≤ K_ := by omega
          have b_796 : bd 0 2499 r_776 := ⟨hv_788.1, (by have h9 := hv_788.2.1; omega)⟩
          have g := g.more hF_780
          refine lv_istore_n (lv' := [(2, .int r_776), (1, .int x_1), (0, .ref a0_)]) hx hb dX14_readOne_70 rfl hl (by decide) rfl (fun ls hl => ?_)
          refine lv_aload_n hx hb dX14_readOne_71 rfl (lv_at hl 2 rfl) ?_
          refine lv_bipush (v := 41) hx hb dX14_readOne_72 (by decide) ?_
          have go_ := g
          refine g_callEv (As := [.int 41]) (rest := []) ⟨hx, hb, hml, hown, hts⟩ (r_X14_closing l dC dI L kd tys fr_776 H.size g.2.2.2.1 adK adV a0_ ma0_ ka0_ 41 x_778 h_779 x_767 h_768 (g.fcts [1, 0] rfl)) (cwV 1 hts (gV_ t_2492 t_2494 t_120 t_198 t_2495) rfl rfl rfl (by decide +kernel) ⟨(show 8 + 1 ≤ N + 1 + 24 by omega), (show 8 + (2 + 11) + 176 ≤ 60 * (N + 1) + 700 by omega)⟩) (pre3VA g hK hAm ma0_ ka0_ (by decide) (q := (RX14, TX14, 67)) rfl) rfl hl.1 rfl (lv_room (Nat.le_of_ble_eq_true rfl)) dX14_readOne_74 (cl_f hck_795) g hK (by decide) (by decide) (fx' := [(14, 2, a0_, .ref q0_), (14, 16, a0_, .int o_)]) rfl (fun xr_797 fr_797 H locs mxr_797 kxr_797 hp hMr_797 g => ?_) (fun fr_797 H locs hp hMr_797 g => ?_)
          · have hG_798 := isV.frame hMr_797 go_.2.2.2.1 mq0_ kq0_ (by decide) (by decide) hV_783
            have hG_799 := FR.frame hMr_797 go_.2.2.2.1 mq0_ kq0_ (by decide) (by decide) hF_793
            subst hQ
            exact leavesX hempty hlocks (fun t ht hW => g_thrX g hK mxr_797 kxr_797 (by omega) ht hW) g.2.2.1.2.2
          · obtain ⟨hx_800, h_801, x_802, h_803, x_804, ⟨h_805, rh_805⟩, hF_806⟩ := hp
            have hG_807 := isV.frame hMr_797 go_.2.2.2.1 mq0_ kq0_ (by decide) (by decide) hV_783
            have hG_808 := FR.frame hMr_797 go_.2.2.2.1 mq0_ kq0_ (by decide) (by decide) hF_793
            obtain ⟨E_809, hE_809⟩ : ∃ E : Int, cEq fr_797 a0_ E := ⟨_, rfl⟩
            have mxE_809 : E_809 ≤ 1202 := by have h9 := cF_le g ma0_ ka0_; have h8 : cF _ _ = _ := hE_809; omega
            have lE_809 : E_782 + 1 ≤ E_809 := by have h9 := hx_800; have h8 : cF _ _ = _ := hE_809; have h7 : cF _ _ = _ := hE_785; omega
            have b_810 : bd 0 1200 x_778 := eqX rfl h_779 h_801 (by decide)
            have g := g.more hF_806
            refine lv_iload_n hx hb dX14_readOne_77 rfl (lv_at hl 0 rfl) ?_
            obtain rfl : op_ = x_804 := Int32.toInt_inj.mp (by have h9_0 := bo_; unfold bd at h9_0; have h9_1 := b_774; unfold bd at h9_1; have h9_2 := b_796; unfold bd at h9_2; have h9_3 := b_773; unfold bd at h9_3; have h9_4 := bx_1; unfold bd at h9_4; have h9_5 := b_757; unfold bd at h9_5; have h9_6 := h_8; unfold bd at h9_6; have h9_7 := h_766; unfold bd at h9_7; have h9_8 := h_768; unfold bd at h9_8; have h9_9 := b_810; unfold bd at h9_9; have h9_10 := h_803; unfold bd at h9_10; have h9_11 := h_805; unfold bd at h9_11; have h8_0 := kb_1; unfold bd at h8_0; have h8_1 := kb_3; unfold bd at h8_1; omega)
            have h9c : cF fr_797 a0_ = _ := hE_809
            subst hQ
            exact iretX (v := r_776) hx hb hr (fun t ht hW => g_retX g hK ⟨_, rfl, ⟨⟨_, hG_807, hG_808, hx_794, hw_787, hv_788, trivial, (by omega), (by omega), (by omega)⟩, x_802, h_803, (g.fcts [1, 0] rfl)⟩⟩ ht hW) g.2.2.1.2.2 dX14_readOne_78 hlocks
  · have fc_3 := eq_f c_3
    have b_811 : bd 3 3 x_2 := eqX fc_3 bx_2 kb_3 (by decide)
    refine lv_aload_n hx hb dX14_readOne_13 rfl (lv_at hl 1 rfl) ?_
    have hs_812 := sE_1 g 0 rfl (by have h9_0 := bo_; unfold bd at h9_0; have h9_1 := bop_; unfold bd at h9_1; have h9_2 := bt_; unfold bd at h9_2; have h9_3 := bx_1; unfold bd at h9_3; have h9_4 := b_811; unfold bd at h9_4; have h8_0 := kb_3; unfold bd at h8_0; omega)
    have go_ := g
    refine g_callEv (As := []) (rest := []) ⟨hx, hb, hml, hown, hts⟩ (r_X14_counts_2 l dC dI L kd tys f0 s.heap.size g.2.2.2.1 a0_ ma0_ ka0_ q0_ mq0_ kq0_ V_ hV (g.fcts [2] rfl)) (cwV 0 hts (gV_ t_2476 t_2478 t_116 t_198 t_2479) rfl rfl rfl (by decide +kernel) ⟨(show 2 + 1 ≤ N + 1 + 24 by omega), (show 8 + (1 + 11) + 45 ≤ 60 * (N + 1) + 700 by omega)⟩) (pre3V g hK ma0_ ka0_ (by decide) (q := (RX14, TX14, 67)) rfl) rfl hl.1 rfl (lv_room (Nat.le_of_ble_eq_true rfl)) dX14_readOne_14 (cl_f hck_0) g hK (by decide) (by decide) (fx' := [(14, 6, a0_, .int x_2), (14, 8, a0_, .int x_1), (14, 2, a0_, .ref q0_), (14, 16, a0_, .int o_), (14, 25, a0_, .int op_), (14, 10, a0_, .int t_)]) rfl (fun xr_813 fr_813 H locs mxr_813 kxr_813 hp hMr_813 g => ?_) (fun fr_813 H locs hp hMr_813 g => ?_)
    · have hG_814 := cEq.frame hMr_813 go_.2.2.2.1 ma0_ ka0_ (by decide) (by decide) hC_0
      subst hQ
      exact leavesX hempty hlocks (fun t ht hW => g_thrX g hK mxr_813 kxr_813 (by omega) ht hW) g.2.2.1.2.2
    · obtain ⟨hx_815, hx_816, x_817, h_818, hF_819⟩ := hp
      have hG_820 := cEq.frame hMr_813 go_.2.2.2.1 ma0_ ka0_ (by decide) (by decide) hC_0
      have hF_821 := FR.call (mds := []) (mas := []) FR.refl go_ mq0_ kq0_ rfl hx_816
      have g := g.more hF_819
      refine lv_aload_n hx hb dX14_readOne_17 rfl (lv_at hl 1 rfl) ?_
      refine g_getl (C := RX14) (T := TX14) (N := 67) hx hb hts (mc_ inX14) hown hK g ma0_ ka0_ (by decide) rfl 11 (by decide) rfl (hts _ (List.mem_cons_of_mem _ t_2157)) (fun _ h9 => h9) rfl dX14_readOne_18 (fun x_822 g => ?_)
      refine lv_lstore_n (lv' := [(2, .long x_822), (1, .int x_1), (0, .ref a0_)]) hx hb dX14_readOne_21 rfl hl (by decide) rfl (fun ls hl => ?_)
      refine lv_aload_n hx hb dX14_readOne_22 rfl (lv_at hl 2 rfl) ?_
      have hs_823 := sE_1 g 2 rfl (by have h9_0 := bo_; unfold bd at h9_0; have h9_1 := bop_; unfold bd at h9_1; have h9_2 := bt_; unfold bd at h9_2; have h9_3 := bx_1; unfold bd at h9_3; have h9_4 := b_811; unfold bd at h9_4; have h9_5 := h_818; unfold bd at h9_5; have h8_0 := kb_3; unfold bd at h8_0; omega)
      have go_ := g
      refine g_callEv (As := []) (rest := []) ⟨hx, hb, hml, hown, hts⟩ (r_X14_next_2 l dC dI L kd tys fr_813 H.size g.2.2.2.1 adK adV a0_ ma0_ ka0_ t_ bt_ (g.fcts [7] rfl)) (cwV 0 hts (gV_ t_2411 t_2413 t_102 t_198 t_2414) rfl rfl rfl (by decide +kernel) ⟨(show 6 + 1 ≤ N + 1 + 24 by omega), (show 8 + (1 + 11) + 135 ≤ 60 * (N + 1) + 700 by omega)⟩) (pre3VA g hK hAm ma0_ ka0_ (by decide) (q := (RX14, TX14, 67)) rfl) rfl hl.1 rfl (lv_room (Nat.le_of_ble_eq_true rfl)) dX14_readOne_23 (cl_f hck_0) g hK (by decide) (by decide) (fx' := [(12, 58, q0_, .int x_817), (14, 2, a0_, .ref q0_), (14, 16, a0_, .int o_), (14, 25, a0_, .int op_)]) rfl (fun xr_824 fr_824 H locs mxr_824 kxr_824 hp hMr_824 g => ?_) (fun fr_824 H locs hp hMr_824 g => ?_)
      · have hG_825 := FR.frame hMr_824 go_.2.2.2.1 mq0_ kq0_ (by decide) (by decide) hF_821
        have hG_826 := isV.frame hMr_824 go_.2.2.2.1 mq0_ kq0_ (by decide) (by decide) hx_815
        subst hQ
        exact leavesX hempty hlocks (fun t ht hW => g_thrX g hK mxr_824 kxr_824 (by omega) ht hW) g.2.2.1.2.2
      · obtain ⟨hx_827, h_828, x_829, h_830, hF_831⟩ := hp
        have hG_832 := FR.frame hMr_824 go_.2.2.2.1 mq0_ kq0_ (by decide) (by decide) hF_821
        have hG_833 := isV.frame hMr_824 go_.2.2.2.1 mq0_ kq0_ (by decide) (by decide) hx_815
        obtain ⟨E_834, hE_834⟩ : ∃ E : Int, cEq fr_824 a0_ E := ⟨_, rfl⟩
        have mxE_834 : E_834 ≤ 1202 := by have h9 := cF_le g ma0_ ka0_; have h8 : cF _ _ = _ := hE_834; omega
        have lE_834 : (cF f0 a0_) + 1 ≤ E_834 := by have h9 := hx_827; have h8 : cF _ _ = _ := hE_834; have h7 : cF _ _ = _ := hG_820; have h6 := hs_823; have h5 := tk_c (f := fr_813) (t := a0_); omega
        have b_835 : bd 0 1200 t_ := eqX rfl bt_ h_828 (by decide)
        have g := g.more hF_831
        refine lv_aload_n hx hb dX14_readOne_26 rfl (lv_at hl 2 rfl) ?_
        refine lv_iconst (v := 1) hx hb dX14_readOne_27 (by decide) ?_
        refine lv_iconst (v := (-1)) hx hb dX14_readOne_28 (by decide) ?_
        refine lv_iconst (v := (-1)) hx hb dX14_readOne_29 (by decide) ?_
        refine lv_iconst (v := 1) hx hb dX14_readOne_30 (by decide) ?_
        have hnb : (V_.n 57).toInt ≤ 2499 := by omega
        have go_ := g
        refine g_calli (va_runV (As := [.int 1, .int (-1), .int (-1), .int 1]) (rest := []) ⟨hx, hb, hml, hown, hts⟩ (r_X14_node l dC dI L kd tys fr_824 H.size g.2.2.2.1 a0_ ma0_ ka0_ 1 (-1) (-1) 1 q0_ mq0_ kq0_ o_ bo_ V_ hG_833 hnb (g.fcts [2, 3] rfl)) (cwV 4 hts (gV_ t_2480 t_2482 t_117 t_198 t_2483) rfl rfl rfl (by decide +kernel) ⟨(show 0 + 1 ≤ N + 1 + 24 by omega), (show 8 + (6 + 11) + 0 ≤ 60 * (N + 1) + 700 by omega)⟩) (pre3V g hK ma0_ ka0_ (by decide) (q := (RX14, TX14, 67)) rfl) rfl rfl hl.1 rfl (lv_room (Nat.le_of_ble_eq_true rfl)) dX14_readOne_31 (cl_f hck_0)) g hK (by decide) (by decide) (fx' := [(14, 10, a0_, .int x_829), (12, 58, q0_, .int x_817), (14, 2, a0_, .ref q0_), (14, 16, a0_, .int o_), (14, 25, a0_, .int op_)]) rfl (fun r_836 fr_836 H locs hp hMr_836 g => ?_)
        obtain ⟨hx_837, hx_838, h_839, x_840, h_841, hF_842⟩ := hp
        have hG_843 := cEq.frame hMr_836 go_.2.2.2.1 ma0_ ka0_ (by decide) (by decide) hE_834
        have hF_844 := FR.call (mds := []) (mas := []) hG_832 go_ mq0_ kq0_ rfl hx_838
        obtain ⟨V_845, hV_846, hN_847⟩ := hx_837
        have g := g.more hF_842
        refine lv_istore (lv' := [(4, .int r_836), (2, .long x_822), (1, .int x_1), (0, .ref a0_)]) hx hb dX14_readOne_34 hl (by decide) rfl (fun ls hl => ?_)
        refine lv_aload_n hx hb dX14_readOne_36 rfl (lv_at hl 3 rfl) ?_
        refine g_getk (C := RX14) (T := TX14) (N := 67) hx hb hts (mc_ inX14) hown hK g rfl 2 (by decide) rfl (hts _ (List.mem_cons_of_mem _ t_2148)) (fun _ h9 => h9) 3 rfl dX14_readOne_37 ?_
        refine g_getr (K := 209) (C := RX12) (T := TX12) (N := 60) hx hb hts (mc_ inX12) hown hK g mq0_ kq0_ (by decide) rfl 55 (by decide) rfl (hts _ (List.mem_cons_of_mem _ t_2014)) (fun _ h9 => h9) rfl dX14_readOne_40 (fun a_848 ma_848 ka_848 g => ?_)
        refine lv_iload hx hb dX14_readOne_43 (lv_at hl 0 rfl) ?_
        refine lv_lload_n hx hb dX14_readOne_45 rfl (lv_at hl 1 rfl) ?_
        have gp_849 := g
        have go_ := g
        refine g_lastX hx hb hK g ma_848 ka_848 (by decide) rfl (in_bd h_839 (by decide)) (by decide) dX14_readOne_46 (fun f H locs hM_850 u_852 g => ?_)
        have hG_851 := cEq.frame hM_850 go_.2.2.2.1 ma0_ ka0_ (by decide) (by decide) hG_843
        have hV_853 := isV.ul hV_846 gp_849 0 rfl mq0_ kq0_ rfl u_852
        have hF_854 := FR.arr hF_844 gp_849 0 rfl mq0_ kq0_ rfl rfl u_852.1
        have hN_855 := NN.s55 (w := x_822) hN_847 h_839.1
        refine lv_iload hx hb dX14_readOne_47 (lv_at hl 0 rfl) ?_
        have hf_856 : fin V_ (V_845.ul 55 r_836.toNatClampNeg x_822) r_836 12 o_ := nd_leaf hN_855 h_839.1 hwf (by decide) (by decide) ho (by decide)
        have ho_860 : ((V_845.ul 55 r_836.toNatClampNeg x_822).i 47 r_836.toNatClampNeg).toInt = 1 := (congrArg Int32.toInt (hN_855).2.2.2.1).trans (by decide)
        obtain ⟨V_857, hV_858, hf_859, ho_860⟩ : ∃ V1 : PV, isV f q0_ V1 ∧ fin V_ V1 r_836 12 o_ ∧ (V1.i 47 r_836.toNatClampNeg).toInt = 1 := ⟨_, hV_853, hf_856, ho_860⟩
        have hf_859n := hf_859.2.2.2
        have hx_861 := exN.tr exN.rf hf_859.1
        have h9c : cF f a0_ = _ := hG_851
        subst hQ
        exact iretX (v := r_836) hx hb hr (fun t ht hW => g_retX g hK ⟨_, rfl, ⟨⟨_, hV_858, hF_854, hx_861, hf_859.2.1, hf_859.2.2.1, trivial, (by omega), (by omega), (by omega)⟩, x_829, h_830, (g.fcts [6, 2] rfl)⟩⟩ ht hW) g.2.2.1.2.2 dX14_readOne_49 hlocks
