set_option maxHeartbeats 4000000 in
set_option maxRecDepth 100000 in
theorem r_X14_readOne (N : Nat) (ih : RecR N) (l : Launch) (dC : Nat → ClassId) (dI : Nat → Nat → Nat) (L : List Nat) (kd : Nat → Nat) (tys : List (ClassId × FieldType)) (f0 : Nat → va_E) (sz : Nat) (hWT : WT L kd tys f0) (adK adV : Nat → Nat) (a0_ : Nat) (ma0_ : a0_ ∈ L) (ka0_ : kd a0_ = 14) (q0_ : Nat) (mq0_ : q0_ ∈ L) (kq0_ : kd q0_ = 12) (V_ : PV) (o_ : Int32) (bo_ : bd 0 7 o_) (op_ : Int32) (bop_ : bd 0 40 op_) (t_ : Int32) (bt_ : bd 0 1201 t_) (hV : isV f0 q0_ V_) (hwf : wfN V_ (V_.n 57).toInt) (ho : (o_.toNatClampNeg : Int) < (V_.n 0).toInt) (hnn : (V_.n 57).toInt ≤ cF f0 a0_) (K_ : Nat) (hK_ : 1204 ≤ 2 * (K_ : Int) + cF f0 a0_) (hN : 11 * (40 - op_.toInt) + 3 ≤ ((N + 1 : Nat) : Int)) (hfx : Fs L kd f0 [(14, 2, a0_, .ref q0_), (14, 16, a0_, .int o_), (14, 25, a0_, .int op_), (14, 10, a0_, .int t_)]) : MetX l yX14_readOne (.code yX14_readOne cX14_readOne 5 (some .int) :: lw_g) ({ frames := (N + 1) + 24, cells := K_, slots := 3 * K_, locals := 60 * (N + 1) + 700 }) (va_Pc [.ref a0_] (P3A (dC, dI) L tys f0 sz adK adV)) (q3Z (dC, dI) L kd tys [(12, 57), (12, 58), (14, 6), (14, 7), (14, 8), (14, 9), (14, 10), (14, 11), (14, 12), (14, 13), (14, 14), (14, 15), (14, 25)] [180, 201, 202, 203, 204, 205, 206, 207, 208, 209, 210] f0 sz (pXi (fun (r : Int32) (f : Nat → va_E) (k : Nat) => (rdP L kd f0 a0_ q0_ V_ o_ (12) 0 r f k (fun _ => True)) ∧ ∃ z1_ : Int32, bd 0 1201 z1_ ∧ Fs L kd f [(14, 25, a0_, .int op_), (14, 10, a0_, .int z1_)])) (fun (f : Nat → va_E) (k : Nat) => FR L kd f0 f q0_ ∧ 2 * (k : Int) + cF f0 a0_ ≤ 1203)) (pA L sz) := by
  refine MetX.ofW (cc := cX14_readOne) (maxL := 5) (ret := (some .int)) (by decide) rfl ?_
  intro p e s m args below meth c s₁ B hml hempty hv
  obtain ⟨rfl, ⟨hsz, hP, hK, hD0⟩, hAm⟩ := hv
  have hx := B.exec
  have hb := B.bytes
  have hr := B.returns
  have hts := atoms_spec (ws := (.code yX14_readOne cX14_readOne 5 (some .int) :: lw_g)) B.pre
  have hown : s.vm.findClass RX14 = some m.cls := findClass_of_methodNamed B.named
  have hlocks := B.notSynchronized
  subst hsz
  have g : G3 (dC, dI) L kd tys s f0 [(12, 57), (12, 58), (14, 6), (14, 7), (14, 8), (14, 9), (14, 10), (14, 11), (14, 12), (14, 13), (14, 14), (14, 15), (14, 25)] [180, 201, 202, 203, 204, 205, 206, 207, 208, 209, 210] f0 s.heap [] [(14, 2, a0_, .ref q0_), (14, 16, a0_, .int o_), (14, 25, a0_, .int op_), (14, 10, a0_, .int t_)] := G3.start hP hD0 hWT hfx
  have hl := lv_entry ([.ref a0_]) (n := 5) (Nat.le_of_ble_eq_true rfl)
  rw [lg_entry_eq]
  generalize (lg_sl ([.ref a0_]) ++ List.replicate (5 - (lg_sl ([.ref a0_])).length) Slot.unset).toArray = ls at hl ⊢
  have hl : lv_has ls 5 [(0, .ref a0_)] := hl
  refine W_q (fun Q hQ => ?_)
  refine W_c0 (fun cl_0 hc_0 => ?_)
  have hck_0 : cl_0 ≤ K_ := by omega
  have hC_0 : cEq f0 a0_ (cF f0 a0_) := rfl
  have hm_0 : cF f0 a0_ ≤ 1202 := cF_le g ma0_ ka0_
  have hm_1 : -1 ≤ cF f0 a0_ := cF_ge g ma0_ ka0_
  refine lv_aload_n hx hb dX14_readOne_0 rfl (lv_at hl 0 rfl) ?_
  refine g_geti (C := RX14) (T := TX14) (N := 67) hx hb hts (mc_ inX14) hown hK g ma0_ ka0_ (by decide) rfl 8 (by decide) rfl (hts _ (List.mem_cons_of_mem _ t_2154)) (fun _ h9 => h9) rfl dX14_readOne_1 (fun x_1 bx_1 g => ?_)
  refine lv_istore_n (lv' := [(1, .int x_1), (0, .ref a0_)]) hx hb dX14_readOne_4 rfl hl (by decide) rfl (fun ls hl => ?_)
  refine lv_aload_n hx hb dX14_readOne_5 rfl (lv_at hl 1 rfl) ?_
  refine g_geti (C := RX14) (T := TX14) (N := 67) hx hb hts (mc_ inX14) hown hK g ma0_ ka0_ (by decide) rfl 6 (by decide) rfl (hts _ (List.mem_cons_of_mem _ t_2152)) (fun _ h9 => h9) rfl dX14_readOne_6 (fun x_2 bx_2 g => ?_)
  refine lv_iconst (v := 3) hx hb dX14_readOne_9 (by decide) ?_
  have kb_3 : bd 3 3 (3 : Int32) := ⟨by decide, by decide⟩
  refine lv_icmp_ne (tgt := 50) hx hb dX14_readOne_10 (by decide) (fun c_3 => ?_) (fun c_3 => ?_)
  · have fc_3 := neq_f c_3
    refine lv_aload_n hx hb dX14_readOne_50 rfl (lv_at hl 1 rfl) ?_
    refine lv_bipush (v := 40) hx hb dX14_readOne_51 (by decide) ?_
    have go_ := g
    refine g_calli (va_runV (As := [.int 40]) (rest := []) ⟨hx, hb, hml, hown, hts⟩ (r_X14_isSign l dC dI L kd tys f0 s.heap.size g.2.2.2.1 a0_ ma0_ ka0_ 40) (cwV 1 hts (gV_ t_2435 t_2437 t_108 t_198 t_2438) rfl rfl rfl (by decide +kernel) ⟨(show 0 + 1 ≤ N + 1 + 24 by omega), (show 8 + (2 + 11) + 0 ≤ 60 * (N + 1) + 700 by omega)⟩) (pre3V g hK ma0_ ka0_ (by decide) (q := (RX14, TX14, 67)) rfl) rfl rfl hl.1 rfl (lv_room (Nat.le_of_ble_eq_true rfl)) dX14_readOne_53 (cl_f hck_0)) g hK (by decide) (by decide) (fx' := [(14, 6, a0_, .int x_2), (14, 8, a0_, .int x_1), (14, 2, a0_, .ref q0_), (14, 16, a0_, .int o_), (14, 25, a0_, .int op_), (14, 10, a0_, .int t_)]) rfl (fun r_4 fr_4 H locs hp hMr_4 g => ?_)
    rcases hp with ⟨h_5, -⟩ | ⟨h_6, x_7, h_8, hF_9⟩
    · have hG_10 := isV.frame hMr_4 go_.2.2.2.1 mq0_ kq0_ (by decide) (by decide) hV
      have hG_11 := FR.frame hMr_4 go_.2.2.2.1 mq0_ kq0_ (by decide) (by decide) FR.refl
      have hG_12 := cEq.frame hMr_4 go_.2.2.2.1 ma0_ ka0_ (by decide) (by decide) hC_0
      obtain rfl : r_4 = 0 := h_5
      refine lv_if_eq (tgt := 79) hx hb dX14_readOne_56 (by decide) (fun c_ => ?_) (fun c_ => absurd (by decide) c_)
      refine lv_aload_n hx hb dX14_readOne_79 rfl (lv_at hl 1 rfl) ?_
      refine lv_bipush (v := 18) hx hb dX14_readOne_80 (by decide) ?_
      have go_ := g
      refine g_calli (va_runV (As := [.int 18]) (rest := []) ⟨hx, hb, hml, hown, hts⟩ (r_X14_isWord l dC dI L kd tys fr_4 H.size g.2.2.2.1 a0_ ma0_ ka0_ 18) (cwV 1 hts (gV_ t_2399 t_2401 t_99 t_198 t_2402) rfl rfl rfl (by decide +kernel) ⟨(show 0 + 1 ≤ N + 1 + 24 by omega), (show 8 + (2 + 11) + 0 ≤ 60 * (N + 1) + 700 by omega)⟩) (pre3V g hK ma0_ ka0_ (by decide) (q := (RX14, TX14, 67)) rfl) rfl rfl hl.1 rfl (lv_room (Nat.le_of_ble_eq_true rfl)) dX14_readOne_82 (cl_f hck_0)) g hK (by decide) (by decide) (fx' := [(14, 6, a0_, .int x_2), (14, 8, a0_, .int x_1), (14, 2, a0_, .ref q0_), (14, 16, a0_, .int o_), (14, 25, a0_, .int op_), (14, 10, a0_, .int t_)]) rfl (fun r_13 fr_13 H locs hp hMr_13 g => ?_)
      rcases hp with ⟨h_14, -⟩ | ⟨h_15, x_16, h_17, hF_18⟩
      · have hG_19 := isV.frame hMr_13 go_.2.2.2.1 mq0_ kq0_ (by decide) (by decide) hG_10
        have hG_20 := FR.frame hMr_13 go_.2.2.2.1 mq0_ kq0_ (by decide) (by decide) hG_11
        have hG_21 := cEq.frame hMr_13 go_.2.2.2.1 ma0_ ka0_ (by decide) (by decide) hG_12
        obtain rfl : r_13 = 0 := h_14
        refine lv_if_ne (tgt := 97) hx hb dX14_readOne_85 (by decide) (fun c_ => absurd c_ (by decide)) (fun c_ => ?_)
        refine lv_aload_n hx hb dX14_readOne_88 rfl (lv_at hl 1 rfl) ?_
        refine lv_bipush (v := 19) hx hb dX14_readOne_89 (by decide) ?_
        have go_ := g
        refine g_calli (va_runV (As := [.int 19]) (rest := []) ⟨hx, hb, hml, hown, hts⟩ (r_X14_isWord l dC dI L kd tys fr_13 H.size g.2.2.2.1 a0_ ma0_ ka0_ 19) (cwV 1 hts (gV_ t_2399 t_2401 t_99 t_198 t_2402) rfl rfl rfl (by decide +kernel) ⟨(show 0 + 1 ≤ N + 1 + 24 by omega), (show 8 + (2 + 11) + 0 ≤ 60 * (N + 1) + 700 by omega)⟩) (pre3V g hK ma0_ ka0_ (by decide) (q := (RX14, TX14, 67)) rfl) rfl rfl hl.1 rfl (lv_room (Nat.le_of_ble_eq_true rfl)) dX14_readOne_91 (cl_f hck_0)) g hK (by decide) (by decide) (fx' := [(14, 6, a0_, .int x_2), (14, 8, a0_, .int x_1), (14, 2, a0_, .ref q0_), (14, 16, a0_, .int o_), (14, 25, a0_, .int op_), (14, 10, a0_, .int t_)]) rfl (fun r_22 fr_22 H locs hp hMr_22 g => ?_)
        rcases hp with ⟨h_23, -⟩ | ⟨h_24, x_25, h_26, hF_27⟩
        · have hG_28 := isV.frame hMr_22 go_.2.2.2.1 mq0_ kq0_ (by decide) (by decide) hG_19
          have hG_29 := FR.frame hMr_22 go_.2.2.2.1 mq0_ kq0_ (by decide) (by decide) hG_20
          have hG_30 := cEq.frame hMr_22 go_.2.2.2.1 ma0_ ka0_ (by decide) (by decide) hG_21
          obtain rfl : r_22 = 0 := h_23
          refine lv_if_eq (tgt := 222) hx hb dX14_readOne_94 (by decide) (fun c_ => ?_) (fun c_ => absurd (by decide) c_)
          refine lv_aload_n hx hb dX14_readOne_222 rfl (lv_at hl 1 rfl) ?_
          refine lv_bipush (v := 20) hx hb dX14_readOne_223 (by decide) ?_
          have go_ := g
          refine g_calli (va_runV (As := [.int 20]) (rest := []) ⟨hx, hb, hml, hown, hts⟩ (r_X14_isWord l dC dI L kd tys fr_22 H.size g.2.2.2.1 a0_ ma0_ ka0_ 20) (cwV 1 hts (gV_ t_2399 t_2401 t_99 t_198 t_2402) rfl rfl rfl (by decide +kernel) ⟨(show 0 + 1 ≤ N + 1 + 24 by omega), (show 8 + (2 + 11) + 0 ≤ 60 * (N + 1) + 700 by omega)⟩) (pre3V g hK ma0_ ka0_ (by decide) (q := (RX14, TX14, 67)) rfl) rfl rfl hl.1 rfl (lv_room (Nat.le_of_ble_eq_true rfl)) dX14_readOne_225 (cl_f hck_0)) g hK (by decide) (by decide) (fx' := [(14, 6, a0_, .int x_2), (14, 8, a0_, .int x_1), (14, 2, a0_, .ref q0_), (14, 16, a0_, .int o_), (14, 25, a0_, .int op_), (14, 10, a0_, .int t_)]) rfl (fun r_31 fr_31 H locs hp hMr_31 g => ?_)
          rcases hp with ⟨h_32, -⟩ | ⟨h_33, x_34, h_35, hF_36⟩
          · have hG_37 := isV.frame hMr_31 go_.2.2.2.1 mq0_ kq0_ (by decide) (by decide) hG_28
            have hG_38 := FR.frame hMr_31 go_.2.2.2.1 mq0_ kq0_ (by decide) (by decide) hG_29
            have hG_39 := cEq.frame hMr_31 go_.2.2.2.1 ma0_ ka0_ (by decide) (by decide) hG_30
            obtain rfl : r_31 = 0 := h_32
            refine lv_if_eq (tgt := 376) hx hb dX14_readOne_228 (by decide) (fun c_ => ?_) (fun c_ => absurd (by decide) c_)
            refine lv_aload_n hx hb dX14_readOne_376 rfl (lv_at hl 1 rfl) ?_
            refine lv_iconst (v := 1) hx hb dX14_readOne_377 (by decide) ?_
            have go_ := g
            refine g_calli (va_runV (As := [.int 1]) (rest := []) ⟨hx, hb, hml, hown, hts⟩ (r_X14_isWord l dC dI L kd tys fr_31 H.size g.2.2.2.1 a0_ ma0_ ka0_ 1) (cwV 1 hts (gV_ t_2399 t_2401 t_99 t_198 t_2402) rfl rfl rfl (by decide +kernel) ⟨(show 0 + 1 ≤ N + 1 + 24 by omega), (show 8 + (2 + 11) + 0 ≤ 60 * (N + 1) + 700 by omega)⟩) (pre3V g hK ma0_ ka0_ (by decide) (q := (RX14, TX14, 67)) rfl) rfl rfl hl.1 rfl (lv_room (Nat.le_of_ble_eq_true rfl)) dX14_readOne_378 (cl_f hck_0)) g hK (by decide) (by decide) (fx' := [(14, 6, a0_, .int x_2), (14, 8, a0_, .int x_1), (14, 2, a0_, .ref q0_), (14, 16, a0_, .int o_), (14, 25, a0_, .int op_), (14, 10, a0_, .int t_)]) rfl (fun r_40 fr_40 H locs hp hMr_40 g => ?_)
            rcases hp with ⟨h_41, -⟩ | ⟨h_42, x_43, h_44, hF_45⟩
            · have hG_46 := isV.frame hMr_40 go_.2.2.2.1 mq0_ kq0_ (by decide) (by decide) hG_37
              have hG_47 := FR.frame hMr_40 go_.2.2.2.1 mq0_ kq0_ (by decide) (by decide) hG_38
              have hG_48 := cEq.frame hMr_40 go_.2.2.2.1 ma0_ ka0_ (by decide) (by decide) hG_39
              obtain rfl : r_40 = 0 := h_41
              refine lv_if_eq (tgt := 390) hx hb dX14_readOne_381 (by decide) (fun c_ => ?_) (fun c_ => absurd (by decide) c_)
              refine lv_aload_n hx hb dX14_readOne_390 rfl (lv_at hl 1 rfl) ?_
              refine lv_aload_n hx hb dX14_readOne_391 rfl (lv_at hl 1 rfl) ?_
              refine g_getk (C := RX14) (T := TX14) (N := 67) hx hb hts (mc_ inX14) hown hK g rfl 6 (by decide) rfl (hts _ (List.mem_cons_of_mem _ t_2152)) (fun _ h9 => h9) 0 rfl dX14_readOne_392 ?_
              refine lv_iconst (v := 1) hx hb dX14_readOne_395 (by decide) ?_
              have kb_1 : bd 1 1 (1 : Int32) := ⟨by decide, by decide⟩
              refine lv_icmp_ne (tgt := 403) hx hb dX14_readOne_396 (by decide) (fun c_49 => ?_) (fun c_49 => ?_)
              · have fc_49 := neq_f c_49
                refine lv_iconst (v := 0) hx hb dX14_readOne_403 (by decide) ?_
                refine lv_iconst (v := 1) hx hb dX14_readOne_404 (by decide) ?_
                refine lv_aload_n hx hb dX14_readOne_405 rfl (lv_at hl 1 rfl) ?_
                refine g_getk (C := RX14) (T := TX14) (N := 67) hx hb hts (mc_ inX14) hown hK g rfl 8 (by decide) rfl (hts _ (List.mem_cons_of_mem _ t_2154)) (fun _ h9 => h9) 1 rfl dX14_readOne_406 ?_
                have kb_0 : bd 0 0 (0 : Int32) := ⟨by decide, by decide⟩
                have go_ := g
                refine g_callEv (As := [.int 0, .int 1, .int x_1]) (rest := []) ⟨hx, hb, hml, hown, hts⟩ (r_X14_need_2 l dC dI L kd tys fr_40 H.size g.2.2.2.1 a0_ ma0_ ka0_ 0 kb_0 1 x_1) (cwV 3 hts (gV_ t_2403 t_2405 t_100 t_198 t_2406) rfl rfl rfl (by decide +kernel) ⟨(show 1 + 1 ≤ N + 1 + 24 by omega), (show 8 + (4 + 11) + 22 ≤ 60 * (N + 1) + 700 by omega)⟩) (pre3V g hK ma0_ ka0_ (by decide) (q := (RX14, TX14, 67)) rfl) rfl hl.1 rfl (lv_room (Nat.le_of_ble_eq_true rfl)) dX14_readOne_409 (cl_f hck_0) g hK (by decide) (by decide) (fx' := [(14, 6, a0_, .int x_2), (14, 8, a0_, .int x_1), (14, 2, a0_, .ref q0_), (14, 16, a0_, .int o_), (14, 25, a0_, .int op_), (14, 10, a0_, .int t_)]) rfl (fun xr_50 fr_50 H locs mxr_50 kxr_50 hp hMr_50 g => ?_) (fun fr_50 H locs hp hMr_50 g => ?_)
                · have hG_51 := isV.frame hMr_50 go_.2.2.2.1 mq0_ kq0_ (by decide) (by decide) hG_46
                  have hG_52 := FR.frame hMr_50 go_.2.2.2.1 mq0_ kq0_ (by decide) (by decide) hG_47
                  have hG_53 := cEq.frame hMr_50 go_.2.2.2.1 ma0_ ka0_ (by decide) (by decide) hG_48
                  subst hQ
                  exact leavesX hempty hlocks (fun t ht hW => g_thrZ g hK mxr_50 kxr_50 ⟨hG_52, (by omega)⟩ ht hW) g.2.2.1.2.2
                · exact hp.elim
              · have fc_49 := eq_f c_49
                have b_54 : bd 1 1 x_2 := eqX fc_49 bx_2 kb_1 (by decide)
                refine lv_iconst (v := 1) hx hb dX14_readOne_399 (by decide) ?_
                refine lv_goto (tgt := 404) hx hb dX14_readOne_400 (by decide) ?_
                refine lv_iconst (v := 1) hx hb dX14_readOne_404 (by decide) ?_
                refine lv_aload_n hx hb dX14_readOne_405 rfl (lv_at hl 1 rfl) ?_
                refine g_getk (C := RX14) (T := TX14) (N := 67) hx hb hts (mc_ inX14) hown hK g rfl 8 (by decide) rfl (hts _ (List.mem_cons_of_mem _ t_2154)) (fun _ h9 => h9) 1 rfl dX14_readOne_406 ?_
                have hs_55 := sE_1 g 0 rfl (by have h9_0 := bo_; unfold bd at h9_0; have h9_1 := bop_; unfold bd at h9_1; have h9_2 := bt_; unfold bd at h9_2; have h9_3 := bx_1; unfold bd at h9_3; have h9_4 := b_54; unfold bd at h9_4; have h8_0 := kb_1; unfold bd at h8_0; have h8_1 := kb_3; unfold bd at h8_1; omega)
                have go_ := g
                refine g_callEv (As := [.int 1, .int 1, .int x_1]) (rest := []) ⟨hx, hb, hml, hown, hts⟩ (r_X14_need_3 l dC dI L kd tys fr_40 H.size g.2.2.2.1 a0_ ma0_ ka0_ 1 kb_1 1 x_1) (cwV 3 hts (gV_ t_2403 t_2405 t_100 t_198 t_2406) rfl rfl rfl (by decide +kernel) ⟨(show 0 + 1 ≤ N + 1 + 24 by omega), (show 8 + (4 + 11) + 0 ≤ 60 * (N + 1) + 700 by omega)⟩) (pre3V g hK ma0_ ka0_ (by decide) (q := (RX14, TX14, 67)) rfl) rfl hl.1 rfl (lv_room (Nat.le_of_ble_eq_true rfl)) dX14_readOne_409 (cl_f hck_0) g hK (by decide) (by decide) (fx' := [(14, 6, a0_, .int x_2), (14, 8, a0_, .int x_1), (14, 2, a0_, .ref q0_), (14, 16, a0_, .int o_), (14, 25, a0_, .int op_), (14, 10, a0_, .int t_)]) rfl (fun xr_56 fr_56 H locs mxr_56 kxr_56 hp hMr_56 g => ?_) (fun fr_56 H locs hp hMr_56 g => ?_)
                · have hG_57 := isV.frame hMr_56 go_.2.2.2.1 mq0_ kq0_ (by decide) (by decide) hG_46
                  have hG_58 := FR.frame hMr_56 go_.2.2.2.1 mq0_ kq0_ (by decide) (by decide) hG_47
                  have hG_59 := cEq.frame hMr_56 go_.2.2.2.1 ma0_ ka0_ (by decide) (by decide) hG_48
                  exact hp.elim
                · have hG_60 := isV.frame hMr_56 go_.2.2.2.1 mq0_ kq0_ (by decide) (by decide) hG_46
                  have hG_61 := FR.frame hMr_56 go_.2.2.2.1 mq0_ kq0_ (by decide) (by decide) hG_47
                  have hG_62 := cEq.frame hMr_56 go_.2.2.2.1 ma0_ ka0_ (by decide) (by decide) hG_48
                  refine lv_aload_n hx hb dX14_readOne_412 rfl (lv_at hl 1 rfl) ?_
                  refine lv_iconst (v := 1) hx hb dX14_readOne_413 (by decide) ?_
                  refine lv_iconst (v := 0) hx hb dX14_readOne_414 (by decide) ?_
                  have qc__63 : cF fr_56 a0_ = _ := hG_62
                  have hs_64 := sE_1 g 0 rfl (by have h9_0 := bo_; unfold bd at h9_0; have h9_1 := bop_; unfold bd at h9_1; have h9_2 := bt_; unfold bd at h9_2; have h9_3 := bx_1; unfold bd at h9_3; have h9_4 := b_54; unfold bd at h9_4; have h8_0 := kb_1; unfold bd at h8_0; have h8_1 := kb_3; unfold bd at h8_1; omega)
                  have kb_0 : bd 0 0 (0 : Int32) := ⟨by decide, by decide⟩
                  have go_ := g
                  refine g_callZi (As := [.int 1, .int 0]) (rest := []) ⟨hx, hb, hml, hown, hts⟩ (ih.2.2.2.2.1 l dC dI L kd tys fr_56 H.size g.2.2.2.1 adK adV a0_ ma0_ ka0_ (1 : Int32) (bd_sub kb_1 (by decide)) (0 : Int32) (bd_sub kb_0 (by decide)) q0_ mq0_ kq0_ V_ o_ bo_ op_ bop_ t_ bt_ x_2 (bd_sub b_54 (by decide)) hG_60 hwf ho (by omega) 12 ⟨(by decide), (by decide), (fun h9 => absurd h9 (by decide))⟩ (K_ - cl_0) (by omega) (by have h9_0 := bo_; unfold bd at h9_0; have h9_1 := bop_; unfold bd at h9_1; have h9_2 := bt_; unfold bd at h9_2; have h9_3 := bx_1; unfold bd at h9_3; have h9_4 := b_54; unfold bd at h9_4; have h8_0 := kb_0; unfold bd at h8_0; have h8_1 := kb_1; unfold bd at h8_1; have h8_2 := kb_3; unfold bd at h8_2; omega) (g.fcts [2, 3, 4, 5, 0] rfl)) (cwV 2 hts (gV_ t_2496 t_2498 t_121 t_198 t_2499) rfl rfl rfl (by decide +kernel) ⟨(show N + 24 + 1 ≤ N + 1 + 24 by omega), (show 8 + (11 + 11) + (60 * N + 700) ≤ 60 * (N + 1) + 700 by omega)⟩) (pre3VA g hK hAm ma0_ ka0_ (by decide) (q := (RX14, TX14, 67)) rfl) rfl hl.1 rfl (lv_room (Nat.le_of_ble_eq_true rfl)) dX14_readOne_415 (cl_k (K := K_) (k := K_ - cl_0) (show cl_0 + (K_ - cl_0) ≤ K_ by omega)) g hK (by decide) (by decide) (fx' := [(14, 2, a0_, .ref q0_), (14, 16, a0_, .int o_)]) rfl (fun xr_65 fr_65 H locs kr_65 cr_65 ecr_65 mxr_65 kxr_65 hp hMr_65 g => ?_) (fun r_65 fr_65 H locs kr_65 cr_65 ecr_65 hp hMr_65 g => ?_)
                  · have hF_66 := FR.call (mds := []) (mas := []) hG_61 go_ mq0_ kq0_ rfl hp.1
                    have hpk := hp.2
                    subst hQ
                    exact leavesX hempty hlocks (fun t ht hW => g_thrZ g hK mxr_65 kxr_65 ⟨hF_66, (by omega)⟩ ht hW) g.2.2.1.2.2
                  · obtain ⟨hx_67, x_68, h_69, hF_70⟩ := hp
                    obtain ⟨V_71, E_72, hV_73, hF_74, hE_75, hX_76, hw_77, hv_78, hP_79, hn_80, hk_81, hc_82⟩ := rd_use hx_67 hG_62
                    have hF_83 := FR.call (mds := []) (mas := []) hG_61 go_ mq0_ kq0_ rfl hF_74
                    have mxE_72 : E_72 ≤ 1202 := by have h9 := cF_le g ma0_ ka0_; have h8 : cF _ _ = _ := hE_75; omega
                    have hx_84 := exN.tr exN.rf hX_76
                    have hck_85 : cr_65 ≤ K_ := by omega
                    have b_86 : bd 0 2499 r_65 := ⟨hv_78.1, (by have h9 := hv_78.2.1; omega)⟩
                    have g := g.more hF_70
                    have h9c : cF fr_65 a0_ = _ := hE_75
                    subst hQ
                    exact iretX (v := r_65) hx hb hr (fun t ht hW => g_retZ g hK ⟨_, rfl, ⟨⟨_, hV_73, hF_83, hx_84, hw_77, hv_78, trivial, (by omega), (by omega), (by omega)⟩, x_68, h_69, (g.fcts [0, 1] rfl)⟩⟩ ht hW) g.2.2.1.2.2 dX14_readOne_418 hlocks
            · have hG_87 := isV.frame hMr_40 go_.2.2.2.1 mq0_ kq0_ (by decide) (by decide) hG_37
              have hG_88 := FR.frame hMr_40 go_.2.2.2.1 mq0_ kq0_ (by decide) (by decide) hG_38
              have hG_89 := cEq.frame hMr_40 go_.2.2.2.1 ma0_ ka0_ (by decide) (by decide) hG_39
              obtain rfl : r_40 = 1 := h_42
              have g := g.more hF_45
              have e_90 := fx_same g 1 0 rfl rfl
              have b_91 : bd 2 2 x_2 := eqX (eq_f e_90.symm) bx_2 h_44 (by decide)
              have g := g.sub (fx' := [(14, 6, a0_, .int x_2), (14, 8, a0_, .int x_1), (14, 2, a0_, .ref q0_), (14, 16, a0_, .int o_), (14, 25, a0_, .int op_), (14, 10, a0_, .int t_)]) [1, 2, 3, 4, 5, 6] rfl
              refine lv_if_eq (tgt := 390) hx hb dX14_readOne_381 (by decide) (fun c_ => absurd c_ (by decide)) (fun c_ => ?_)
              refine lv_aload_n hx hb dX14_readOne_384 rfl (lv_at hl 1 rfl) ?_
              refine lv_iconst (v := 1) hx hb dX14_readOne_385 (by decide) ?_
              have qc__92 : cF fr_40 a0_ = _ := hG_89
              have hs_93 := sE_1 g 0 rfl (by have h9_0 := bo_; unfold bd at h9_0; have h9_1 := bop_; unfold bd at h9_1; have h9_2 := bt_; unfold bd at h9_2; have h9_3 := bx_1; unfold bd at h9_3; have h9_4 := b_91; unfold bd at h9_4; have h9_5 := h_44; unfold bd at h9_5; have h8_0 := kb_3; unfold bd at h8_0; omega)
              have kb_1 : bd 1 1 (1 : Int32) := ⟨by decide, by decide⟩
              have go_ := g
              refine g_callZi (As := [.int 1]) (rest := []) ⟨hx, hb, hml, hown, hts⟩ (ih.2.2.2.1 l dC dI L kd tys fr_40 H.size g.2.2.2.1 adK adV a0_ ma0_ ka0_ (1 : Int32) (bd_sub kb_1 (by decide)) q0_ mq0_ kq0_ V_ o_ bo_ op_ bop_ t_ bt_ hG_87 hwf ho (by omega) 12 ⟨(by decide), (by decide), (fun h9 => absurd h9 (by decide))⟩ (K_ - cl_0) (by omega) (by have h9_0 := bo_; unfold bd at h9_0; have h9_1 := bop_; unfold bd at h9_1; have h9_2 := bt_; unfold bd at h9_2; have h9_3 := bx_1; unfold bd at h9_3; have h9_4 := b_91; unfold bd at h9_4; have h9_5 := h_44; unfold bd at h9_5; have h8_0 := kb_1; unfold bd at h8_0; have h8_1 := kb_3; unfold bd at h8_1; omega) (g.fcts [2, 3, 4, 5] rfl)) (cwV 1 hts (gV_ t_2516 t_2518 t_125 t_198 t_2519) rfl rfl rfl (by decide +kernel) ⟨(show N + 24 + 1 ≤ N + 1 + 24 by omega), (show 8 + (9 + 11) + (60 * N + 700) ≤ 60 * (N + 1) + 700 by omega)⟩) (pre3VA g hK hAm ma0_ ka0_ (by decide) (q := (RX14, TX14, 67)) rfl) rfl hl.1 rfl (lv_room (Nat.le_of_ble_eq_true rfl)) dX14_readOne_386 (cl_k (K := K_) (k := K_ - cl_0) (show cl_0 + (K_ - cl_0) ≤ K_ by omega)) g hK (by decide) (by decide) (fx' := [(14, 2, a0_, .ref q0_), (14, 16, a0_, .int o_)]) rfl (fun xr_94 fr_94 H locs kr_94 cr_94 ecr_94 mxr_94 kxr_94 hp hMr_94 g => ?_) (fun r_94 fr_94 H locs kr_94 cr_94 ecr_94 hp hMr_94 g => ?_)
              · have hF_95 := FR.call (mds := []) (mas := []) hG_88 go_ mq0_ kq0_ rfl hp.1
                have hpk := hp.2
                subst hQ
                exact leavesX hempty hlocks (fun t ht hW => g_thrZ g hK mxr_94 kxr_94 ⟨hF_95, (by omega)⟩ ht hW) g.2.2.1.2.2
              · obtain ⟨hx_96, x_97, h_98, hF_99⟩ := hp
                obtain ⟨V_100, E_101, hV_102, hF_103, hE_104, hX_105, hw_106, hv_107, hP_108, hn_109, hk_110, hc_111⟩ := rd_use hx_96 hG_89
                have hF_112 := FR.call (mds := []) (mas := []) hG_88 go_ mq0_ kq0_ rfl hF_103
                have mxE_101 : E_101 ≤ 1202 := by have h9 := cF_le g ma0_ ka0_; have h8 : cF _ _ = _ := hE_104; omega
                have hx_113 := exN.tr exN.rf hX_105
                have hck_114 : cr_94 ≤ K_ := by omega
                have b_115 : bd 0 2499 r_94 := ⟨hv_107.1, (by have h9 := hv_107.2.1; omega)⟩
                have g := g.more hF_99
                have h9c : cF fr_94 a0_ = _ := hE_104
                subst hQ
                exact iretX (v := r_94) hx hb hr (fun t ht hW => g_retZ g hK ⟨_, rfl, ⟨⟨_, hV_102, hF_112, hx_113, hw_106, hv_107, trivial, (by omega), (by omega), (by omega)⟩, x_97, h_98, (g.fcts [0, 1] rfl)⟩⟩ ht hW) g.2.2.1.2.2 dX14_readOne_389 hlocks
          · have hG_116 := isV.frame hMr_31 go_.2.2.2.1 mq0_ kq0_ (by decide) (by decide) hG_28
            have hG_117 := FR.frame hMr_31 go_.2.2.2.1 mq0_ kq0_ (by decide) (by decide) hG_29
            have hG_118 := cEq.frame hMr_31 go_.2.2.2.1 ma0_ ka0_ (by decide) (by decide) hG_30
            obtain rfl : r_31 = 1 := h_33
            have g := g.more hF_36
            have e_119 := fx_same g 1 0 rfl rfl
            have b_120 : bd 2 2 x_2 := eqX (eq_f e_119.symm) bx_2 h_35 (by decide)
            have g := g.sub (fx' := [(14, 6, a0_, .int x_2), (14, 8, a0_, .int x_1), (14, 2, a0_, .ref q0_), (14, 16, a0_, .int o_), (14, 25, a0_, .int op_), (14, 10, a0_, .int t_)]) [1, 2, 3, 4, 5, 6] rfl
            refine lv_if_eq (tgt := 376) hx hb dX14_readOne_228 (by decide) (fun c_ => absurd c_ (by decide)) (fun c_ => ?_)
            refine lv_aload_n hx hb dX14_readOne_231 rfl (lv_at hl 1 rfl) ?_
            have hs_121 := sE_1 g 0 rfl (by have h9_0 := bo_; unfold bd at h9_0; have h9_1 := bop_; unfold bd at h9_1; have h9_2 := bt_; unfold bd at h9_2; have h9_3 := bx_1; unfold bd at h9_3; have h9_4 := b_120; unfold bd at h9_4; have h9_5 := h_35; unfold bd at h9_5; have h8_0 := kb_3; unfold bd at h8_0; omega)
            have go_ := g
            refine g_callEv (As := []) (rest := []) ⟨hx, hb, hml, hown, hts⟩ (r_X14_counts_2 l dC dI L kd tys fr_31 H.size g.2.2.2.1 a0_ ma0_ ka0_ q0_ mq0_ kq0_ V_ hG_116 (g.fcts [2] rfl)) (cwV 0 hts (gV_ t_2476 t_2478 t_116 t_198 t_2479) rfl rfl rfl (by decide +kernel) ⟨(show 2 + 1 ≤ N + 1 + 24 by omega), (show 8 + (1 + 11) + 45 ≤ 60 * (N + 1) + 700 by omega)⟩) (pre3V g hK ma0_ ka0_ (by decide) (q := (RX14, TX14, 67)) rfl) rfl hl.1 rfl (lv_room (Nat.le_of_ble_eq_true rfl)) dX14_readOne_232 (cl_f hck_0) g hK (by decide) (by decide) (fx' := [(14, 6, a0_, .int x_2), (14, 8, a0_, .int x_1), (14, 2, a0_, .ref q0_), (14, 16, a0_, .int o_), (14, 25, a0_, .int op_), (14, 10, a0_, .int t_)]) rfl (fun xr_122 fr_122 H locs mxr_122 kxr_122 hp hMr_122 g => ?_) (fun fr_122 H locs hp hMr_122 g => ?_)
            · have hG_123 := cEq.frame hMr_122 go_.2.2.2.1 ma0_ ka0_ (by decide) (by decide) hG_118
              have hF_124 := FR.call (mds := []) (mas := []) hG_117 go_ mq0_ kq0_ rfl hp
              subst hQ
              exact leavesX hempty hlocks (fun t ht hW => g_thrZ g hK mxr_122 kxr_122 ⟨hF_124, (by omega)⟩ ht hW) g.2.2.1.2.2
            · obtain ⟨hx_125, hx_126, x_127, h_128, hF_129⟩ := hp
              have hG_130 := cEq.frame hMr_122 go_.2.2.2.1 ma0_ ka0_ (by decide) (by decide) hG_118
              have hF_131 := FR.call (mds := []) (mas := []) hG_117 go_ mq0_ kq0_ rfl hx_126
              have g := g.more hF_129
              refine lv_aload_n hx hb dX14_readOne_235 rfl (lv_at hl 1 rfl) ?_
              have hs_132 := sE_1 g 1 rfl (by have h9_0 := bo_; unfold bd at h9_0; have h9_1 := bop_; unfold bd at h9_1; have h9_2 := bt_; unfold bd at h9_2; have h9_3 := bx_1; unfold bd at h9_3; have h9_4 := h_128; unfold bd at h9_4; have h9_5 := b_120; unfold bd at h9_5; have h9_6 := h_35; unfold bd at h9_6; have h8_0 := kb_3; unfold bd at h8_0; omega)
              have go_ := g
              refine g_callEv (As := []) (rest := []) ⟨hx, hb, hml, hown, hts⟩ (r_X14_next_2 l dC dI L kd tys fr_122 H.size g.2.2.2.1 adK adV a0_ ma0_ ka0_ t_ bt_ (g.fcts [6] rfl)) (cwV 0 hts (gV_ t_2411 t_2413 t_102 t_198 t_2414) rfl rfl rfl (by decide +kernel) ⟨(show 6 + 1 ≤ N + 1 + 24 by omega), (show 8 + (1 + 11) + 135 ≤ 60 * (N + 1) + 700 by omega)⟩) (pre3VA g hK hAm ma0_ ka0_ (by decide) (q := (RX14, TX14, 67)) rfl) rfl hl.1 rfl (lv_room (Nat.le_of_ble_eq_true rfl)) dX14_readOne_236 (cl_f hck_0) g hK (by decide) (by decide) (fx' := [(12, 58, q0_, .int x_127), (14, 2, a0_, .ref q0_), (14, 16, a0_, .int o_), (14, 25, a0_, .int op_)]) rfl (fun xr_133 fr_133 H locs mxr_133 kxr_133 hp hMr_133 g => ?_) (fun fr_133 H locs hp hMr_133 g => ?_)
              · have hG_134 := FR.frame hMr_133 go_.2.2.2.1 mq0_ kq0_ (by decide) (by decide) hF_131
                have hG_135 := isV.frame hMr_133 go_.2.2.2.1 mq0_ kq0_ (by decide) (by decide) hx_125
                subst hQ
                exact leavesX hempty hlocks (fun t ht hW => g_thrZ g hK mxr_133 kxr_133 ⟨hG_134, (by omega)⟩ ht hW) g.2.2.1.2.2
              · obtain ⟨hx_136, h_137, x_138, h_139, hF_140⟩ := hp
                have hG_141 := FR.frame hMr_133 go_.2.2.2.1 mq0_ kq0_ (by decide) (by decide) hF_131
                have hG_142 := isV.frame hMr_133 go_.2.2.2.1 mq0_ kq0_ (by decide) (by decide) hx_125
                obtain ⟨E_143, hE_143⟩ : ∃ E : Int, cEq fr_133 a0_ E := ⟨_, rfl⟩
                have mxE_143 : E_143 ≤ 1202 := by have h9 := cF_le g ma0_ ka0_; have h8 : cF _ _ = _ := hE_143; omega
                have lE_143 : (cF f0 a0_) + 1 ≤ E_143 := by have h9 := hx_136; have h8 : cF _ _ = _ := hE_143; have h7 : cF _ _ = _ := hG_130; have h6 := hs_132; have h5 := tk_c (f := fr_122) (t := a0_); omega
                have b_144 : bd 0 1200 t_ := eqX rfl bt_ h_137 (by decide)
                have g := g.more hF_140
                refine lv_aload_n hx hb dX14_readOne_239 rfl (lv_at hl 1 rfl) ?_
                refine lv_bipush (v := 40) hx hb dX14_readOne_240 (by decide) ?_
                have go_ := g
                refine g_callEv (As := [.int 40]) (rest := []) ⟨hx, hb, hml, hown, hts⟩ (r_X14_opening_2 l dC dI L kd tys fr_133 H.size g.2.2.2.1 adK adV a0_ ma0_ ka0_ 40 x_138 h_139 op_ bop_ (g.fcts [0, 4] rfl)) (cwV 1 hts (gV_ t_2484 t_2486 t_118 t_198 t_2487) rfl rfl rfl (by decide +kernel) ⟨(show 7 + 1 ≤ N + 1 + 24 by omega), (show 8 + (2 + 11) + 155 ≤ 60 * (N + 1) + 700 by omega)⟩) (pre3VA g hK hAm ma0_ ka0_ (by decide) (q := (RX14, TX14, 67)) rfl) rfl hl.1 rfl (lv_room (Nat.le_of_ble_eq_true rfl)) dX14_readOne_242 (cl_f hck_0) g hK (by decide) (by decide) (fx' := [(12, 58, q0_, .int x_127), (14, 2, a0_, .ref q0_), (14, 16, a0_, .int o_)]) rfl (fun xr_145 fr_145 H locs mxr_145 kxr_145 hp hMr_145 g => ?_) (fun fr_145 H locs hp hMr_145 g => ?_)
                · have hG_146 := FR.frame hMr_145 go_.2.2.2.1 mq0_ kq0_ (by decide) (by decide) hG_141
                  have hG_147 := isV.frame hMr_145 go_.2.2.2.1 mq0_ kq0_ (by decide) (by decide) hG_142
                  subst hQ
                  exact leavesX hempty hlocks (fun t ht hW => g_thrZ g hK mxr_145 kxr_145 ⟨hG_146, (by omega)⟩ ht hW) g.2.2.1.2.2
                · obtain ⟨hx_148, h_149, h_150, x_151, h_152, x_153, ⟨h_154, rh_154⟩, hF_155⟩ := hp
                  have hG_156 := FR.frame hMr_145 go_.2.2.2.1 mq0_ kq0_ (by decide) (by decide) hG_141
                  have hG_157 := isV.frame hMr_145 go_.2.2.2.1 mq0_ kq0_ (by decide) (by decide) hG_142
                  obtain ⟨E_158, hE_158⟩ : ∃ E : Int, cEq fr_145 a0_ E := ⟨_, rfl⟩
                  have mxE_158 : E_158 ≤ 1202 := by have h9 := cF_le g ma0_ ka0_; have h8 : cF _ _ = _ := hE_158; omega
                  have lE_158 : E_143 + 1 ≤ E_158 := by have h9 := hx_148; have h8 : cF _ _ = _ := hE_158; have h7 : cF _ _ = _ := hE_143; omega
                  have b_159 : bd 0 1200 x_138 := eqX rfl h_139 h_149 (by decide)
                  have b_160 : bd 0 39 op_ := eqX rfl bop_ h_150 (by decide)
                  have g := g.more hF_155
                  refine lv_aload_n hx hb dX14_readOne_245 rfl (lv_at hl 1 rfl) ?_
                  refine lv_aload_n hx hb dX14_readOne_246 rfl (lv_at hl 1 rfl) ?_
                  refine g_geti (C := RX14) (T := TX14) (N := 67) hx hb hts (mc_ inX14) hown hK g ma0_ ka0_ (by decide) rfl 6 (by decide) rfl (hts _ (List.mem_cons_of_mem _ t_2152)) (fun _ h9 => h9) rfl dX14_readOne_247 (fun x_161 bx_161 g => ?_)
                  refine lv_iconst (v := 1) hx hb dX14_readOne_250 (by decide) ?_
                  have kb_1 : bd 1 1 (1 : Int32) := ⟨by decide, by decide⟩
                  refine lv_icmp_ne (tgt := 258) hx hb dX14_readOne_251 (by decide) (fun c_162 => ?_) (fun c_162 => ?_)
                  · have fc_162 := neq_f c_162
                    refine lv_iconst (v := 0) hx hb dX14_readOne_258 (by decide) ?_
                    refine lv_iconst (v := 1) hx hb dX14_readOne_259 (by decide) ?_
                    refine lv_aload_n hx hb dX14_readOne_260 rfl (lv_at hl 1 rfl) ?_
                    refine g_geti (C := RX14) (T := TX14) (N := 67) hx hb hts (mc_ inX14) hown hK g ma0_ ka0_ (by decide) rfl 8 (by decide) rfl (hts _ (List.mem_cons_of_mem _ t_2154)) (fun _ h9 => h9) rfl dX14_readOne_261 (fun x_163 bx_163 g => ?_)
                    have kb_0 : bd 0 0 (0 : Int32) := ⟨by decide, by decide⟩
                    have go_ := g
                    refine g_callEv (As := [.int 0, .int 1, .int x_163]) (rest := []) ⟨hx, hb, hml, hown, hts⟩ (r_X14_need_2 l dC dI L kd tys fr_145 H.size g.2.2.2.1 a0_ ma0_ ka0_ 0 kb_0 1 x_163) (cwV 3 hts (gV_ t_2403 t_2405 t_100 t_198 t_2406) rfl rfl rfl (by decide +kernel) ⟨(show 1 + 1 ≤ N + 1 + 24 by omega), (show 8 + (4 + 11) + 22 ≤ 60 * (N + 1) + 700 by omega)⟩) (pre3V g hK ma0_ ka0_ (by decide) (q := (RX14, TX14, 67)) rfl) rfl hl.1 rfl (lv_room (Nat.le_of_ble_eq_true rfl)) dX14_readOne_264 (cl_f hck_0) g hK (by decide) (by decide) (fx' := [(14, 8, a0_, .int x_163), (14, 6, a0_, .int x_161), (14, 10, a0_, .int x_151), (14, 25, a0_, .int x_153), (12, 58, q0_, .int x_127), (14, 2, a0_, .ref q0_), (14, 16, a0_, .int o_)]) rfl (fun xr_164 fr_164 H locs mxr_164 kxr_164 hp hMr_164 g => ?_) (fun fr_164 H locs hp hMr_164 g => ?_)
                    · have hG_165 := FR.frame hMr_164 go_.2.2.2.1 mq0_ kq0_ (by decide) (by decide) hG_156
                      have hG_166 := isV.frame hMr_164 go_.2.2.2.1 mq0_ kq0_ (by decide) (by decide) hG_157
                      have hG_167 := cEq.frame hMr_164 go_.2.2.2.1 ma0_ ka0_ (by decide) (by decide) hE_158
                      subst hQ
                      exact leavesX hempty hlocks (fun t ht hW => g_thrZ g hK mxr_164 kxr_164 ⟨hG_165, (by omega)⟩ ht hW) g.2.2.1.2.2
                    · exact hp.elim
                  · have fc_162 := eq_f c_162
                    have b_168 : bd 1 1 x_161 := eqX fc_162 bx_161 kb_1 (by decide)
                    refine lv_iconst (v := 1) hx hb dX14_readOne_254 (by decide) ?_
                    refine lv_goto (tgt := 259) hx hb dX14_readOne_255 (by decide) ?_
                    refine lv_iconst (v := 1) hx hb dX14_readOne_259 (by decide) ?_
                    refine lv_aload_n hx hb dX14_readOne_260 rfl (lv_at hl 1 rfl) ?_
                    refine g_geti (C := RX14) (T := TX14) (N := 67) hx hb hts (mc_ inX14) hown hK g ma0_ ka0_ (by decide) rfl 8 (by decide) rfl (hts _ (List.mem_cons_of_mem _ t_2154)) (fun _ h9 => h9) rfl dX14_readOne_261 (fun x_169 bx_169 g => ?_)
                    have hs_170 := sE_1 g 1 rfl (by have h9_0 := bo_; unfold bd at h9_0; have h9_1 := b_160; unfold bd at h9_1; have h9_2 := b_144; unfold bd at h9_2; have h9_3 := bx_1; unfold bd at h9_3; have h9_4 := h_128; unfold bd at h9_4; have h9_5 := b_159; unfold bd at h9_5; have h9_6 := h_152; unfold bd at h9_6; have h9_7 := h_154; unfold bd at h9_7; have h9_8 := b_168; unfold bd at h9_8; have h9_9 := bx_169; unfold bd at h9_9; have h9_10 := b_120; unfold bd at h9_10; have h9_11 := h_35; unfold bd at h9_11; have h8_0 := kb_1; unfold bd at h8_0; have h8_1 := kb_3; unfold bd at h8_1; omega)
                    have go_ := g
                    refine g_callEv (As := [.int 1, .int 1, .int x_169]) (rest := []) ⟨hx, hb, hml, hown, hts⟩ (r_X14_need_3 l dC dI L kd tys fr_145 H.size g.2.2.2.1 a0_ ma0_ ka0_ 1 kb_1 1 x_169) (cwV 3 hts (gV_ t_2403 t_2405 t_100 t_198 t_2406) rfl rfl rfl (by decide +kernel) ⟨(show 0 + 1 ≤ N + 1 + 24 by omega), (show 8 + (4 + 11) + 0 ≤ 60 * (N + 1) + 700 by omega)⟩) (pre3V g hK ma0_ ka0_ (by decide) (q := (RX14, TX14, 67)) rfl) rfl hl.1 rfl (lv_room (Nat.le_of_ble_eq_true rfl)) dX14_readOne_264 (cl_f hck_0) g hK (by decide) (by decide) (fx' := [(14, 8, a0_, .int x_169), (14, 6, a0_, .int x_161), (14, 10, a0_, .int x_151), (14, 25, a0_, .int x_153), (12, 58, q0_, .int x_127), (14, 2, a0_, .ref q0_), (14, 16, a0_, .int o_)]) rfl (fun xr_171 fr_171 H locs mxr_171 kxr_171 hp hMr_171 g => ?_) (fun fr_171 H locs hp hMr_171 g => ?_)
                    · have hG_172 := FR.frame hMr_171 go_.2.2.2.1 mq0_ kq0_ (by decide) (by decide) hG_156
                      have hG_173 := isV.frame hMr_171 go_.2.2.2.1 mq0_ kq0_ (by decide) (by decide) hG_157
                      have hG_174 := cEq.frame hMr_171 go_.2.2.2.1 ma0_ ka0_ (by decide) (by decide) hE_158
                      exact hp.elim
                    · have hG_175 := FR.frame hMr_171 go_.2.2.2.1 mq0_ kq0_ (by decide) (by decide) hG_156
                      have hG_176 := isV.frame hMr_171 go_.2.2.2.1 mq0_ kq0_ (by decide) (by decide) hG_157
                      have hG_177 := cEq.frame hMr_171 go_.2.2.2.1 ma0_ ka0_ (by decide) (by decide) hE_158
                      refine lv_aload_n hx hb dX14_readOne_267 rfl (lv_at hl 1 rfl) ?_
                      refine lv_aload_n hx hb dX14_readOne_268 rfl (lv_at hl 1 rfl) ?_
                      refine g_getl (C := RX14) (T := TX14) (N := 67) hx hb hts (mc_ inX14) hown hK g ma0_ ka0_ (by decide) rfl 12 (by decide) rfl (hts _ (List.mem_cons_of_mem _ t_2158)) (fun _ h9 => h9) rfl dX14_readOne_269 (fun x_178 g => ?_)
                      refine lv_aload_n hx hb dX14_readOne_272 rfl (lv_at hl 1 rfl) ?_
                      refine g_getl (C := RX14) (T := TX14) (N := 67) hx hb hts (mc_ inX14) hown hK g ma0_ ka0_ (by decide) rfl 13 (by decide) rfl (hts _ (List.mem_cons_of_mem _ t_2159)) (fun _ h9 => h9) rfl dX14_readOne_273 (fun x_179 g => ?_)
                      have hs_180 := sE_1 g 3 rfl (by have h9_0 := bo_; unfold bd at h9_0; have h9_1 := b_160; unfold bd at h9_1; have h9_2 := b_144; unfold bd at h9_2; have h9_3 := bx_1; unfold bd at h9_3; have h9_4 := h_128; unfold bd at h9_4; have h9_5 := b_159; unfold bd at h9_5; have h9_6 := h_152; unfold bd at h9_6; have h9_7 := h_154; unfold bd at h9_7; have h9_8 := b_168; unfold bd at h9_8; have h9_9 := bx_169; unfold bd at h9_9; have h9_10 := b_120; unfold bd at h9_10; have h9_11 := h_35; unfold bd at h9_11; have h8_0 := kb_1; unfold bd at h8_0; have h8_1 := kb_3; unfold bd at h8_1; omega)
                      obtain ⟨N_, hNN_181⟩ := isN.ex g ma0_ ka0_
                      have go_ := g
                      refine g_calli (va_runV (As := [.long x_178, .long x_179]) (rest := []) ⟨hx, hb, hml, hown, hts⟩ (r_X14_named_2 l dC dI L kd tys fr_171 H.size g.2.2.2.1 a0_ ma0_ ka0_ x_178 x_179 q0_ mq0_ kq0_ o_ bo_ V_ N_ hNN_181 hG_176 (g.fcts [7, 8] rfl)) (cwV 2 hts (gV_ t_2504 t_2506 t_122 t_198 t_2507) rfl rfl rfl (by decide +kernel) ⟨(show 1 + 1 ≤ N + 1 + 24 by omega), (show 8 + (6 + 11) + 26 ≤ 60 * (N + 1) + 700 by omega)⟩) (pre3V g hK ma0_ ka0_ (by decide) (q := (RX14, TX14, 67)) rfl) rfl rfl hl.1 rfl (lv_room (Nat.le_of_ble_eq_true rfl)) dX14_readOne_276 (cl_f hck_0)) g hK (by decide) (by decide) (fx' := [(14, 13, a0_, .long x_179), (14, 12, a0_, .long x_178), (14, 8, a0_, .int x_169), (14, 6, a0_, .int x_161), (14, 10, a0_, .int x_151), (14, 25, a0_, .int x_153), (12, 58, q0_, .int x_127), (14, 2, a0_, .ref q0_), (14, 16, a0_, .int o_)]) rfl (fun r_182 fr_182 H locs hp hMr_182 g => ?_)
                      obtain ⟨hx_183, -⟩ := hp
                      have hG_184 := FR.frame hMr_182 go_.2.2.2.1 mq0_ kq0_ (by decide) (by decide) hG_175
                      have hG_185 := isV.frame hMr_182 go_.2.2.2.1 mq0_ kq0_ (by decide) (by decide) hG_176
                      have hG_186 := cEq.frame hMr_182 go_.2.2.2.1 ma0_ ka0_ (by decide) (by decide) hG_177
                      have hG_187 := isN.frame hMr_182 go_.2.2.2.1 ma0_ ka0_ (by decide) (by decide) hNN_181
                      rcases hx_183 with ⟨h_188, hd_189⟩ | ⟨h_188 | h_188 | h_188, hd_189⟩
                      · obtain rfl : r_182 = (-1) := Int32.toInt_inj.mp (h_188.trans (by decide))
                        refine lv_istore_n (lv' := [(2, .int (-1)), (1, .int x_1), (0, .ref a0_)]) hx hb dX14_readOne_279 rfl hl (by decide) rfl (fun ls hl => ?_)
                        refine lv_aload_n hx hb dX14_readOne_280 rfl (lv_at hl 2 rfl) ?_
                        refine lv_iload_n hx hb dX14_readOne_281 rfl (lv_at hl 0 rfl) ?_
                        refine lv_iconst (v := (-1)) hx hb dX14_readOne_282 (by decide) ?_
                        refine lv_icmp_eq (tgt := 290) hx hb dX14_readOne_283 (by decide) (fun c_ => ?_) (fun c_ => absurd (by decide) c_)
                        refine lv_iconst (v := 0) hx hb dX14_readOne_290 (by decide) ?_
                        refine lv_iconst (v := 2) hx hb dX14_readOne_291 (by decide) ?_
                        refine lv_aload_n hx hb dX14_readOne_292 rfl (lv_at hl 2 rfl) ?_
                        refine g_getk (C := RX14) (T := TX14) (N := 67) hx hb hts (mc_ inX14) hown hK g rfl 8 (by decide) rfl (hts _ (List.mem_cons_of_mem _ t_2154)) (fun _ h9 => h9) 2 rfl dX14_readOne_293 ?_
                        have hs_190 := sE_1 g 3 rfl (by have h9_0 := bo_; unfold bd at h9_0; have h9_1 := b_160; unfold bd at h9_1; have h9_2 := b_144; unfold bd at h9_2; have h9_3 := bx_1; unfold bd at h9_3; have h9_4 := h_128; unfold bd at h9_4; have h9_5 := b_159; unfold bd at h9_5; have h9_6 := h_152; unfold bd at h9_6; have h9_7 := h_154; unfold bd at h9_7; have h9_8 := b_168; unfold bd at h9_8; have h9_9 := bx_169; unfold bd at h9_9; have h9_10 := b_120; unfold bd at h9_10; have h9_11 := h_35; unfold bd at h9_11; have h8_0 := kb_1; unfold bd at h8_0; have h8_1 := kb_3; unfold bd at h8_1; omega)
                        have kb_0 : bd 0 0 (0 : Int32) := ⟨by decide, by decide⟩
                        have go_ := g
                        refine g_callEv (As := [.int 0, .int 2, .int x_169]) (rest := []) ⟨hx, hb, hml, hown, hts⟩ (r_X14_need_2 l dC dI L kd tys fr_182 H.size g.2.2.2.1 a0_ ma0_ ka0_ 0 kb_0 2 x_169) (cwV 3 hts (gV_ t_2403 t_2405 t_100 t_198 t_2406) rfl rfl rfl (by decide +kernel) ⟨(show 1 + 1 ≤ N + 1 + 24 by omega), (show 8 + (4 + 11) + 22 ≤ 60 * (N + 1) + 700 by omega)⟩) (pre3V g hK ma0_ ka0_ (by decide) (q := (RX14, TX14, 67)) rfl) rfl hl.1 rfl (lv_room (Nat.le_of_ble_eq_true rfl)) dX14_readOne_296 (cl_f hck_0) g hK (by decide) (by decide) (fx' := [(14, 13, a0_, .long x_179), (14, 12, a0_, .long x_178), (14, 8, a0_, .int x_169), (14, 6, a0_, .int x_161), (14, 10, a0_, .int x_151), (14, 25, a0_, .int x_153), (12, 58, q0_, .int x_127), (14, 2, a0_, .ref q0_), (14, 16, a0_, .int o_)]) rfl (fun xr_191 fr_191 H locs mxr_191 kxr_191 hp hMr_191 g => ?_) (fun fr_191 H locs hp hMr_191 g => ?_)
                        · have hG_192 := FR.frame hMr_191 go_.2.2.2.1 mq0_ kq0_ (by decide) (by decide) hG_184
                          have hG_193 := isV.frame hMr_191 go_.2.2.2.1 mq0_ kq0_ (by decide) (by decide) hG_185
                          have hG_194 := cEq.frame hMr_191 go_.2.2.2.1 ma0_ ka0_ (by decide) (by decide) hG_186
                          have hG_195 := isN.frame hMr_191 go_.2.2.2.1 ma0_ ka0_ (by decide) (by decide) hG_187
                          subst hQ
                          exact leavesX hempty hlocks (fun t ht hW => g_thrZ g hK mxr_191 kxr_191 ⟨hG_192, (by omega)⟩ ht hW) g.2.2.1.2.2
                        · exact hp.elim
                      · have b_196 : bd 0 9 r_182 := ⟨h_188.1, h_188.2.1⟩
                        have hv_197 : varOK V_ r_182 o_.toNatClampNeg := Or.inl h_188
                        refine lv_istore_n (lv' := [(2, .int r_182), (1, .int x_1), (0, .ref a0_)]) hx hb dX14_readOne_279 rfl hl (by decide) rfl (fun ls hl => ?_)
                        refine lv_aload_n hx hb dX14_readOne_280 rfl (lv_at hl 2 rfl) ?_
                        refine lv_iload_n hx hb dX14_readOne_281 rfl (lv_at hl 0 rfl) ?_
                        refine lv_iconst (v := (-1)) hx hb dX14_readOne_282 (by decide) ?_
                        have kb_m1 : bd (-1) (-1) ((-1) : Int32) := ⟨by decide, by decide⟩
                        refine lv_icmp_eq (tgt := 290) hx hb dX14_readOne_283 (by decide) (fun c_198 => ?_) (fun c_198 => ?_)
                        · have fc_198 := eq_f c_198
                          have b_199 : bd 0 (-1) r_182 := eqX fc_198 b_196 kb_m1 (by decide)
                          exact bd_no b_199 (by decide)
                        · have fc_198 := neq_f c_198
                          refine lv_iconst (v := 1) hx hb dX14_readOne_286 (by decide) ?_
                          refine lv_goto (tgt := 291) hx hb dX14_readOne_287 (by decide) ?_
                          refine lv_iconst (v := 2) hx hb dX14_readOne_291 (by decide) ?_
                          refine lv_aload_n hx hb dX14_readOne_292 rfl (lv_at hl 2 rfl) ?_
                          refine g_getk (C := RX14) (T := TX14) (N := 67) hx hb hts (mc_ inX14) hown hK g rfl 8 (by decide) rfl (hts _ (List.mem_cons_of_mem _ t_2154)) (fun _ h9 => h9) 2 rfl dX14_readOne_293 ?_
                          have hs_200 := sE_1 g 3 rfl (by have h9_0 := bo_; unfold bd at h9_0; have h9_1 := b_160; unfold bd at h9_1; have h9_2 := b_196; unfold bd at h9_2; have h9_3 := b_144; unfold bd at h9_3; have h9_4 := bx_1; unfold bd at h9_4; have h9_5 := h_128; unfold bd at h9_5; have h9_6 := b_159; unfold bd at h9_6; have h9_7 := h_152; unfold bd at h9_7; have h9_8 := h_154; unfold bd at h9_8; have h9_9 := b_168; unfold bd at h9_9; have h9_10 := bx_169; unfold bd at h9_10; have h9_11 := b_120; unfold bd at h9_11; have h9_12 := h_35; unfold bd at h9_12; have h8_0 := kb_1; unfold bd at h8_0; have h8_1 := kb_3; unfold bd at h8_1; have h8_2 := kb_m1; unfold bd at h8_2; omega)
                          have go_ := g
                          refine g_callEv (As := [.int 1, .int 2, .int x_169]) (rest := []) ⟨hx, hb, hml, hown, hts⟩ (r_X14_need_3 l dC dI L kd tys fr_182 H.size g.2.2.2.1 a0_ ma0_ ka0_ 1 kb_1 2 x_169) (cwV 3 hts (gV_ t_2403 t_2405 t_100 t_198 t_2406) rfl rfl rfl (by decide +kernel) ⟨(show 0 + 1 ≤ N + 1 + 24 by omega), (show 8 + (4 + 11) + 0 ≤ 60 * (N + 1) + 700 by omega)⟩) (pre3V g hK ma0_ ka0_ (by decide) (q := (RX14, TX14, 67)) rfl) rfl hl.1 rfl (lv_room (Nat.le_of_ble_eq_true rfl)) dX14_readOne_296 (cl_f hck_0) g hK (by decide) (by decide) (fx' := [(14, 13, a0_, .long x_179), (14, 12, a0_, .long x_178), (14, 8, a0_, .int x_169), (14, 6, a0_, .int x_161), (14, 10, a0_, .int x_151), (14, 25, a0_, .int x_153), (12, 58, q0_, .int x_127), (14, 2, a0_, .ref q0_), (14, 16, a0_, .int o_)]) rfl (fun xr_201 fr_201 H locs mxr_201 kxr_201 hp hMr_201 g => ?_) (fun fr_201 H locs hp hMr_201 g => ?_)
                          · have hG_202 := FR.frame hMr_201 go_.2.2.2.1 mq0_ kq0_ (by decide) (by decide) hG_184
                            have hG_203 := isV.frame hMr_201 go_.2.2.2.1 mq0_ kq0_ (by decide) (by decide) hG_185
                            have hG_204 := cEq.frame hMr_201 go_.2.2.2.1 ma0_ ka0_ (by decide) (by decide) hG_186
                            have hG_205 := isN.frame hMr_201 go_.2.2.2.1 ma0_ ka0_ (by decide) (by decide) hG_187
                            exact hp.elim
                          · have hG_206 := FR.frame hMr_201 go_.2.2.2.1 mq0_ kq0_ (by decide) (by decide) hG_184
                            have hG_207 := isV.frame hMr_201 go_.2.2.2.1 mq0_ kq0_ (by decide) (by decide) hG_185
                            have hG_208 := cEq.frame hMr_201 go_.2.2.2.1 ma0_ ka0_ (by decide) (by decide) hG_186
                            have hG_209 := isN.frame hMr_201 go_.2.2.2.1 ma0_ ka0_ (by decide) (by decide) hG_187
                            refine lv_aload_n hx hb dX14_readOne_299 rfl (lv_at hl 2 rfl) ?_
                            have hs_210 := sE_1 g 3 rfl (by have h9_0 := bo_; unfold bd at h9_0; have h9_1 := b_160; unfold bd at h9_1; have h9_2 := b_196; unfold bd at h9_2; have h9_3 := b_144; unfold bd at h9_3; have h9_4 := bx_1; unfold bd at h9_4; have h9_5 := h_128; unfold bd at h9_5; have h9_6 := b_159; unfold bd at h9_6; have h9_7 := h_152; unfold bd at h9_7; have h9_8 := h_154; unfold bd at h9_8; have h9_9 := b_168; unfold bd at h9_9; have h9_10 := bx_169; unfold bd at h9_10; have h9_11 := b_120; unfold bd at h9_11; have h9_12 := h_35; unfold bd at h9_12; have h8_0 := kb_1; unfold bd at h8_0; have h8_1 := kb_3; unfold bd at h8_1; have h8_2 := kb_m1; unfold bd at h8_2; omega)
                            have go_ := g
                            refine g_callEv (As := []) (rest := []) ⟨hx, hb, hml, hown, hts⟩ (r_X14_room l dC dI L kd tys fr_201 H.size g.2.2.2.1 a0_ ma0_ ka0_) (cwV 0 hts (gV_ t_2415 t_2417 t_103 t_198 t_2418) rfl rfl rfl (by decide +kernel) ⟨(show 2 + 1 ≤ N + 1 + 24 by omega), (show 8 + (1 + 11) + 45 ≤ 60 * (N + 1) + 700 by omega)⟩) (pre3V g hK ma0_ ka0_ (by decide) (q := (RX14, TX14, 67)) rfl) rfl hl.1 rfl (lv_room (Nat.le_of_ble_eq_true rfl)) dX14_readOne_300 (cl_f hck_0) g hK (by decide) (by decide) (fx' := [(14, 13, a0_, .long x_179), (14, 12, a0_, .long x_178), (14, 8, a0_, .int x_169), (14, 6, a0_, .int x_161), (14, 10, a0_, .int x_151), (14, 25, a0_, .int x_153), (12, 58, q0_, .int x_127), (14, 2, a0_, .ref q0_), (14, 16, a0_, .int o_)]) rfl (fun xr_211 fr_211 H locs mxr_211 kxr_211 hp hMr_211 g => ?_) (fun fr_211 H locs hp hMr_211 g => ?_)
                            · have hG_212 := FR.frame hMr_211 go_.2.2.2.1 mq0_ kq0_ (by decide) (by decide) hG_206
                              have hG_213 := isV.frame hMr_211 go_.2.2.2.1 mq0_ kq0_ (by decide) (by decide) hG_207
                              have hG_214 := cEq.frame hMr_211 go_.2.2.2.1 ma0_ ka0_ (by decide) (by decide) hG_208
                              have hG_215 := isN.frame hMr_211 go_.2.2.2.1 ma0_ ka0_ (by decide) (by decide) hG_209
                              subst hQ
                              exact leavesX hempty hlocks (fun t ht hW => g_thrZ g hK mxr_211 kxr_211 ⟨hG_212, (by omega)⟩ ht hW) g.2.2.1.2.2
                            · obtain ⟨x_216, h_217, hF_218⟩ := hp
                              have hG_219 := FR.frame hMr_211 go_.2.2.2.1 mq0_ kq0_ (by decide) (by decide) hG_206
                              have hG_220 := isV.frame hMr_211 go_.2.2.2.1 mq0_ kq0_ (by decide) (by decide) hG_207
                              have hG_221 := cEq.frame hMr_211 go_.2.2.2.1 ma0_ ka0_ (by decide) (by decide) hG_208
                              have hG_222 := isN.frame hMr_211 go_.2.2.2.1 ma0_ ka0_ (by decide) (by decide) hG_209
                              have g := g.more hF_218
                              have e_223 := fx_same g 5 0 rfl rfl
                              have b_224 : bd 0 1200 x_151 := eqX (eq_f e_223.symm) h_152 h_217 (by decide)
                              have g := g.sub (fx' := [(14, 13, a0_, .long x_179), (14, 12, a0_, .long x_178), (14, 8, a0_, .int x_169), (14, 6, a0_, .int x_161), (14, 10, a0_, .int x_151), (14, 25, a0_, .int x_153), (12, 58, q0_, .int x_127), (14, 2, a0_, .ref q0_), (14, 16, a0_, .int o_)]) [1, 2, 3, 4, 5, 6, 7, 8, 9] rfl
                              refine lv_aload_n hx hb dX14_readOne_303 rfl (lv_at hl 2 rfl) ?_
                              refine lv_iload_n hx hb dX14_readOne_304 rfl (lv_at hl 0 rfl) ?_
                              refine lv_sipush (v := 1000) hx hb dX14_readOne_305 (by decide) ?_
                              have kb_1000 : bd 1000 1000 (1000 : Int32) := ⟨by decide, by decide⟩
                              refine lv_icmp_ge (tgt := 335) hx hb dX14_readOne_308 (by decide) (fun c_225 => ?_) (fun c_225 => ?_)
                              · have fc_225 := le_f c_225
                                have b_226 : bd 1000 9 (1000 : Int32) := leL fc_225 kb_1000 b_196 (by decide)
                                exact bd_no (eqX rfl b_226 kb_1000 (lo := 1000) (hi := 9) (by decide)) (by decide)
                              · have fc_225 := nle_f c_225
                                refine lv_aload_n hx hb dX14_readOne_311 rfl (lv_at hl 2 rfl) ?_
                                refine g_getk (C := RX14) (T := TX14) (N := 67) hx hb hts (mc_ inX14) hown hK g rfl 2 (by decide) rfl (hts _ (List.mem_cons_of_mem _ t_2148)) (fun _ h9 => h9) 7 rfl dX14_readOne_312 ?_
                                refine g_getr (K := 164) (C := RX12) (T := TX12) (N := 60) hx hb hts (mc_ inX12) hown hK g mq0_ kq0_ (by decide) rfl 8 (by decide) rfl (hts _ (List.mem_cons_of_mem _ t_1922)) (fun _ h9 => h9) rfl dX14_readOne_315 (fun a_227 ma_227 ka_227 g => ?_)
                                refine lv_bipush (v := 10) hx hb dX14_readOne_318 (by decide) ?_
                                refine lv_aload_n hx hb dX14_readOne_320 rfl (lv_at hl 2 rfl) ?_
                                refine g_getk (C := RX14) (T := TX14) (N := 67) hx hb hts (mc_ inX14) hown hK g rfl 16 (by decide) rfl (hts _ (List.mem_cons_of_mem _ t_2162)) (fun _ h9 => h9) 9 rfl dX14_readOne_321 ?_
                                refine lv_imul hx hb dX14_readOne_324 ?_
                                refine lv_topi (fun y_228 ey_228 => ?_)
                                have ty_228 := cmul_bd ey_228 (c := 10) (by decide) bo_ (by decide)
                                have b_229 : bd 0 70 y_228 := mulc_rg ty_228 bo_ (by decide)
                                refine lv_iload_n hx hb dX14_readOne_325 rfl (lv_at hl 0 rfl) ?_
                                refine lv_iadd hx hb dX14_readOne_326 ?_
                                refine lv_topi (fun y_230 ey_230 => ?_)
                                have ty_230 := add_bd ey_230 b_229 b_196 (by decide)
                                have b_231 : bd 0 79 y_230 := add_rg ty_230 b_229 b_196 (by decide)
                                refine g_iald hx hb hK g ma_227 ka_227 (by decide) rfl (in_bd b_231 (by decide)) dX14_readOne_327 (fun x_232 bx_232 cx_232 => ?_)
                                have vx_232 : x_232 = V_.i 8 y_230.toNatClampNeg := hG_220.at g 0 rfl rfl cx_232
                                have kb_0 : bd 0 0 (0 : Int32) := ⟨by decide, by decide⟩
                                refine lv_if_le (tgt := 335) hx hb dX14_readOne_328 (by decide) (fun c_233 => ?_) (fun c_233 => ?_)
                                · have fc_233 := le_f c_233
                                  have b_234 : bd 0 0 x_232 := leL fc_233 bx_232 kb_0 (by decide)
                                  refine lv_iconst (v := 0) hx hb dX14_readOne_335 (by decide) ?_
                                  refine lv_iconst (v := 5) hx hb dX14_readOne_336 (by decide) ?_
                                  refine lv_aload_n hx hb dX14_readOne_337 rfl (lv_at hl 2 rfl) ?_
                                  refine g_getk (C := RX14) (T := TX14) (N := 67) hx hb hts (mc_ inX14) hown hK g rfl 8 (by decide) rfl (hts _ (List.mem_cons_of_mem _ t_2154)) (fun _ h9 => h9) 3 rfl dX14_readOne_338 ?_
                                  have hs_235 := sE_1 g 4 rfl (by have h9_0 := bo_; unfold bd at h9_0; have h9_1 := b_160; unfold bd at h9_1; have h9_2 := b_196; unfold bd at h9_2; have h9_3 := b_144; unfold bd at h9_3; have h9_4 := bx_1; unfold bd at h9_4; have h9_5 := h_128; unfold bd at h9_5; have h9_6 := b_159; unfold bd at h9_6; have h9_7 := b_224; unfold bd at h9_7; have h9_8 := h_154; unfold bd at h9_8; have h9_9 := b_168; unfold bd at h9_9; have h9_10 := bx_169; unfold bd at h9_10; have h9_11 := b_120; unfold bd at h9_11; have h9_12 := h_217; unfold bd at h9_12; have h9_13 := b_234; unfold bd at h9_13; have h9_14 := h_35; unfold bd at h9_14; have h9_15 := b_229; unfold bd at h9_15; have h9_16 := b_231; unfold bd at h9_16; have h8_0 := kb_0; unfold bd at h8_0; have h8_1 := kb_1; unfold bd at h8_1; have h8_2 := kb_1000; unfold bd at h8_2; have h8_3 := kb_3; unfold bd at h8_3; have h8_4 := kb_m1; unfold bd at h8_4; omega)
                                  have go_ := g
                                  refine g_callEv (As := [.int 0, .int 5, .int x_169]) (rest := []) ⟨hx, hb, hml, hown, hts⟩ (r_X14_need_2 l dC dI L kd tys fr_211 H.size g.2.2.2.1 a0_ ma0_ ka0_ 0 kb_0 5 x_169) (cwV 3 hts (gV_ t_2403 t_2405 t_100 t_198 t_2406) rfl rfl rfl (by decide +kernel) ⟨(show 1 + 1 ≤ N + 1 + 24 by omega), (show 8 + (4 + 11) + 22 ≤ 60 * (N + 1) + 700 by omega)⟩) (pre3V g hK ma0_ ka0_ (by decide) (q := (RX14, TX14, 67)) rfl) rfl hl.1 rfl (lv_room (Nat.le_of_ble_eq_true rfl)) dX14_readOne_341 (cl_f hck_0) g hK (by decide) (by decide) (fx' := [(12, 8, q0_, .ref a_227), (14, 13, a0_, .long x_179), (14, 12, a0_, .long x_178), (14, 8, a0_, .int x_169), (14, 6, a0_, .int x_161), (14, 10, a0_, .int x_151), (14, 25, a0_, .int x_153), (12, 58, q0_, .int x_127), (14, 2, a0_, .ref q0_), (14, 16, a0_, .int o_)]) rfl (fun xr_236 fr_236 H locs mxr_236 kxr_236 hp hMr_236 g => ?_) (fun fr_236 H locs hp hMr_236 g => ?_)
                                  · have hG_237 := FR.frame hMr_236 go_.2.2.2.1 mq0_ kq0_ (by decide) (by decide) hG_219
                                    have hG_238 := isV.frame hMr_236 go_.2.2.2.1 mq0_ kq0_ (by decide) (by decide) hG_220
                                    have hG_239 := cEq.frame hMr_236 go_.2.2.2.1 ma0_ ka0_ (by decide) (by decide) hG_221
                                    have hG_240 := isN.frame hMr_236 go_.2.2.2.1 ma0_ ka0_ (by decide) (by decide) hG_222
                                    subst hQ
                                    exact leavesX hempty hlocks (fun t ht hW => g_thrZ g hK mxr_236 kxr_236 ⟨hG_237, (by omega)⟩ ht hW) g.2.2.1.2.2
                                  · exact hp.elim
                                · have fc_233 := nle_f c_233
                                  have b_241 : bd 1 8 x_232 := ltR fc_233 kb_0 bx_232 (by decide)
                                  refine lv_iconst (v := 1) hx hb dX14_readOne_331 (by decide) ?_
                                  refine lv_goto (tgt := 336) hx hb dX14_readOne_332 (by decide) ?_
                                  refine lv_iconst (v := 5) hx hb dX14_readOne_336 (by decide) ?_
                                  refine lv_aload_n hx hb dX14_readOne_337 rfl (lv_at hl 2 rfl) ?_
                                  refine g_getk (C := RX14) (T := TX14) (N := 67) hx hb hts (mc_ inX14) hown hK g rfl 8 (by decide) rfl (hts _ (List.mem_cons_of_mem _ t_2154)) (fun _ h9 => h9) 3 rfl dX14_readOne_338 ?_
                                  have hs_242 := sE_1 g 4 rfl (by have h9_0 := bo_; unfold bd at h9_0; have h9_1 := b_160; unfold bd at h9_1; have h9_2 := b_196; unfold bd at h9_2; have h9_3 := b_144; unfold bd at h9_3; have h9_4 := bx_1; unfold bd at h9_4; have h9_5 := h_128; unfold bd at h9_5; have h9_6 := b_159; unfold bd at h9_6; have h9_7 := b_224; unfold bd at h9_7; have h9_8 := h_154; unfold bd at h9_8; have h9_9 := b_168; unfold bd at h9_9; have h9_10 := bx_169; unfold bd at h9_10; have h9_11 := b_120; unfold bd at h9_11; have h9_12 := h_217; unfold bd at h9_12; have h9_13 := b_241; unfold bd at h9_13; have h9_14 := h_35; unfold bd at h9_14; have h9_15 := b_229; unfold bd at h9_15; have h9_16 := b_231; unfold bd at h9_16; have h8_0 := kb_0; unfold bd at h8_0; have h8_1 := kb_1; unfold bd at h8_1; have h8_2 := kb_1000; unfold bd at h8_2; have h8_3 := kb_3; unfold bd at h8_3; have h8_4 := kb_m1; unfold bd at h8_4; omega)
                                  have go_ := g
                                  refine g_callEv (As := [.int 1, .int 5, .int x_169]) (rest := []) ⟨hx, hb, hml, hown, hts⟩ (r_X14_need_3 l dC dI L kd tys fr_211 H.size g.2.2.2.1 a0_ ma0_ ka0_ 1 kb_1 5 x_169) (cwV 3 hts (gV_ t_2403 t_2405 t_100 t_198 t_2406) rfl rfl rfl (by decide +kernel) ⟨(show 0 + 1 ≤ N + 1 + 24 by omega), (show 8 + (4 + 11) + 0 ≤ 60 * (N + 1) + 700 by omega)⟩) (pre3V g hK ma0_ ka0_ (by decide) (q := (RX14, TX14, 67)) rfl) rfl hl.1 rfl (lv_room (Nat.le_of_ble_eq_true rfl)) dX14_readOne_341 (cl_f hck_0) g hK (by decide) (by decide) (fx' := [(12, 8, q0_, .ref a_227), (14, 13, a0_, .long x_179), (14, 12, a0_, .long x_178), (14, 8, a0_, .int x_169), (14, 6, a0_, .int x_161), (14, 10, a0_, .int x_151), (14, 25, a0_, .int x_153), (12, 58, q0_, .int x_127), (14, 2, a0_, .ref q0_), (14, 16, a0_, .int o_)]) rfl (fun xr_243 fr_243 H locs mxr_243 kxr_243 hp hMr_243 g => ?_) (fun fr_243 H locs hp hMr_243 g => ?_)
                                  · have hG_244 := FR.frame hMr_243 go_.2.2.2.1 mq0_ kq0_ (by decide) (by decide) hG_219
                                    have hG_245 := isV.frame hMr_243 go_.2.2.2.1 mq0_ kq0_ (by decide) (by decide) hG_220
                                    have hG_246 := cEq.frame hMr_243 go_.2.2.2.1 ma0_ ka0_ (by decide) (by decide) hG_221
                                    have hG_247 := isN.frame hMr_243 go_.2.2.2.1 ma0_ ka0_ (by decide) (by decide) hG_222
                                    exact hp.elim
                                  · have hG_248 := FR.frame hMr_243 go_.2.2.2.1 mq0_ kq0_ (by decide) (by decide) hG_219
                                    have hG_249 := isV.frame hMr_243 go_.2.2.2.1 mq0_ kq0_ (by decide) (by decide) hG_220
                                    have hG_250 := cEq.frame hMr_243 go_.2.2.2.1 ma0_ ka0_ (by decide) (by decide) hG_221
                                    have hG_251 := isN.frame hMr_243 go_.2.2.2.1 ma0_ ka0_ (by decide) (by decide) hG_222
                                    refine lv_aload_n hx hb dX14_readOne_344 rfl (lv_at hl 2 rfl) ?_
                                    have hs_252 := sE_1 g 4 rfl (by have h9_0 := bo_; unfold bd at h9_0; have h9_1 := b_160; unfold bd at h9_1; have h9_2 := b_196; unfold bd at h9_2; have h9_3 := b_144; unfold bd at h9_3; have h9_4 := bx_1; unfold bd at h9_4; have h9_5 := h_128; unfold bd at h9_5; have h9_6 := b_159; unfold bd at h9_6; have h9_7 := b_224; unfold bd at h9_7; have h9_8 := h_154; unfold bd at h9_8; have h9_9 := b_168; unfold bd at h9_9; have h9_10 := bx_169; unfold bd at h9_10; have h9_11 := b_120; unfold bd at h9_11; have h9_12 := h_217; unfold bd at h9_12; have h9_13 := b_241; unfold bd at h9_13; have h9_14 := h_35; unfold bd at h9_14; have h9_15 := b_229; unfold bd at h9_15; have h9_16 := b_231; unfold bd at h9_16; have h8_0 := kb_0; unfold bd at h8_0; have h8_1 := kb_1; unfold bd at h8_1; have h8_2 := kb_1000; unfold bd at h8_2; have h8_3 := kb_3; unfold bd at h8_3; have h8_4 := kb_m1; unfold bd at h8_4; omega)
                                    have go_ := g
                                    refine g_callEv (As := []) (rest := []) ⟨hx, hb, hml, hown, hts⟩ (r_X14_next_2 l dC dI L kd tys fr_243 H.size g.2.2.2.1 adK adV a0_ ma0_ ka0_ x_151 (bd_sub b_224 (by decide)) (g.fcts [5] rfl)) (cwV 0 hts (gV_ t_2411 t_2413 t_102 t_198 t_2414) rfl rfl rfl (by decide +kernel) ⟨(show 6 + 1 ≤ N + 1 + 24 by omega), (show 8 + (1 + 11) + 135 ≤ 60 * (N + 1) + 700 by omega)⟩) (pre3VA g hK hAm ma0_ ka0_ (by decide) (q := (RX14, TX14, 67)) rfl) rfl hl.1 rfl (lv_room (Nat.le_of_ble_eq_true rfl)) dX14_readOne_345 (cl_f hck_0) g hK (by decide) (by decide) (fx' := [(12, 8, q0_, .ref a_227), (14, 25, a0_, .int x_153), (12, 58, q0_, .int x_127), (14, 2, a0_, .ref q0_), (14, 16, a0_, .int o_)]) rfl (fun xr_253 fr_253 H locs mxr_253 kxr_253 hp hMr_253 g => ?_) (fun fr_253 H locs hp hMr_253 g => ?_)
                                    · have hG_254 := FR.frame hMr_253 go_.2.2.2.1 mq0_ kq0_ (by decide) (by decide) hG_248
                                      have hG_255 := isV.frame hMr_253 go_.2.2.2.1 mq0_ kq0_ (by decide) (by decide) hG_249
                                      have hG_256 := isN.frame hMr_253 go_.2.2.2.1 ma0_ ka0_ (by decide) (by decide) hG_251
                                      subst hQ
                                      exact leavesX hempty hlocks (fun t ht hW => g_thrZ g hK mxr_253 kxr_253 ⟨hG_254, (by omega)⟩ ht hW) g.2.2.1.2.2
                                    · obtain ⟨hx_257, h_258, x_259, h_260, hF_261⟩ := hp
                                      have hG_262 := FR.frame hMr_253 go_.2.2.2.1 mq0_ kq0_ (by decide) (by decide) hG_248
                                      have hG_263 := isV.frame hMr_253 go_.2.2.2.1 mq0_ kq0_ (by decide) (by decide) hG_249
                                      have hG_264 := isN.frame hMr_253 go_.2.2.2.1 ma0_ ka0_ (by decide) (by decide) hG_251
                                      obtain ⟨E_265, hE_265⟩ : ∃ E : Int, cEq fr_253 a0_ E := ⟨_, rfl⟩
                                      have mxE_265 : E_265 ≤ 1202 := by have h9 := cF_le g ma0_ ka0_; have h8 : cF _ _ = _ := hE_265; omega
                                      have lE_265 : E_158 + 1 ≤ E_265 := by have h9 := hx_257; have h8 : cF _ _ = _ := hE_265; have h7 : cF _ _ = _ := hG_250; have h6 := hs_252; have h5 := tk_c (f := fr_243) (t := a0_); omega
                                      have g := g.more hF_261
                                      refine lv_aload_n hx hb dX14_readOne_348 rfl (lv_at hl 2 rfl) ?_
                                      refine lv_bipush (v := 41) hx hb dX14_readOne_349 (by decide) ?_
                                      have go_ := g
                                      refine g_callEv (As := [.int 41]) (rest := []) ⟨hx, hb, hml, hown, hts⟩ (r_X14_closing l dC dI L kd tys fr_253 H.size g.2.2.2.1 adK adV a0_ ma0_ ka0_ 41 x_259 h_260 x_153 h_154 (g.fcts [0, 2] rfl)) (cwV 1 hts (gV_ t_2492 t_2494 t_120 t_198 t_2495) rfl rfl rfl (by decide +kernel) ⟨(show 8 + 1 ≤ N + 1 + 24 by omega), (show 8 + (2 + 11) + 176 ≤ 60 * (N + 1) + 700 by omega)⟩) (pre3VA g hK hAm ma0_ ka0_ (by decide) (q := (RX14, TX14, 67)) rfl) rfl hl.1 rfl (lv_room (Nat.le_of_ble_eq_true rfl)) dX14_readOne_351 (cl_f hck_0) g hK (by decide) (by decide) (fx' := [(12, 8, q0_, .ref a_227), (12, 58, q0_, .int x_127), (14, 2, a0_, .ref q0_), (14, 16, a0_, .int o_)]) rfl (fun xr_266 fr_266 H locs mxr_266 kxr_266 hp hMr_266 g => ?_) (fun fr_266 H locs hp hMr_266 g => ?_)
                                      · have hG_267 := FR.frame hMr_266 go_.2.2.2.1 mq0_ kq0_ (by decide) (by decide) hG_262
                                        have hG_268 := isV.frame hMr_266 go_.2.2.2.1 mq0_ kq0_ (by decide) (by decide) hG_263
                                        have hG_269 := isN.frame hMr_266 go_.2.2.2.1 ma0_ ka0_ (by decide) (by decide) hG_264
                                        subst hQ
                                        exact leavesX hempty hlocks (fun t ht hW => g_thrZ g hK mxr_266 kxr_266 ⟨hG_267, (by omega)⟩ ht hW) g.2.2.1.2.2
                                      · obtain ⟨hx_270, h_271, x_272, h_273, x_274, ⟨h_275, rh_275⟩, hF_276⟩ := hp
                                        have hG_277 := FR.frame hMr_266 go_.2.2.2.1 mq0_ kq0_ (by decide) (by decide) hG_262
                                        have hG_278 := isV.frame hMr_266 go_.2.2.2.1 mq0_ kq0_ (by decide) (by decide) hG_263
                                        have hG_279 := isN.frame hMr_266 go_.2.2.2.1 ma0_ ka0_ (by decide) (by decide) hG_264
                                        obtain ⟨E_280, hE_280⟩ : ∃ E : Int, cEq fr_266 a0_ E := ⟨_, rfl⟩
                                        have mxE_280 : E_280 ≤ 1202 := by have h9 := cF_le g ma0_ ka0_; have h8 : cF _ _ = _ := hE_280; omega
                                        have lE_280 : E_265 + 1 ≤ E_280 := by have h9 := hx_270; have h8 : cF _ _ = _ := hE_280; have h7 : cF _ _ = _ := hE_265; omega
                                        have b_281 : bd 0 1200 x_259 := eqX rfl h_260 h_271 (by decide)
                                        have g := g.more hF_276
                                        refine lv_aload_n hx hb dX14_readOne_354 rfl (lv_at hl 2 rfl) ?_
                                        refine lv_bipush (v := 6) hx hb dX14_readOne_355 (by decide) ?_
                                        refine lv_iconst (v := (-1)) hx hb dX14_readOne_357 (by decide) ?_
                                        refine lv_iconst (v := (-1)) hx hb dX14_readOne_358 (by decide) ?_
                                        refine lv_iconst (v := 1) hx hb dX14_readOne_359 (by decide) ?_
                                        have hnb : (V_.n 57).toInt ≤ 2499 := by omega
                                        have go_ := g
                                        refine g_calli (va_runV (As := [.int 6, .int (-1), .int (-1), .int 1]) (rest := []) ⟨hx, hb, hml, hown, hts⟩ (r_X14_node l dC dI L kd tys fr_266 H.size g.2.2.2.1 a0_ ma0_ ka0_ 6 (-1) (-1) 1 q0_ mq0_ kq0_ o_ bo_ V_ hG_278 hnb (g.fcts [4, 5] rfl)) (cwV 4 hts (gV_ t_2480 t_2482 t_117 t_198 t_2483) rfl rfl rfl (by decide +kernel) ⟨(show 0 + 1 ≤ N + 1 + 24 by omega), (show 8 + (6 + 11) + 0 ≤ 60 * (N + 1) + 700 by omega)⟩) (pre3V g hK ma0_ ka0_ (by decide) (q := (RX14, TX14, 67)) rfl) rfl rfl hl.1 rfl (lv_room (Nat.le_of_ble_eq_true rfl)) dX14_readOne_360 (cl_f hck_0)) g hK (by decide) (by decide) (fx' := [(14, 10, a0_, .int x_272), (14, 25, a0_, .int x_274), (12, 8, q0_, .ref a_227), (12, 58, q0_, .int x_127), (14, 2, a0_, .ref q0_), (14, 16, a0_, .int o_)]) rfl (fun r_282 fr_282 H locs hp hMr_282 g => ?_)
                                        obtain ⟨hx_283, hx_284, h_285, x_286, h_287, hF_288⟩ := hp
                                        have hG_289 := isN.frame hMr_282 go_.2.2.2.1 ma0_ ka0_ (by decide) (by decide) hG_279
                                        have hG_290 := cEq.frame hMr_282 go_.2.2.2.1 ma0_ ka0_ (by decide) (by decide) hE_280
                                        have hF_291 := FR.call (mds := []) (mas := []) hG_277 go_ mq0_ kq0_ rfl hx_284
                                        obtain ⟨V_292, hV_293, hN_294⟩ := hx_283
                                        have g := g.more hF_288
                                        refine lv_istore_n (lv' := [(3, .int r_282), (2, .int r_182), (1, .int x_1), (0, .ref a0_)]) hx hb dX14_readOne_363 rfl hl (by decide) rfl (fun ls hl => ?_)
                                        refine lv_aload_n hx hb dX14_readOne_364 rfl (lv_at hl 3 rfl) ?_
                                        refine g_getk (C := RX14) (T := TX14) (N := 67) hx hb hts (mc_ inX14) hown hK g rfl 2 (by decide) rfl (hts _ (List.mem_cons_of_mem _ t_2148)) (fun _ h9 => h9) 5 rfl dX14_readOne_365 ?_
                                        refine g_getr (K := 204) (C := RX12) (T := TX12) (N := 60) hx hb hts (mc_ inX12) hown hK g mq0_ kq0_ (by decide) rfl 50 (by decide) rfl (hts _ (List.mem_cons_of_mem _ t_2004)) (fun _ h9 => h9) rfl dX14_readOne_368 (fun a_295 ma_295 ka_295 g => ?_)
                                        refine lv_iload_n hx hb dX14_readOne_371 rfl (lv_at hl 0 rfl) ?_
                                        refine lv_iload_n hx hb dX14_readOne_372 rfl (lv_at hl 1 rfl) ?_
                                        have gp_296 := g
                                        have go_ := g
                                        refine g_iastX hx hb hK g ma_295 ka_295 (by decide) rfl (in_bd h_285 (by decide)) (bd_sub b_196 (by decide)) (by decide) dX14_readOne_373 (fun f H locs hM_297 u_300 g => ?_)
                                        have hG_298 := isN.frame hM_297 go_.2.2.2.1 ma0_ ka0_ (by decide) (by decide) hG_289
                                        have hG_299 := cEq.frame hM_297 go_.2.2.2.1 ma0_ ka0_ (by decide) (by decide) hG_290
                                        have hV_301 := isV.ui hV_293 gp_296 0 rfl mq0_ kq0_ rfl u_300
                                        have hF_302 := FR.arr hF_291 gp_296 0 rfl mq0_ kq0_ rfl rfl u_300.1
                                        have hN_303 := NN.s50 (v := r_182) hN_294 h_285.1
                                        refine lv_iload_n hx hb dX14_readOne_374 rfl (lv_at hl 0 rfl) ?_
                                        have hf_304 : fin V_ (V_292.ui 50 r_282.toNatClampNeg r_182) r_282 12 o_ := nd_size hN_303 h_285.1 hwf (by decide) (by decide) ho (by decide) ⟨b_196.1, b_196.2⟩
                                        have ho_308 : ((V_292.ui 50 r_282.toNatClampNeg r_182).i 47 r_282.toNatClampNeg).toInt = 6 := (congrArg Int32.toInt (hN_303).2.2.2.1).trans (by decide)
                                        obtain ⟨V_305, hV_306, hf_307, ho_308⟩ : ∃ V1 : PV, isV f q0_ V1 ∧ fin V_ V1 r_282 12 o_ ∧ (V1.i 47 r_282.toNatClampNeg).toInt = 6 := ⟨_, hV_301, hf_304, ho_308⟩
                                        have hf_307n := hf_307.2.2.2
                                        have hx_309 := exN.tr exN.rf hf_307.1
                                        have hv_310 := exN.var hf_307.1 hv_197
                                        have hd_311 := nmd_ex hf_307.1 hd_189
                                        obtain rfl : op_ = x_274 := Int32.toInt_inj.mp (by have h9_0 := bo_; unfold bd at h9_0; have h9_1 := b_160; unfold bd at h9_1; have h9_2 := b_196; unfold bd at h9_2; have h9_3 := h_285; unfold bd at h9_3; have h9_4 := b_144; unfold bd at h9_4; have h9_5 := bx_1; unfold bd at h9_5; have h9_6 := h_128; unfold bd at h9_6; have h9_7 := b_159; unfold bd at h9_7; have h9_8 := b_224; unfold bd at h9_8; have h9_9 := h_154; unfold bd at h9_9; have h9_10 := b_168; unfold bd at h9_10; have h9_11 := bx_169; unfold bd at h9_11; have h9_12 := b_120; unfold bd at h9_12; have h9_13 := h_217; unfold bd at h9_13; have h9_14 := b_241; unfold bd at h9_14; have h9_15 := b_281; unfold bd at h9_15; have h9_16 := h_273; unfold bd at h9_16; have h9_17 := h_275; unfold bd at h9_17; have h9_18 := h_287; unfold bd at h9_18; have h9_19 := h_35; unfold bd at h9_19; have h9_20 := b_229; unfold bd at h9_20; have h9_21 := b_231; unfold bd at h9_21; have h8_0 := kb_0; unfold bd at h8_0; have h8_1 := kb_1; unfold bd at h8_1; have h8_2 := kb_1000; unfold bd at h8_2; have h8_3 := kb_3; unfold bd at h8_3; have h8_4 := kb_m1; unfold bd at h8_4; omega)
                                        have h9c : cF f a0_ = _ := hG_299
                                        subst hQ
                                        exact iretX (v := r_282) hx hb hr (fun t ht hW => g_retZ g hK ⟨_, rfl, ⟨⟨_, hV_306, hF_302, hx_309, hf_307.2.1, hf_307.2.2.1, trivial, (by omega), (by omega), (by omega)⟩, x_272, h_273, (g.fcts [3, 2] rfl)⟩⟩ ht hW) g.2.2.1.2.2 dX14_readOne_375 hlocks
                      · have b_312 : bd 1000 1002 r_182 := ⟨h_188.1, h_188.2⟩
                        have hv_313 : varOK V_ r_182 o_.toNatClampNeg := Or.inr (Or.inl h_188)
                        refine lv_istore_n (lv' := [(2, .int r_182), (1, .int x_1), (0, .ref a0_)]) hx hb dX14_readOne_279 rfl hl (by decide) rfl (fun ls hl => ?_)
                        refine lv_aload_n hx hb dX14_readOne_280 rfl (lv_at hl 2 rfl) ?_
                        refine lv_iload_n hx hb dX14_readOne_281 rfl (lv_at hl 0 rfl) ?_
                        refine lv_iconst (v := (-1)) hx hb dX14_readOne_282 (by decide) ?_
                        have kb_m1 : bd (-1) (-1) ((-1) : Int32) := ⟨by decide, by decide⟩
                        refine lv_icmp_eq (tgt := 290) hx hb dX14_readOne_283 (by decide) (fun c_314 => ?_) (fun c_314 => ?_)
                        · have fc_314 := eq_f c_314
                          have b_315 : bd 1000 (-1) r_182 := eqX fc_314 b_312 kb_m1 (by decide)
                          exact bd_no b_315 (by decide)
                        · have fc_314 := neq_f c_314
                          refine lv_iconst (v := 1) hx hb dX14_readOne_286 (by decide) ?_
                          refine lv_goto (tgt := 291) hx hb dX14_readOne_287 (by decide) ?_
                          refine lv_iconst (v := 2) hx hb dX14_readOne_291 (by decide) ?_
                          refine lv_aload_n hx hb dX14_readOne_292 rfl (lv_at hl 2 rfl) ?_
                          refine g_getk (C := RX14) (T := TX14) (N := 67) hx hb hts (mc_ inX14) hown hK g rfl 8 (by decide) rfl (hts _ (List.mem_cons_of_mem _ t_2154)) (fun _ h9 => h9) 2 rfl dX14_readOne_293 ?_
                          have hs_316 := sE_1 g 3 rfl (by have h9_0 := bo_; unfold bd at h9_0; have h9_1 := b_160; unfold bd at h9_1; have h9_2 := b_312; unfold bd at h9_2; have h9_3 := b_144; unfold bd at h9_3; have h9_4 := bx_1; unfold bd at h9_4; have h9_5 := h_128; unfold bd at h9_5; have h9_6 := b_159; unfold bd at h9_6; have h9_7 := h_152; unfold bd at h9_7; have h9_8 := h_154; unfold bd at h9_8; have h9_9 := b_168; unfold bd at h9_9; have h9_10 := bx_169; unfold bd at h9_10; have h9_11 := b_120; unfold bd at h9_11; have h9_12 := h_35; unfold bd at h9_12; have h8_0 := kb_1; unfold bd at h8_0; have h8_1 := kb_3; unfold bd at h8_1; have h8_2 := kb_m1; unfold bd at h8_2; omega)
                          have go_ := g
                          refine g_callEv (As := [.int 1, .int 2, .int x_169]) (rest := []) ⟨hx, hb, hml, hown, hts⟩ (r_X14_need_3 l dC dI L kd tys fr_182 H.size g.2.2.2.1 a0_ ma0_ ka0_ 1 kb_1 2 x_169) (cwV 3 hts (gV_ t_2403 t_2405 t_100 t_198 t_2406) rfl rfl rfl (by decide +kernel) ⟨(show 0 + 1 ≤ N + 1 + 24 by omega), (show 8 + (4 + 11) + 0 ≤ 60 * (N + 1) + 700 by omega)⟩) (pre3V g hK ma0_ ka0_ (by decide) (q := (RX14, TX14, 67)) rfl) rfl hl.1 rfl (lv_room (Nat.le_of_ble_eq_true rfl)) dX14_readOne_296 (cl_f hck_0) g hK (by decide) (by decide) (fx' := [(14, 13, a0_, .long x_179), (14, 12, a0_, .long x_178), (14, 8, a0_, .int x_169), (14, 6, a0_, .int x_161), (14, 10, a0_, .int x_151), (14, 25, a0_, .int x_153), (12, 58, q0_, .int x_127), (14, 2, a0_, .ref q0_), (14, 16, a0_, .int o_)]) rfl (fun xr_317 fr_317 H locs mxr_317 kxr_317 hp hMr_317 g => ?_) (fun fr_317 H locs hp hMr_317 g => ?_)
                          · have hG_318 := FR.frame hMr_317 go_.2.2.2.1 mq0_ kq0_ (by decide) (by decide) hG_184
                            have hG_319 := isV.frame hMr_317 go_.2.2.2.1 mq0_ kq0_ (by decide) (by decide) hG_185
                            have hG_320 := cEq.frame hMr_317 go_.2.2.2.1 ma0_ ka0_ (by decide) (by decide) hG_186
                            have hG_321 := isN.frame hMr_317 go_.2.2.2.1 ma0_ ka0_ (by decide) (by decide) hG_187
                            exact hp.elim
                          · have hG_322 := FR.frame hMr_317 go_.2.2.2.1 mq0_ kq0_ (by decide) (by decide) hG_184
                            have hG_323 := isV.frame hMr_317 go_.2.2.2.1 mq0_ kq0_ (by decide) (by decide) hG_185
                            have hG_324 := cEq.frame hMr_317 go_.2.2.2.1 ma0_ ka0_ (by decide) (by decide) hG_186
                            have hG_325 := isN.frame hMr_317 go_.2.2.2.1 ma0_ ka0_ (by decide) (by decide) hG_187
                            refine lv_aload_n hx hb dX14_readOne_299 rfl (lv_at hl 2 rfl) ?_
                            have hs_326 := sE_1 g 3 rfl (by have h9_0 := bo_; unfold bd at h9_0; have h9_1 := b_160; unfold bd at h9_1; have h9_2 := b_312; unfold bd at h9_2; have h9_3 := b_144; unfold bd at h9_3; have h9_4 := bx_1; unfold bd at h9_4; have h9_5 := h_128; unfold bd at h9_5; have h9_6 := b_159; unfold bd at h9_6; have h9_7 := h_152; unfold bd at h9_7; have h9_8 := h_154; unfold bd at h9_8; have h9_9 := b_168; unfold bd at h9_9; have h9_10 := bx_169; unfold bd at h9_10; have h9_11 := b_120; unfold bd at h9_11; have h9_12 := h_35; unfold bd at h9_12; have h8_0 := kb_1; unfold bd at h8_0; have h8_1 := kb_3; unfold bd at h8_1; have h8_2 := kb_m1; unfold bd at h8_2; omega)
                            have go_ := g
                            refine g_callEv (As := []) (rest := []) ⟨hx, hb, hml, hown, hts⟩ (r_X14_room l dC dI L kd tys fr_317 H.size g.2.2.2.1 a0_ ma0_ ka0_) (cwV 0 hts (gV_ t_2415 t_2417 t_103 t_198 t_2418) rfl rfl rfl (by decide +kernel) ⟨(show 2 + 1 ≤ N + 1 + 24 by omega), (show 8 + (1 + 11) + 45 ≤ 60 * (N + 1) + 700 by omega)⟩) (pre3V g hK ma0_ ka0_ (by decide) (q := (RX14, TX14, 67)) rfl) rfl hl.1 rfl (lv_room (Nat.le_of_ble_eq_true rfl)) dX14_readOne_300 (cl_f hck_0) g hK (by decide) (by decide) (fx' := [(14, 13, a0_, .long x_179), (14, 12, a0_, .long x_178), (14, 8, a0_, .int x_169), (14, 6, a0_, .int x_161), (14, 10, a0_, .int x_151), (14, 25, a0_, .int x_153), (12, 58, q0_, .int x_127), (14, 2, a0_, .ref q0_), (14, 16, a0_, .int o_)]) rfl (fun xr_327 fr_327 H locs mxr_327 kxr_327 hp hMr_327 g => ?_) (fun fr_327 H locs hp hMr_327 g => ?_)
                            · have hG_328 := FR.frame hMr_327 go_.2.2.2.1 mq0_ kq0_ (by decide) (by decide) hG_322
                              have hG_329 := isV.frame hMr_327 go_.2.2.2.1 mq0_ kq0_ (by decide) (by decide) hG_323
                              have hG_330 := cEq.frame hMr_327 go_.2.2.2.1 ma0_ ka0_ (by decide) (by decide) hG_324
                              have hG_331 := isN.frame hMr_327 go_.2.2.2.1 ma0_ ka0_ (by decide) (by decide) hG_325
                              subst hQ
                              exact leavesX hempty hlocks (fun t ht hW => g_thrZ g hK mxr_327 kxr_327 ⟨hG_328, (by omega)⟩ ht hW) g.2.2.1.2.2
                            · obtain ⟨x_332, h_333, hF_334⟩ := hp
                              have hG_335 := FR.frame hMr_327 go_.2.2.2.1 mq0_ kq0_ (by decide) (by decide) hG_322
                              have hG_336 := isV.frame hMr_327 go_.2.2.2.1 mq0_ kq0_ (by decide) (by decide) hG_323
                              have hG_337 := cEq.frame hMr_327 go_.2.2.2.1 ma0_ ka0_ (by decide) (by decide) hG_324
                              have hG_338 := isN.frame hMr_327 go_.2.2.2.1 ma0_ ka0_ (by decide) (by decide) hG_325
                              have g := g.more hF_334
                              have e_339 := fx_same g 5 0 rfl rfl
                              have b_340 : bd 0 1200 x_151 := eqX (eq_f e_339.symm) h_152 h_333 (by decide)
                              have g := g.sub (fx' := [(14, 13, a0_, .long x_179), (14, 12, a0_, .long x_178), (14, 8, a0_, .int x_169), (14, 6, a0_, .int x_161), (14, 10, a0_, .int x_151), (14, 25, a0_, .int x_153), (12, 58, q0_, .int x_127), (14, 2, a0_, .ref q0_), (14, 16, a0_, .int o_)]) [1, 2, 3, 4, 5, 6, 7, 8, 9] rfl
                              refine lv_aload_n hx hb dX14_readOne_303 rfl (lv_at hl 2 rfl) ?_
                              refine lv_iload_n hx hb dX14_readOne_304 rfl (lv_at hl 0 rfl) ?_
                              refine lv_sipush (v := 1000) hx hb dX14_readOne_305 (by decide) ?_
                              have kb_1000 : bd 1000 1000 (1000 : Int32) := ⟨by decide, by decide⟩
                              refine lv_icmp_ge (tgt := 335) hx hb dX14_readOne_308 (by decide) (fun c_341 => ?_) (fun c_341 => ?_)
                              · have fc_341 := le_f c_341
                                refine lv_iconst (v := 0) hx hb dX14_readOne_335 (by decide) ?_
                                refine lv_iconst (v := 5) hx hb dX14_readOne_336 (by decide) ?_
                                refine lv_aload_n hx hb dX14_readOne_337 rfl (lv_at hl 2 rfl) ?_
                                refine g_getk (C := RX14) (T := TX14) (N := 67) hx hb hts (mc_ inX14) hown hK g rfl 8 (by decide) rfl (hts _ (List.mem_cons_of_mem _ t_2154)) (fun _ h9 => h9) 2 rfl dX14_readOne_338 ?_
                                have hs_342 := sE_1 g 3 rfl (by have h9_0 := bo_; unfold bd at h9_0; have h9_1 := b_160; unfold bd at h9_1; have h9_2 := b_312; unfold bd at h9_2; have h9_3 := b_144; unfold bd at h9_3; have h9_4 := bx_1; unfold bd at h9_4; have h9_5 := h_128; unfold bd at h9_5; have h9_6 := b_159; unfold bd at h9_6; have h9_7 := b_340; unfold bd at h9_7; have h9_8 := h_154; unfold bd at h9_8; have h9_9 := b_168; unfold bd at h9_9; have h9_10 := bx_169; unfold bd at h9_10; have h9_11 := b_120; unfold bd at h9_11; have h9_12 := h_333; unfold bd at h9_12; have h9_13 := h_35; unfold bd at h9_13; have h8_0 := kb_1; unfold bd at h8_0; have h8_1 := kb_1000; unfold bd at h8_1; have h8_2 := kb_3; unfold bd at h8_2; have h8_3 := kb_m1; unfold bd at h8_3; omega)
                                have kb_0 : bd 0 0 (0 : Int32) := ⟨by decide, by decide⟩
                                have go_ := g
                                refine g_callEv (As := [.int 0, .int 5, .int x_169]) (rest := []) ⟨hx, hb, hml, hown, hts⟩ (r_X14_need_2 l dC dI L kd tys fr_327 H.size g.2.2.2.1 a0_ ma0_ ka0_ 0 kb_0 5 x_169) (cwV 3 hts (gV_ t_2403 t_2405 t_100 t_198 t_2406) rfl rfl rfl (by decide +kernel) ⟨(show 1 + 1 ≤ N + 1 + 24 by omega), (show 8 + (4 + 11) + 22 ≤ 60 * (N + 1) + 700 by omega)⟩) (pre3V g hK ma0_ ka0_ (by decide) (q := (RX14, TX14, 67)) rfl) rfl hl.1 rfl (lv_room (Nat.le_of_ble_eq_true rfl)) dX14_readOne_341 (cl_f hck_0) g hK (by decide) (by decide) (fx' := [(14, 13, a0_, .long x_179), (14, 12, a0_, .long x_178), (14, 8, a0_, .int x_169), (14, 6, a0_, .int x_161), (14, 10, a0_, .int x_151), (14, 25, a0_, .int x_153), (12, 58, q0_, .int x_127), (14, 2, a0_, .ref q0_), (14, 16, a0_, .int o_)]) rfl (fun xr_343 fr_343 H locs mxr_343 kxr_343 hp hMr_343 g => ?_) (fun fr_343 H locs hp hMr_343 g => ?_)
                                · have hG_344 := FR.frame hMr_343 go_.2.2.2.1 mq0_ kq0_ (by decide) (by decide) hG_335
                                  have hG_345 := isV.frame hMr_343 go_.2.2.2.1 mq0_ kq0_ (by decide) (by decide) hG_336
                                  have hG_346 := cEq.frame hMr_343 go_.2.2.2.1 ma0_ ka0_ (by decide) (by decide) hG_337
                                  have hG_347 := isN.frame hMr_343 go_.2.2.2.1 ma0_ ka0_ (by decide) (by decide) hG_338
                                  subst hQ
                                  exact leavesX hempty hlocks (fun t ht hW => g_thrZ g hK mxr_343 kxr_343 ⟨hG_344, (by omega)⟩ ht hW) g.2.2.1.2.2
                                · exact hp.elim
                              · have fc_341 := nle_f c_341
                                have b_348 : bd 1000 999 r_182 := ltL fc_341 b_312 kb_1000 (by decide)
                                exact bd_no b_348 (by decide)
                      · have b_349 : bd 2000 2007 r_182 := ⟨h_188.1, h_188.2⟩
                        have hv_350 : varOK V_ r_182 o_.toNatClampNeg := Or.inr (Or.inr h_188)
                        refine lv_istore_n (lv' := [(2, .int r_182), (1, .int x_1), (0, .ref a0_)]) hx hb dX14_readOne_279 rfl hl (by decide) rfl (fun ls hl => ?_)
                        refine lv_aload_n hx hb dX14_readOne_280 rfl (lv_at hl 2 rfl) ?_
                        refine lv_iload_n hx hb dX14_readOne_281 rfl (lv_at hl 0 rfl) ?_
                        refine lv_iconst (v := (-1)) hx hb dX14_readOne_282 (by decide) ?_
                        have kb_m1 : bd (-1) (-1) ((-1) : Int32) := ⟨by decide, by decide⟩
                        refine lv_icmp_eq (tgt := 290) hx hb dX14_readOne_283 (by decide) (fun c_351 => ?_) (fun c_351 => ?_)
                        · have fc_351 := eq_f c_351
                          have b_352 : bd 2000 (-1) r_182 := eqX fc_351 b_349 kb_m1 (by decide)
                          exact bd_no b_352 (by decide)
                        · have fc_351 := neq_f c_351
                          refine lv_iconst (v := 1) hx hb dX14_readOne_286 (by decide) ?_
                          refine lv_goto (tgt := 291) hx hb dX14_readOne_287 (by decide) ?_
                          refine lv_iconst (v := 2) hx hb dX14_readOne_291 (by decide) ?_
                          refine lv_aload_n hx hb dX14_readOne_292 rfl (lv_at hl 2 rfl) ?_
                          refine g_getk (C := RX14) (T := TX14) (N := 67) hx hb hts (mc_ inX14) hown hK g rfl 8 (by decide) rfl (hts _ (List.mem_cons_of_mem _ t_2154)) (fun _ h9 => h9) 2 rfl dX14_readOne_293 ?_
                          have hs_353 := sE_1 g 3 rfl (by have h9_0 := bo_; unfold bd at h9_0; have h9_1 := b_160; unfold bd at h9_1; have h9_2 := b_349; unfold bd at h9_2; have h9_3 := b_144; unfold bd at h9_3; have h9_4 := bx_1; unfold bd at h9_4; have h9_5 := h_128; unfold bd at h9_5; have h9_6 := b_159; unfold bd at h9_6; have h9_7 := h_152; unfold bd at h9_7; have h9_8 := h_154; unfold bd at h9_8; have h9_9 := b_168; unfold bd at h9_9; have h9_10 := bx_169; unfold bd at h9_10; have h9_11 := b_120; unfold bd at h9_11; have h9_12 := h_35; unfold bd at h9_12; have h8_0 := kb_1; unfold bd at h8_0; have h8_1 := kb_3; unfold bd at h8_1; have h8_2 := kb_m1; unfold bd at h8_2; omega)
                          have go_ := g
                          refine g_callEv (As := [.int 1, .int 2, .int x_169]) (rest := []) ⟨hx, hb, hml, hown, hts⟩ (r_X14_need_3 l dC dI L kd tys fr_182 H.size g.2.2.2.1 a0_ ma0_ ka0_ 1 kb_1 2 x_169) (cwV 3 hts (gV_ t_2403 t_2405 t_100 t_198 t_2406) rfl rfl rfl (by decide +kernel) ⟨(show 0 + 1 ≤ N + 1 + 24 by omega), (show 8 + (4 + 11) + 0 ≤ 60 * (N + 1) + 700 by omega)⟩) (pre3V g hK ma0_ ka0_ (by decide) (q := (RX14, TX14, 67)) rfl) rfl hl.1 rfl (lv_room (Nat.le_of_ble_eq_true rfl)) dX14_readOne_296 (cl_f hck_0) g hK (by decide) (by decide) (fx' := [(14, 13, a0_, .long x_179), (14, 12, a0_, .long x_178), (14, 8, a0_, .int x_169), (14, 6, a0_, .int x_161), (14, 10, a0_, .int x_151), (14, 25, a0_, .int x_153), (12, 58, q0_, .int x_127), (14, 2, a0_, .ref q0_), (14, 16, a0_, .int o_)]) rfl (fun xr_354 fr_354 H locs mxr_354 kxr_354 hp hMr_354 g => ?_) (fun fr_354 H locs hp hMr_354 g => ?_)
                          · have hG_355 := FR.frame hMr_354 go_.2.2.2.1 mq0_ kq0_ (by decide) (by decide) hG_184
                            have hG_356 := isV.frame hMr_354 go_.2.2.2.1 mq0_ kq0_ (by decide) (by decide) hG_185
                            have hG_357 := cEq.frame hMr_354 go_.2.2.2.1 ma0_ ka0_ (by decide) (by decide) hG_186
                            have hG_358 := isN.frame hMr_354 go_.2.2.2.1 ma0_ ka0_ (by decide) (by decide) hG_187
                            exact hp.elim
                          · have hG_359 := FR.frame hMr_354 go_.2.2.2.1 mq0_ kq0_ (by decide) (by decide) hG_184
                            have hG_360 := isV.frame hMr_354 go_.2.2.2.1 mq0_ kq0_ (by decide) (by decide) hG_185
                            have hG_361 := cEq.frame hMr_354 go_.2.2.2.1 ma0_ ka0_ (by decide) (by decide) hG_186
                            have hG_362 := isN.frame hMr_354 go_.2.2.2.1 ma0_ ka0_ (by decide) (by decide) hG_187
                            refine lv_aload_n hx hb dX14_readOne_299 rfl (lv_at hl 2 rfl) ?_
                            have hs_363 := sE_1 g 3 rfl (by have h9_0 := bo_; unfold bd at h9_0; have h9_1 := b_160; unfold bd at h9_1; have h9_2 := b_349; unfold bd at h9_2; have h9_3 := b_144; unfold bd at h9_3; have h9_4 := bx_1; unfold bd at h9_4; have h9_5 := h_128; unfold bd at h9_5; have h9_6 := b_159; unfold bd at h9_6; have h9_7 := h_152; unfold bd at h9_7; have h9_8 := h_154; unfold bd at h9_8; have h9_9 := b_168; unfold bd at h9_9; have h9_10 := bx_169; unfold bd at h9_10; have h9_11 := b_120; unfold bd at h9_11; have h9_12 := h_35; unfold bd at h9_12; have h8_0 := kb_1; unfold bd at h8_0; have h8_1 := kb_3; unfold bd at h8_1; have h8_2 := kb_m1; unfold bd at h8_2; omega)
                            have go_ := g
                            refine g_callEv (As := []) (rest := []) ⟨hx, hb, hml, hown, hts⟩ (r_X14_room l dC dI L kd tys fr_354 H.size g.2.2.2.1 a0_ ma0_ ka0_) (cwV 0 hts (gV_ t_2415 t_2417 t_103 t_198 t_2418) rfl rfl rfl (by decide +kernel) ⟨(show 2 + 1 ≤ N + 1 + 24 by omega), (show 8 + (1 + 11) + 45 ≤ 60 * (N + 1) + 700 by omega)⟩) (pre3V g hK ma0_ ka0_ (by decide) (q := (RX14, TX14, 67)) rfl) rfl hl.1 rfl (lv_room (Nat.le_of_ble_eq_true rfl)) dX14_readOne_300 (cl_f hck_0) g hK (by decide) (by decide) (fx' := [(14, 13, a0_, .long x_179), (14, 12, a0_, .long x_178), (14, 8, a0_, .int x_169), (14, 6, a0_, .int x_161), (14, 10, a0_, .int x_151), (14, 25, a0_, .int x_153), (12, 58, q0_, .int x_127), (14, 2, a0_, .ref q0_), (14, 16, a0_, .int o_)]) rfl (fun xr_364 fr_364 H locs mxr_364 kxr_364 hp hMr_364 g => ?_) (fun fr_364 H locs hp hMr_364 g => ?_)
                            · have hG_365 := FR.frame hMr_364 go_.2.2.2.1 mq0_ kq0_ (by decide) (by decide) hG_359
                              have hG_366 := isV.frame hMr_364 go_.2.2.2.1 mq0_ kq0_ (by decide) (by decide) hG_360
                              have hG_367 := cEq.frame hMr_364 go_.2.2.2.1 ma0_ ka0_ (by decide) (by decide) hG_361
                              have hG_368 := isN.frame hMr_364 go_.2.2.2.1 ma0_ ka0_ (by decide) (by decide) hG_362
                              subst hQ
                              exact leavesX hempty hlocks (fun t ht hW => g_thrZ g hK mxr_364 kxr_364 ⟨hG_365, (by omega)⟩ ht hW) g.2.2.1.2.2
                            · obtain ⟨x_369, h_370, hF_371⟩ := hp
                              have hG_372 := FR.frame hMr_364 go_.2.2.2.1 mq0_ kq0_ (by decide) (by decide) hG_359
                              have hG_373 := isV.frame hMr_364 go_.2.2.2.1 mq0_ kq0_ (by decide) (by decide) hG_360
                              have hG_374 := cEq.frame hMr_364 go_.2.2.2.1 ma0_ ka0_ (by decide) (by decide) hG_361
                              have hG_375 := isN.frame hMr_364 go_.2.2.2.1 ma0_ ka0_ (by decide) (by decide) hG_362
                              have g := g.more hF_371
                              have e_376 := fx_same g 5 0 rfl rfl
                              have b_377 : bd 0 1200 x_151 := eqX (eq_f e_376.symm) h_152 h_370 (by decide)
                              have g := g.sub (fx' := [(14, 13, a0_, .long x_179), (14, 12, a0_, .long x_178), (14, 8, a0_, .int x_169), (14, 6, a0_, .int x_161), (14, 10, a0_, .int x_151), (14, 25, a0_, .int x_153), (12, 58, q0_, .int x_127), (14, 2, a0_, .ref q0_), (14, 16, a0_, .int o_)]) [1, 2, 3, 4, 5, 6, 7, 8, 9] rfl
                              refine lv_aload_n hx hb dX14_readOne_303 rfl (lv_at hl 2 rfl) ?_
                              refine lv_iload_n hx hb dX14_readOne_304 rfl (lv_at hl 0 rfl) ?_
                              refine lv_sipush (v := 1000) hx hb dX14_readOne_305 (by decide) ?_
                              have kb_1000 : bd 1000 1000 (1000 : Int32) := ⟨by decide, by decide⟩
                              refine lv_icmp_ge (tgt := 335) hx hb dX14_readOne_308 (by decide) (fun c_378 => ?_) (fun c_378 => ?_)
                              · have fc_378 := le_f c_378
                                refine lv_iconst (v := 0) hx hb dX14_readOne_335 (by decide) ?_
                                refine lv_iconst (v := 5) hx hb dX14_readOne_336 (by decide) ?_
                                refine lv_aload_n hx hb dX14_readOne_337 rfl (lv_at hl 2 rfl) ?_
                                refine g_getk (C := RX14) (T := TX14) (N := 67) hx hb hts (mc_ inX14) hown hK g rfl 8 (by decide) rfl (hts _ (List.mem_cons_of_mem _ t_2154)) (fun _ h9 => h9) 2 rfl dX14_readOne_338 ?_
                                have hs_379 := sE_1 g 3 rfl (by have h9_0 := bo_; unfold bd at h9_0; have h9_1 := b_160; unfold bd at h9_1; have h9_2 := b_349; unfold bd at h9_2; have h9_3 := b_144; unfold bd at h9_3; have h9_4 := bx_1; unfold bd at h9_4; have h9_5 := h_128; unfold bd at h9_5; have h9_6 := b_159; unfold bd at h9_6; have h9_7 := b_377; unfold bd at h9_7; have h9_8 := h_154; unfold bd at h9_8; have h9_9 := b_168; unfold bd at h9_9; have h9_10 := bx_169; unfold bd at h9_10; have h9_11 := b_120; unfold bd at h9_11; have h9_12 := h_35; unfold bd at h9_12; have h9_13 := h_370; unfold bd at h9_13; have h8_0 := kb_1; unfold bd at h8_0; have h8_1 := kb_1000; unfold bd at h8_1; have h8_2 := kb_3; unfold bd at h8_2; have h8_3 := kb_m1; unfold bd at h8_3; omega)
                                have kb_0 : bd 0 0 (0 : Int32) := ⟨by decide, by decide⟩
                                have go_ := g
                                refine g_callEv (As := [.int 0, .int 5, .int x_169]) (rest := []) ⟨hx, hb, hml, hown, hts⟩ (r_X14_need_2 l dC dI L kd tys fr_364 H.size g.2.2.2.1 a0_ ma0_ ka0_ 0 kb_0 5 x_169) (cwV 3 hts (gV_ t_2403 t_2405 t_100 t_198 t_2406) rfl rfl rfl (by decide +kernel) ⟨(show 1 + 1 ≤ N + 1 + 24 by omega), (show 8 + (4 + 11) + 22 ≤ 60 * (N + 1) + 700 by omega)⟩) (pre3V g hK ma0_ ka0_ (by decide) (q := (RX14, TX14, 67)) rfl) rfl hl.1 rfl (lv_room (Nat.le_of_ble_eq_true rfl)) dX14_readOne_341 (cl_f hck_0) g hK (by decide) (by decide) (fx' := [(14, 13, a0_, .long x_179), (14, 12, a0_, .long x_178), (14, 8, a0_, .int x_169), (14, 6, a0_, .int x_161), (14, 10, a0_, .int x_151), (14, 25, a0_, .int x_153), (12, 58, q0_, .int x_127), (14, 2, a0_, .ref q0_), (14, 16, a0_, .int o_)]) rfl (fun xr_380 fr_380 H locs mxr_380 kxr_380 hp hMr_380 g => ?_) (fun fr_380 H locs hp hMr_380 g => ?_)
                                · have hG_381 := FR.frame hMr_380 go_.2.2.2.1 mq0_ kq0_ (by decide) (by decide) hG_372
                                  have hG_382 := isV.frame hMr_380 go_.2.2.2.1 mq0_ kq0_ (by decide) (by decide) hG_373
                                  have hG_383 := cEq.frame hMr_380 go_.2.2.2.1 ma0_ ka0_ (by decide) (by decide) hG_374
                                  have hG_384 := isN.frame hMr_380 go_.2.2.2.1 ma0_ ka0_ (by decide) (by decide) hG_375
                                  subst hQ
                                  exact leavesX hempty hlocks (fun t ht hW => g_thrZ g hK mxr_380 kxr_380 ⟨hG_381, (by omega)⟩ ht hW) g.2.2.1.2.2
                                · exact hp.elim
                              · have fc_378 := nle_f c_378
                                have b_385 : bd 2000 999 r_182 := ltL fc_378 b_349 kb_1000 (by decide)
                                exact bd_no b_385 (by decide)
        · have hG_386 := isV.frame hMr_22 go_.2.2.2.1 mq0_ kq0_ (by decide) (by decide) hG_19
          have hG_387 := FR.frame hMr_22 go_.2.2.2.1 mq0_ kq0_ (by decide) (by decide) hG_20
          have hG_388 := cEq.frame hMr_22 go_.2.2.2.1 ma0_ ka0_ (by decide) (by decide) hG_21
          obtain rfl : r_22 = 1 := h_24
          have g := g.more hF_27
          have e_389 := fx_same g 1 0 rfl rfl
          have b_390 : bd 2 2 x_2 := eqX (eq_f e_389.symm) bx_2 h_26 (by decide)
          have g := g.sub (fx' := [(14, 6, a0_, .int x_2), (14, 8, a0_, .int x_1), (14, 2, a0_, .ref q0_), (14, 16, a0_, .int o_), (14, 25, a0_, .int op_), (14, 10, a0_, .int t_)]) [1, 2, 3, 4, 5, 6] rfl
          refine lv_if_eq (tgt := 222) hx hb dX14_readOne_94 (by decide) (fun c_ => absurd c_ (by decide)) (fun c_ => ?_)
          refine lv_aload_n hx hb dX14_readOne_97 rfl (lv_at hl 1 rfl) ?_
          refine lv_aload_n hx hb dX14_readOne_98 rfl (lv_at hl 1 rfl) ?_
          refine g_geti (C := RX14) (T := TX14) (N := 67) hx hb hts (mc_ inX14) hown hK g ma0_ ka0_ (by decide) rfl 23 (by decide) rfl (hts _ (List.mem_cons_of_mem _ t_2169)) (fun _ h9 => h9) rfl dX14_readOne_99 (fun x_391 bx_391 g => ?_)
          refine lv_iconst (v := 1) hx hb dX14_readOne_102 (by decide) ?_
          refine lv_aload_n hx hb dX14_readOne_103 rfl (lv_at hl 1 rfl) ?_
          refine g_getk (C := RX14) (T := TX14) (N := 67) hx hb hts (mc_ inX14) hown hK g rfl 8 (by decide) rfl (hts _ (List.mem_cons_of_mem _ t_2154)) (fun _ h9 => h9) 2 rfl dX14_readOne_104 ?_
          have hs_392 := sE_1 g 1 rfl (by have h9_0 := bo_; unfold bd at h9_0; have h9_1 := bop_; unfold bd at h9_1; have h9_2 := bt_; unfold bd at h9_2; have h9_3 := bx_1; unfold bd at h9_3; have h9_4 := b_390; unfold bd at h9_4; have h9_5 := h_26; unfold bd at h9_5; have h9_6 := bx_391; unfold bd at h9_6; have h8_0 := kb_3; unfold bd at h8_0; omega)
          have go_ := g
          refine g_callEv (As := [.int x_391, .int 1, .int x_1]) (rest := []) ⟨hx, hb, hml, hown, hts⟩ (r_X14_need_4 l dC dI L kd tys fr_22 H.size g.2.2.2.1 a0_ ma0_ ka0_ x_391 bx_391 1 x_1) (cwV 3 hts (gV_ t_2403 t_2405 t_100 t_198 t_2406) rfl rfl rfl (by decide +kernel) ⟨(show 1 + 1 ≤ N + 1 + 24 by omega), (show 8 + (4 + 11) + 22 ≤ 60 * (N + 1) + 700 by omega)⟩) (pre3V g hK ma0_ ka0_ (by decide) (q := (RX14, TX14, 67)) rfl) rfl hl.1 rfl (lv_room (Nat.le_of_ble_eq_true rfl)) dX14_readOne_107 (cl_f hck_0) g hK (by decide) (by decide) (fx' := [(14, 23, a0_, .int x_391), (14, 6, a0_, .int x_2), (14, 8, a0_, .int x_1), (14, 2, a0_, .ref q0_), (14, 16, a0_, .int o_), (14, 25, a0_, .int op_), (14, 10, a0_, .int t_)]) rfl (fun xr_393 fr_393 H locs mxr_393 kxr_393 hp hMr_393 g => ?_) (fun fr_393 H locs hp hMr_393 g => ?_)
          · have hG_394 := isV.frame hMr_393 go_.2.2.2.1 mq0_ kq0_ (by decide) (by decide) hG_386
            have hG_395 := FR.frame hMr_393 go_.2.2.2.1 mq0_ kq0_ (by decide) (by decide) hG_387
            have hG_396 := cEq.frame hMr_393 go_.2.2.2.1 ma0_ ka0_ (by decide) (by decide) hG_388
            subst hQ
            exact leavesX hempty hlocks (fun t ht hW => g_thrZ g hK mxr_393 kxr_393 ⟨hG_395, (by omega)⟩ ht hW) g.2.2.1.2.2
          · obtain ⟨h_397, -⟩ := hp
            have hG_398 := isV.frame hMr_393 go_.2.2.2.1 mq0_ kq0_ (by decide) (by decide) hG_386
            have hG_399 := FR.frame hMr_393 go_.2.2.2.1 mq0_ kq0_ (by decide) (by decide) hG_387
            have hG_400 := cEq.frame hMr_393 go_.2.2.2.1 ma0_ ka0_ (by decide) (by decide) hG_388
            have b_401 : bd 1 1 x_391 := eqX rfl bx_391 h_397 (by decide)
            refine lv_aload_n hx hb dX14_readOne_110 rfl (lv_at hl 1 rfl) ?_
            have hs_402 := sE_1 g 1 rfl (by have h9_0 := bo_; unfold bd at h9_0; have h9_1 := bop_; unfold bd at h9_1; have h9_2 := bt_; unfold bd at h9_2; have h9_3 := bx_1; unfold bd at h9_3; have h9_4 := b_390; unfold bd at h9_4; have h9_5 := h_26; unfold bd at h9_5; have h9_6 := b_401; unfold bd at h9_6; have h8_0 := kb_3; unfold bd at h8_0; omega)
            have go_ := g
            refine g_callEv (As := []) (rest := []) ⟨hx, hb, hml, hown, hts⟩ (r_X14_counts_2 l dC dI L kd tys fr_393 H.size g.2.2.2.1 a0_ ma0_ ka0_ q0_ mq0_ kq0_ V_ hG_398 (g.fcts [3] rfl)) (cwV 0 hts (gV_ t_2476 t_2478 t_116 t_198 t_2479) rfl rfl rfl (by decide +kernel) ⟨(show 2 + 1 ≤ N + 1 + 24 by omega), (show 8 + (1 + 11) + 45 ≤ 60 * (N + 1) + 700 by omega)⟩) (pre3V g hK ma0_ ka0_ (by decide) (q := (RX14, TX14, 67)) rfl) rfl hl.1 rfl (lv_room (Nat.le_of_ble_eq_true rfl)) dX14_readOne_111 (cl_f hck_0) g hK (by decide) (by decide) (fx' := [(14, 23, a0_, .int x_391), (14, 6, a0_, .int x_2), (14, 8, a0_, .int x_1), (14, 2, a0_, .ref q0_), (14, 16, a0_, .int o_), (14, 25, a0_, .int op_), (14, 10, a0_, .int t_)]) rfl (fun xr_403 fr_403 H locs mxr_403 kxr_403 hp hMr_403 g => ?_) (fun fr_403 H locs hp hMr_403 g => ?_)
            · have hG_404 := cEq.frame hMr_403 go_.2.2.2.1 ma0_ ka0_ (by decide) (by decide) hG_400
              have hF_405 := FR.call (mds := []) (mas := []) hG_399 go_ mq0_ kq0_ rfl hp
              subst hQ
              exact leavesX hempty hlocks (fun t ht hW => g_thrZ g hK mxr_403 kxr_403 ⟨hF_405, (by omega)⟩ ht hW) g.2.2.1.2.2
            · obtain ⟨hx_406, hx_407, x_408, h_409, hF_410⟩ := hp
              have hG_411 := cEq.frame hMr_403 go_.2.2.2.1 ma0_ ka0_ (by decide) (by decide) hG_400
              have hF_412 := FR.call (mds := []) (mas := []) hG_399 go_ mq0_ kq0_ rfl hx_407
              have g := g.more hF_410
              refine lv_aload_n hx hb dX14_readOne_114 rfl (lv_at hl 1 rfl) ?_
              refine lv_bipush (v := 19) hx hb dX14_readOne_115 (by decide) ?_
              have hs_413 := sE_1 g 2 rfl (by have h9_0 := bo_; unfold bd at h9_0; have h9_1 := bop_; unfold bd at h9_1; have h9_2 := bt_; unfold bd at h9_2; have h9_3 := bx_1; unfold bd at h9_3; have h9_4 := b_390; unfold bd at h9_4; have h9_5 := h_26; unfold bd at h9_5; have h9_6 := b_401; unfold bd at h9_6; have h9_7 := h_409; unfold bd at h9_7; have h8_0 := kb_3; unfold bd at h8_0; omega)
              have go_ := g
              refine g_callEi (As := [.int 19]) (rest := []) ⟨hx, hb, hml, hown, hts⟩ (r_X14_takes_2 l dC dI L kd tys fr_403 H.size g.2.2.2.1 adK adV a0_ ma0_ ka0_ 19 t_ bt_ (g.fcts [7] rfl)) (cwV 1 hts (gV_ t_2423 t_2425 t_105 t_198 t_2426) rfl rfl rfl (by decide +kernel) ⟨(show 7 + 1 ≤ N + 1 + 24 by omega), (show 8 + (3 + 11) + 155 ≤ 60 * (N + 1) + 700 by omega)⟩) (pre3VA g hK hAm ma0_ ka0_ (by decide) (q := (RX14, TX14, 67)) rfl) rfl hl.1 rfl (lv_room (Nat.le_of_ble_eq_true rfl)) dX14_readOne_117 (cl_f hck_0) g hK (by decide) (by decide) (fx' := [(12, 58, q0_, .int x_408), (14, 23, a0_, .int x_391), (14, 2, a0_, .ref q0_), (14, 16, a0_, .int o_), (14, 25, a0_, .int op_)]) rfl (fun xr_414 fr_414 H locs mxr_414 kxr_414 hp hMr_414 g => ?_) (fun r_414 fr_414 H locs hp hMr_414 g => ?_)
              · have hG_415 := FR.frame hMr_414 go_.2.2.2.1 mq0_ kq0_ (by decide) (by decide) hF_412
                have hG_416 := isV.frame hMr_414 go_.2.2.2.1 mq0_ kq0_ (by decide) (by decide) hx_406
                subst hQ
                exact leavesX hempty hlocks (fun t ht hW => g_thrZ g hK mxr_414 kxr_414 ⟨hG_415, (by omega)⟩ ht hW) g.2.2.1.2.2
              · rcases hp with ⟨hx_417, h_418, hF_419⟩ | ⟨hx_420, h_421, h_422, x_423, h_424, hF_425⟩
                · have hG_426 := FR.frame hMr_414 go_.2.2.2.1 mq0_ kq0_ (by decide) (by decide) hF_412
                  have hG_427 := isV.frame hMr_414 go_.2.2.2.1 mq0_ kq0_ (by decide) (by decide) hx_406
                  obtain rfl : r_414 = 0 := h_418
                  obtain ⟨E_428, hE_428⟩ : ∃ E : Int, cEq fr_414 a0_ E := ⟨_, rfl⟩
                  have mxE_428 : E_428 ≤ 1202 := by have h9 := cF_le g ma0_ ka0_; have h8 : cF _ _ = _ := hE_428; omega
                  have lE_428 : (cF f0 a0_) = E_428 := by have h9 := hx_417; have h8 : cF _ _ = _ := hE_428; have h7 : cF _ _ = _ := hG_411; omega
                  have g := g.more hF_419
                  refine lv_if_eq (tgt := 132) hx hb dX14_readOne_120 (by decide) (fun c_ => ?_) (fun c_ => absurd (by decide) c_)
                  refine lv_aload_n hx hb dX14_readOne_132 rfl (lv_at hl 1 rfl) ?_
                  have go_ := g
                  refine g_callEv (As := []) (rest := []) ⟨hx, hb, hml, hown, hts⟩ (r_X14_next_2 l dC dI L kd tys fr_414 H.size g.2.2.2.1 adK adV a0_ ma0_ ka0_ t_ bt_ (g.fcts [0] rfl)) (cwV 0 hts (gV_ t_2411 t_2413 t_102 t_198 t_2414) rfl rfl rfl (by decide +kernel) ⟨(show 6 + 1 ≤ N + 1 + 24 by omega), (show 8 + (1 + 11) + 135 ≤ 60 * (N + 1) + 700 by omega)⟩) (pre3VA g hK hAm ma0_ ka0_ (by decide) (q := (RX14, TX14, 67)) rfl) rfl hl.1 rfl (lv_room (Nat.le_of_ble_eq_true rfl)) dX14_readOne_133 (cl_f hck_0) g hK (by decide) (by decide) (fx' := [(12, 58, q0_, .int x_408), (14, 23, a0_, .int x_391), (14, 2, a0_, .ref q0_), (14, 16, a0_, .int o_), (14, 25, a0_, .int op_)]) rfl (fun xr_429 fr_429 H locs mxr_429 kxr_429 hp hMr_429 g => ?_) (fun fr_429 H locs hp hMr_429 g => ?_)
                  · have hG_430 := FR.frame hMr_429 go_.2.2.2.1 mq0_ kq0_ (by decide) (by decide) hG_426
                    have hG_431 := isV.frame hMr_429 go_.2.2.2.1 mq0_ kq0_ (by decide) (by decide) hG_427
                    subst hQ
                    exact leavesX hempty hlocks (fun t ht hW => g_thrZ g hK mxr_429 kxr_429 ⟨hG_430, (by omega)⟩ ht hW) g.2.2.1.2.2
                  · obtain ⟨hx_432, h_433, x_434, h_435, hF_436⟩ := hp
                    have hG_437 := FR.frame hMr_429 go_.2.2.2.1 mq0_ kq0_ (by decide) (by decide) hG_426
                    have hG_438 := isV.frame hMr_429 go_.2.2.2.1 mq0_ kq0_ (by decide) (by decide) hG_427
                    obtain ⟨E_439, hE_439⟩ : ∃ E : Int, cEq fr_429 a0_ E := ⟨_, rfl⟩
                    have mxE_439 : E_439 ≤ 1202 := by have h9 := cF_le g ma0_ ka0_; have h8 : cF _ _ = _ := hE_439; omega
                    have lE_439 : E_428 ≤ E_439 := by have h9 := hx_432; have h8 : cF _ _ = _ := hE_439; have h7 : cF _ _ = _ := hE_428; have h6 := sE_bd (f := fr_414) (t := a0_); have h5 := tk_c (f := fr_414) (t := a0_); omega
                    have b_440 : bd 0 1200 t_ := eqX rfl bt_ h_433 (by decide)
                    have g := g.more hF_436
                    refine lv_aload_n hx hb dX14_readOne_136 rfl (lv_at hl 1 rfl) ?_
                    refine lv_bipush (v := 40) hx hb dX14_readOne_137 (by decide) ?_
                    have go_ := g
                    refine g_callEv (As := [.int 40]) (rest := []) ⟨hx, hb, hml, hown, hts⟩ (r_X14_opening_2 l dC dI L kd tys fr_429 H.size g.2.2.2.1 adK adV a0_ ma0_ ka0_ 40 x_434 h_435 op_ bop_ (g.fcts [0, 5] rfl)) (cwV 1 hts (gV_ t_2484 t_2486 t_118 t_198 t_2487) rfl rfl rfl (by decide +kernel) ⟨(show 7 + 1 ≤ N + 1 + 24 by omega), (show 8 + (2 + 11) + 155 ≤ 60 * (N + 1) + 700 by omega)⟩) (pre3VA g hK hAm ma0_ ka0_ (by decide) (q := (RX14, TX14, 67)) rfl) rfl hl.1 rfl (lv_room (Nat.le_of_ble_eq_true rfl)) dX14_readOne_139 (cl_f hck_0) g hK (by decide) (by decide) (fx' := [(12, 58, q0_, .int x_408), (14, 23, a0_, .int x_391), (14, 2, a0_, .ref q0_), (14, 16, a0_, .int o_)]) rfl (fun xr_441 fr_441 H locs mxr_441 kxr_441 hp hMr_441 g => ?_) (fun fr_441 H locs hp hMr_441 g => ?_)
                    · have hG_442 := FR.frame hMr_441 go_.2.2.2.1 mq0_ kq0_ (by decide) (by decide) hG_437
                      have hG_443 := isV.frame hMr_441 go_.2.2.2.1 mq0_ kq0_ (by decide) (by decide) hG_438
                      subst hQ
                      exact leavesX hempty hlocks (fun t ht hW => g_thrZ g hK mxr_441 kxr_441 ⟨hG_442, (by omega)⟩ ht hW) g.2.2.1.2.2
                    · obtain ⟨hx_444, h_445, h_446, x_447, h_448, x_449, ⟨h_450, rh_450⟩, hF_451⟩ := hp
                      have hG_452 := FR.frame hMr_441 go_.2.2.2.1 mq0_ kq0_ (by decide) (by decide) hG_437
                      have hG_453 := isV.frame hMr_441 go_.2.2.2.1 mq0_ kq0_ (by decide) (by decide) hG_438
                      obtain ⟨E_454, hE_454⟩ : ∃ E : Int, cEq fr_441 a0_ E := ⟨_, rfl⟩
                      have mxE_454 : E_454 ≤ 1202 := by have h9 := cF_le g ma0_ ka0_; have h8 : cF _ _ = _ := hE_454; omega
                      have lE_454 : E_439 + 1 ≤ E_454 := by have h9 := hx_444; have h8 : cF _ _ = _ := hE_454; have h7 : cF _ _ = _ := hE_439; omega
                      have b_455 : bd 0 1200 x_434 := eqX rfl h_435 h_445 (by decide)
                      have b_456 : bd 0 39 op_ := eqX rfl bop_ h_446 (by decide)
                      have g := g.more hF_451
                      refine lv_aload_n hx hb dX14_readOne_142 rfl (lv_at hl 1 rfl) ?_
                      refine lv_aload_n hx hb dX14_readOne_143 rfl (lv_at hl 1 rfl) ?_
                      refine g_geti (C := RX14) (T := TX14) (N := 67) hx hb hts (mc_ inX14) hown hK g ma0_ ka0_ (by decide) rfl 6 (by decide) rfl (hts _ (List.mem_cons_of_mem _ t_2152)) (fun _ h9 => h9) rfl dX14_readOne_144 (fun x_457 bx_457 g => ?_)
                      refine lv_iconst (v := 1) hx hb dX14_readOne_147 (by decide) ?_
                      have kb_1 : bd 1 1 (1 : Int32) := ⟨by decide, by decide⟩
                      refine lv_icmp_ne (tgt := 155) hx hb dX14_readOne_148 (by decide) (fun c_458 => ?_) (fun c_458 => ?_)
                      · have fc_458 := neq_f c_458
                        refine lv_iconst (v := 0) hx hb dX14_readOne_155 (by decide) ?_
                        refine lv_iconst (v := 1) hx hb dX14_readOne_156 (by decide) ?_
                        refine lv_aload_n hx hb dX14_readOne_157 rfl (lv_at hl 1 rfl) ?_
                        refine g_geti (C := RX14) (T := TX14) (N := 67) hx hb hts (mc_ inX14) hown hK g ma0_ ka0_ (by decide) rfl 8 (by decide) rfl (hts _ (List.mem_cons_of_mem _ t_2154)) (fun _ h9 => h9) rfl dX14_readOne_158 (fun x_459 bx_459 g => ?_)
                        have kb_0 : bd 0 0 (0 : Int32) := ⟨by decide, by decide⟩
                        have go_ := g
                        refine g_callEv (As := [.int 0, .int 1, .int x_459]) (rest := []) ⟨hx, hb, hml, hown, hts⟩ (r_X14_need_2 l dC dI L kd tys fr_441 H.size g.2.2.2.1 a0_ ma0_ ka0_ 0 kb_0 1 x_459) (cwV 3 hts (gV_ t_2403 t_2405 t_100 t_198 t_2406) rfl rfl rfl (by decide +kernel) ⟨(show 1 + 1 ≤ N + 1 + 24 by omega), (show 8 + (4 + 11) + 22 ≤ 60 * (N + 1) + 700 by omega)⟩) (pre3V g hK ma0_ ka0_ (by decide) (q := (RX14, TX14, 67)) rfl) rfl hl.1 rfl (lv_room (Nat.le_of_ble_eq_true rfl)) dX14_readOne_161 (cl_f hck_0) g hK (by decide) (by decide) (fx' := [(14, 8, a0_, .int x_459), (14, 6, a0_, .int x_457), (14, 10, a0_, .int x_447), (14, 25, a0_, .int x_449), (12, 58, q0_, .int x_408), (14, 23, a0_, .int x_391), (14, 2, a0_, .ref q0_), (14, 16, a0_, .int o_)]) rfl (fun xr_460 fr_460 H locs mxr_460 kxr_460 hp hMr_460 g => ?_) (fun fr_460 H locs hp hMr_460 g => ?_)
                        · have hG_461 := FR.frame hMr_460 go_.2.2.2.1 mq0_ kq0_ (by decide) (by decide) hG_452
                          have hG_462 := isV.frame hMr_460 go_.2.2.2.1 mq0_ kq0_ (by decide) (by decide) hG_453
                          have hG_463 := cEq.frame hMr_460 go_.2.2.2.1 ma0_ ka0_ (by decide) (by decide) hE_454
                          subst hQ
                          exact leavesX hempty hlocks (fun t ht hW => g_thrZ g hK mxr_460 kxr_460 ⟨hG_461, (by omega)⟩ ht hW) g.2.2.1.2.2
                        · exact hp.elim
                      · have fc_458 := eq_f c_458
                        have b_464 : bd 1 1 x_457 := eqX fc_458 bx_457 kb_1 (by decide)
                        refine lv_iconst (v := 1) hx hb dX14_readOne_151 (by decide) ?_
                        refine lv_goto (tgt := 156) hx hb dX14_readOne_152 (by decide) ?_
                        refine lv_iconst (v := 1) hx hb dX14_readOne_156 (by decide) ?_
                        refine lv_aload_n hx hb dX14_readOne_157 rfl (lv_at hl 1 rfl) ?_
                        refine g_geti (C := RX14) (T := TX14) (N := 67) hx hb hts (mc_ inX14) hown hK g ma0_ ka0_ (by decide) rfl 8 (by decide) rfl (hts _ (List.mem_cons_of_mem _ t_2154)) (fun _ h9 => h9) rfl dX14_readOne_158 (fun x_465 bx_465 g => ?_)
                        have hs_466 := sE_1 g 1 rfl (by have h9_0 := bo_; unfold bd at h9_0; have h9_1 := b_456; unfold bd at h9_1; have h9_2 := b_440; unfold bd at h9_2; have h9_3 := bx_1; unfold bd at h9_3; have h9_4 := b_390; unfold bd at h9_4; have h9_5 := h_26; unfold bd at h9_5; have h9_6 := b_401; unfold bd at h9_6; have h9_7 := h_409; unfold bd at h9_7; have h9_8 := b_455; unfold bd at h9_8; have h9_9 := h_448; unfold bd at h9_9; have h9_10 := h_450; unfold bd at h9_10; have h9_11 := b_464; unfold bd at h9_11; have h9_12 := bx_465; unfold bd at h9_12; have h8_0 := kb_1; unfold bd at h8_0; have h8_1 := kb_3; unfold bd at h8_1; omega)
                        have go_ := g
                        refine g_callEv (As := [.int 1, .int 1, .int x_465]) (rest := []) ⟨hx, hb, hml, hown, hts⟩ (r_X14_need_3 l dC dI L kd tys fr_441 H.size g.2.2.2.1 a0_ ma0_ ka0_ 1 kb_1 1 x_465) (cwV 3 hts (gV_ t_2403 t_2405 t_100 t_198 t_2406) rfl rfl rfl (by decide +kernel) ⟨(show 0 + 1 ≤ N + 1 + 24 by omega), (show 8 + (4 + 11) + 0 ≤ 60 * (N + 1) + 700 by omega)⟩) (pre3V g hK ma0_ ka0_ (by decide) (q := (RX14, TX14, 67)) rfl) rfl hl.1 rfl (lv_room (Nat.le_of_ble_eq_true rfl)) dX14_readOne_161 (cl_f hck_0) g hK (by decide) (by decide) (fx' := [(14, 8, a0_, .int x_465), (14, 6, a0_, .int x_457), (14, 10, a0_, .int x_447), (14, 25, a0_, .int x_449), (12, 58, q0_, .int x_408), (14, 23, a0_, .int x_391), (14, 2, a0_, .ref q0_), (14, 16, a0_, .int o_)]) rfl (fun xr_467 fr_467 H locs mxr_467 kxr_467 hp hMr_467 g => ?_) (fun fr_467 H locs hp hMr_467 g => ?_)
                        · have hG_468 := FR.frame hMr_467 go_.2.2.2.1 mq0_ kq0_ (by decide) (by decide) hG_452
                          have hG_469 := isV.frame hMr_467 go_.2.2.2.1 mq0_ kq0_ (by decide) (by decide) hG_453
                          have hG_470 := cEq.frame hMr_467 go_.2.2.2.1 ma0_ ka0_ (by decide) (by decide) hE_454
                          exact hp.elim
                        · have hG_471 := FR.frame hMr_467 go_.2.2.2.1 mq0_ kq0_ (by decide) (by decide) hG_452
                          have hG_472 := isV.frame hMr_467 go_.2.2.2.1 mq0_ kq0_ (by decide) (by decide) hG_453
                          have hG_473 := cEq.frame hMr_467 go_.2.2.2.1 ma0_ ka0_ (by decide) (by decide) hE_454
                          refine lv_aload_n hx hb dX14_readOne_164 rfl (lv_at hl 1 rfl) ?_
                          refine lv_iconst (v := 1) hx hb dX14_readOne_165 (by decide) ?_
                          refine lv_iconst (v := 1) hx hb dX14_readOne_166 (by decide) ?_
                          have qc__474 : cF fr_467 a0_ = _ := hG_473
                          have hs_475 := sE_1 g 1 rfl (by have h9_0 := bo_; unfold bd at h9_0; have h9_1 := b_456; unfold bd at h9_1; have h9_2 := b_440; unfold bd at h9_2; have h9_3 := bx_1; unfold bd at h9_3; have h9_4 := b_390; unfold bd at h9_4; have h9_5 := h_26; unfold bd at h9_5; have h9_6 := b_401; unfold bd at h9_6; have h9_7 := h_409; unfold bd at h9_7; have h9_8 := b_455; unfold bd at h9_8; have h9_9 := h_448; unfold bd at h9_9; have h9_10 := h_450; unfold bd at h9_10; have h9_11 := b_464; unfold bd at h9_11; have h9_12 := bx_465; unfold bd at h9_12; have h8_0 := kb_1; unfold bd at h8_0; have h8_1 := kb_3; unfold bd at h8_1; omega)
                          have go_ := g
                          refine g_callZi (As := [.int 1, .int 1]) (rest := []) ⟨hx, hb, hml, hown, hts⟩ (ih.2.2.2.2.1 l dC dI L kd tys fr_467 H.size g.2.2.2.1 adK adV a0_ ma0_ ka0_ (1 : Int32) (bd_sub kb_1 (by decide)) (1 : Int32) (bd_sub kb_1 (by decide)) q0_ mq0_ kq0_ V_ o_ bo_ x_449 (bd_sub h_450 (by decide)) x_447 h_448 x_457 (bd_sub b_464 (by decide)) hG_472 hwf ho (by omega) 12 ⟨(by decide), (by decide), (fun h9 => absurd h9 (by decide))⟩ (K_ - cl_0) (by omega) (by have h9_0 := bo_; unfold bd at h9_0; have h9_1 := b_456; unfold bd at h9_1; have h9_2 := b_440; unfold bd at h9_2; have h9_3 := bx_1; unfold bd at h9_3; have h9_4 := b_390; unfold bd at h9_4; have h9_5 := h_26; unfold bd at h9_5; have h9_6 := b_401; unfold bd at h9_6; have h9_7 := h_409; unfold bd at h9_7; have h9_8 := b_455; unfold bd at h9_8; have h9_9 := h_448; unfold bd at h9_9; have h9_10 := h_450; unfold bd at h9_10; have h9_11 := b_464; unfold bd at h9_11; have h9_12 := bx_465; unfold bd at h9_12; have h8_0 := kb_1; unfold bd at h8_0; have h8_1 := kb_3; unfold bd at h8_1; omega) (g.fcts [6, 7, 3, 2, 1] rfl)) (cwV 2 hts (gV_ t_2496 t_2498 t_121 t_198 t_2499) rfl rfl rfl (by decide +kernel) ⟨(show N + 24 + 1 ≤ N + 1 + 24 by omega), (show 8 + (11 + 11) + (60 * N + 700) ≤ 60 * (N + 1) + 700 by omega)⟩) (pre3VA g hK hAm ma0_ ka0_ (by decide) (q := (RX14, TX14, 67)) rfl) rfl hl.1 rfl (lv_room (Nat.le_of_ble_eq_true rfl)) dX14_readOne_167 (cl_k (K := K_) (k := K_ - cl_0) (show cl_0 + (K_ - cl_0) ≤ K_ by omega)) g hK (by decide) (by decide) (fx' := [(14, 23, a0_, .int x_391), (14, 2, a0_, .ref q0_), (14, 16, a0_, .int o_)]) rfl (fun xr_476 fr_476 H locs kr_476 cr_476 ecr_476 mxr_476 kxr_476 hp hMr_476 g => ?_) (fun r_476 fr_476 H locs kr_476 cr_476 ecr_476 hp hMr_476 g => ?_)
                          · have hF_477 := FR.call (mds := []) (mas := []) hG_471 go_ mq0_ kq0_ rfl hp.1
                            have hpk := hp.2
                            subst hQ
                            exact leavesX hempty hlocks (fun t ht hW => g_thrZ g hK mxr_476 kxr_476 ⟨hF_477, (by omega)⟩ ht hW) g.2.2.1.2.2
                          · obtain ⟨hx_478, x_479, h_480, hF_481⟩ := hp
                            obtain ⟨V_482, E_483, hV_484, hF_485, hE_486, hX_487, hw_488, hv_489, hP_490, hn_491, hk_492, hc_493⟩ := rd_use hx_478 hG_473
                            have hF_494 := FR.call (mds := []) (mas := []) hG_471 go_ mq0_ kq0_ rfl hF_485
                            have mxE_483 : E_483 ≤ 1202 := by have h9 := cF_le g ma0_ ka0_; have h8 : cF _ _ = _ := hE_486; omega
                            have hx_495 := exN.tr exN.rf hX_487
                            have hck_496 : cr_476 ≤ K_ := by omega
                            have b_497 : bd 0 2499 r_476 := ⟨hv_489.1, (by have h9 := hv_489.2.1; omega)⟩
                            have g := g.more hF_481
                            refine lv_istore_n (lv' := [(2, .int r_476), (1, .int x_1), (0, .ref a0_)]) hx hb dX14_readOne_170 rfl hl (by decide) rfl (fun ls hl => ?_)
                            refine lv_aload_n hx hb dX14_readOne_171 rfl (lv_at hl 2 rfl) ?_
                            refine lv_bipush (v := 41) hx hb dX14_readOne_172 (by decide) ?_
                            have go_ := g
                            refine g_callEv (As := [.int 41]) (rest := []) ⟨hx, hb, hml, hown, hts⟩ (r_X14_closing l dC dI L kd tys fr_476 H.size g.2.2.2.1 adK adV a0_ ma0_ ka0_ 41 x_479 h_480 x_449 h_450 (g.fcts [1, 0] rfl)) (cwV 1 hts (gV_ t_2492 t_2494 t_120 t_198 t_2495) rfl rfl rfl (by decide +kernel) ⟨(show 8 + 1 ≤ N + 1 + 24 by omega), (show 8 + (2 + 11) + 176 ≤ 60 * (N + 1) + 700 by omega)⟩) (pre3VA g hK hAm ma0_ ka0_ (by decide) (q := (RX14, TX14, 67)) rfl) rfl hl.1 rfl (lv_room (Nat.le_of_ble_eq_true rfl)) dX14_readOne_174 (cl_f hck_496) g hK (by decide) (by decide) (fx' := [(14, 23, a0_, .int x_391), (14, 2, a0_, .ref q0_), (14, 16, a0_, .int o_)]) rfl (fun xr_498 fr_498 H locs mxr_498 kxr_498 hp hMr_498 g => ?_) (fun fr_498 H locs hp hMr_498 g => ?_)
                            · have hG_499 := isV.frame hMr_498 go_.2.2.2.1 mq0_ kq0_ (by decide) (by decide) hV_484
                              have hG_500 := FR.frame hMr_498 go_.2.2.2.1 mq0_ kq0_ (by decide) (by decide) hF_494
                              subst hQ
                              exact leavesX hempty hlocks (fun t ht hW => g_thrZ g hK mxr_498 kxr_498 ⟨hG_500, (by omega)⟩ ht hW) g.2.2.1.2.2
                            · obtain ⟨hx_501, h_502, x_503, h_504, x_505, ⟨h_506, rh_506⟩, hF_507⟩ := hp
                              have hG_508 := isV.frame hMr_498 go_.2.2.2.1 mq0_ kq0_ (by decide) (by decide) hV_484
                              have hG_509 := FR.frame hMr_498 go_.2.2.2.1 mq0_ kq0_ (by decide) (by decide) hF_494
                              obtain ⟨E_510, hE_510⟩ : ∃ E : Int, cEq fr_498 a0_ E := ⟨_, rfl⟩
                              have mxE_510 : E_510 ≤ 1202 := by have h9 := cF_le g ma0_ ka0_; have h8 : cF _ _ = _ := hE_510; omega
                              have lE_510 : E_483 + 1 ≤ E_510 := by have h9 := hx_501; have h8 : cF _ _ = _ := hE_510; have h7 : cF _ _ = _ := hE_486; omega
                              have b_511 : bd 0 1200 x_479 := eqX rfl h_480 h_502 (by decide)
                              have g := g.more hF_507
                              refine lv_aload_n hx hb dX14_readOne_177 rfl (lv_at hl 2 rfl) ?_
                              refine lv_aload_n hx hb dX14_readOne_178 rfl (lv_at hl 2 rfl) ?_
                              refine g_getk (C := RX14) (T := TX14) (N := 67) hx hb hts (mc_ inX14) hown hK g rfl 2 (by decide) rfl (hts _ (List.mem_cons_of_mem _ t_2148)) (fun _ h9 => h9) 3 rfl dX14_readOne_179 ?_
                              refine g_getr (K := 205) (C := RX12) (T := TX12) (N := 60) hx hb hts (mc_ inX12) hown hK g mq0_ kq0_ (by decide) rfl 51 (by decide) rfl (hts _ (List.mem_cons_of_mem _ t_2006)) (fun _ h9 => h9) rfl dX14_readOne_182 (fun a_512 ma_512 ka_512 g => ?_)
                              refine lv_iload_n hx hb dX14_readOne_185 rfl (lv_at hl 0 rfl) ?_
                              refine g_iald hx hb hK g ma_512 ka_512 (by decide) rfl (in_bd b_497 (by decide)) dX14_readOne_186 (fun x_513 bx_513 cx_513 => ?_)
                              have vx_513 : x_513 = V_482.i 51 r_476.toNatClampNeg := hG_508.at g 0 rfl rfl cx_513
                              have b_514 : bd 1 12 x_513 := ev_hb hw_488 hv_489 vx_513
                              refine lv_bipush (v := 12) hx hb dX14_readOne_187 (by decide) ?_
                              have kb_12 : bd 12 12 (12 : Int32) := ⟨by decide, by decide⟩
                              refine lv_icmp_ge (tgt := 196) hx hb dX14_readOne_189 (by decide) (fun c_515 => ?_) (fun c_515 => ?_)
                              · have fc_515 := le_f c_515
                                have b_516 : bd 12 12 x_513 := leR fc_515 kb_12 b_514 (by decide)
                                refine lv_iconst (v := 0) hx hb dX14_readOne_196 (by decide) ?_
                                refine lv_bipush (v := 7) hx hb dX14_readOne_197 (by decide) ?_
                                refine lv_iload_n hx hb dX14_readOne_199 rfl (lv_at hl 1 rfl) ?_
                                have kb_0 : bd 0 0 (0 : Int32) := ⟨by decide, by decide⟩
                                have go_ := g
                                refine g_callEv (As := [.int 0, .int 7, .int x_1]) (rest := []) ⟨hx, hb, hml, hown, hts⟩ (r_X14_need_2 l dC dI L kd tys fr_498 H.size g.2.2.2.1 a0_ ma0_ ka0_ 0 kb_0 7 x_1) (cwV 3 hts (gV_ t_2403 t_2405 t_100 t_198 t_2406) rfl rfl rfl (by decide +kernel) ⟨(show 1 + 1 ≤ N + 1 + 24 by omega), (show 8 + (4 + 11) + 22 ≤ 60 * (N + 1) + 700 by omega)⟩) (pre3V g hK ma0_ ka0_ (by decide) (q := (RX14, TX14, 67)) rfl) rfl hl.1 rfl (lv_room (Nat.le_of_ble_eq_true rfl)) dX14_readOne_200 (cl_f hck_496) g hK (by decide) (by decide) (fx' := [(12, 51, q0_, .ref a_512), (14, 10, a0_, .int x_503), (14, 25, a0_, .int x_505), (14, 23, a0_, .int x_391), (14, 2, a0_, .ref q0_), (14, 16, a0_, .int o_)]) rfl (fun xr_517 fr_517 H locs mxr_517 kxr_517 hp hMr_517 g => ?_) (fun fr_517 H locs hp hMr_517 g => ?_)
                                · have hG_518 := isV.frame hMr_517 go_.2.2.2.1 mq0_ kq0_ (by decide) (by decide) hG_508
                                  have hG_519 := FR.frame hMr_517 go_.2.2.2.1 mq0_ kq0_ (by decide) (by decide) hG_509
                                  have hG_520 := cEq.frame hMr_517 go_.2.2.2.1 ma0_ ka0_ (by decide) (by decide) hE_510
                                  subst hQ
                                  exact leavesX hempty hlocks (fun t ht hW => g_thrZ g hK mxr_517 kxr_517 ⟨hG_519, (by omega)⟩ ht hW) g.2.2.1.2.2
                                · exact hp.elim
                              · have fc_515 := nle_f c_515
                                have b_521 : bd 1 11 x_513 := ltL fc_515 b_514 kb_12 (by decide)
                                refine lv_iconst (v := 1) hx hb dX14_readOne_192 (by decide) ?_
                                refine lv_goto (tgt := 197) hx hb dX14_readOne_193 (by decide) ?_
                                refine lv_bipush (v := 7) hx hb dX14_readOne_197 (by decide) ?_
                                refine lv_iload_n hx hb dX14_readOne_199 rfl (lv_at hl 1 rfl) ?_
                                have go_ := g
                                refine g_callEv (As := [.int 1, .int 7, .int x_1]) (rest := []) ⟨hx, hb, hml, hown, hts⟩ (r_X14_need_3 l dC dI L kd tys fr_498 H.size g.2.2.2.1 a0_ ma0_ ka0_ 1 kb_1 7 x_1) (cwV 3 hts (gV_ t_2403 t_2405 t_100 t_198 t_2406) rfl rfl rfl (by decide +kernel) ⟨(show 0 + 1 ≤ N + 1 + 24 by omega), (show 8 + (4 + 11) + 0 ≤ 60 * (N + 1) + 700 by omega)⟩) (pre3V g hK ma0_ ka0_ (by decide) (q := (RX14, TX14, 67)) rfl) rfl hl.1 rfl (lv_room (Nat.le_of_ble_eq_true rfl)) dX14_readOne_200 (cl_f hck_496) g hK (by decide) (by decide) (fx' := [(12, 51, q0_, .ref a_512), (14, 10, a0_, .int x_503), (14, 25, a0_, .int x_505), (14, 23, a0_, .int x_391), (14, 2, a0_, .ref q0_), (14, 16, a0_, .int o_)]) rfl (fun xr_522 fr_522 H locs mxr_522 kxr_522 hp hMr_522 g => ?_) (fun fr_522 H locs hp hMr_522 g => ?_)
                                · have hG_523 := isV.frame hMr_522 go_.2.2.2.1 mq0_ kq0_ (by decide) (by decide) hG_508
                                  have hG_524 := FR.frame hMr_522 go_.2.2.2.1 mq0_ kq0_ (by decide) (by decide) hG_509
                                  have hG_525 := cEq.frame hMr_522 go_.2.2.2.1 ma0_ ka0_ (by decide) (by decide) hE_510
                                  exact hp.elim
                                · have hG_526 := isV.frame hMr_522 go_.2.2.2.1 mq0_ kq0_ (by decide) (by decide) hG_508
                                  have hG_527 := FR.frame hMr_522 go_.2.2.2.1 mq0_ kq0_ (by decide) (by decide) hG_509
                                  have hG_528 := cEq.frame hMr_522 go_.2.2.2.1 ma0_ ka0_ (by decide) (by decide) hE_510
                                  refine lv_aload_n hx hb dX14_readOne_203 rfl (lv_at hl 2 rfl) ?_
                                  refine lv_iconst (v := 4) hx hb dX14_readOne_204 (by decide) ?_
                                  refine lv_iload_n hx hb dX14_readOne_205 rfl (lv_at hl 0 rfl) ?_
                                  refine lv_iconst (v := (-1)) hx hb dX14_readOne_206 (by decide) ?_
                                  refine lv_iconst (v := 1) hx hb dX14_readOne_207 (by decide) ?_
                                  refine lv_aload_n hx hb dX14_readOne_208 rfl (lv_at hl 2 rfl) ?_
                                  refine g_getk (C := RX14) (T := TX14) (N := 67) hx hb hts (mc_ inX14) hown hK g rfl 2 (by decide) rfl (hts _ (List.mem_cons_of_mem _ t_2148)) (fun _ h9 => h9) 4 rfl dX14_readOne_209 ?_
                                  refine g_getk (C := RX12) (T := TX12) (N := 60) hx hb hts (mc_ inX12) hown hK g rfl 51 (by decide) rfl (hts _ (List.mem_cons_of_mem _ t_2006)) (fun _ h9 => h9) 0 rfl dX14_readOne_212 ?_
                                  refine lv_iload_n hx hb dX14_readOne_215 rfl (lv_at hl 0 rfl) ?_
                                  refine g_iald hx hb hK g ma_512 ka_512 (by decide) rfl (in_bd b_497 (by decide)) dX14_readOne_216 (fun x_529 bx_529 cx_529 => ?_)
                                  obtain rfl : x_513 = x_529 := el_same cx_513 cx_529 (arr_eq hMr_522 ma_512 ka_512 (by decide) rfl)
                                  refine lv_iadd hx hb dX14_readOne_217 ?_
                                  refine lv_topi (fun y_530 ey_530 => ?_)
                                  have ty_530 := add_bd ey_530 kb_1 b_521 (by decide)
                                  have b_531 : bd 2 12 y_530 := add_rg ty_530 kb_1 b_521 (by decide)
                                  have hnb : (V_482.n 57).toInt ≤ 2499 := by omega
                                  have go_ := g
                                  refine g_calli (va_runV (As := [.int 4, .int r_476, .int (-1), .int y_530]) (rest := []) ⟨hx, hb, hml, hown, hts⟩ (r_X14_node l dC dI L kd tys fr_522 H.size g.2.2.2.1 a0_ ma0_ ka0_ 4 r_476 (-1) y_530 q0_ mq0_ kq0_ o_ bo_ V_482 hG_526 hnb (g.fcts [4, 5] rfl)) (cwV 4 hts (gV_ t_2480 t_2482 t_117 t_198 t_2483) rfl rfl rfl (by decide +kernel) ⟨(show 0 + 1 ≤ N + 1 + 24 by omega), (show 8 + (6 + 11) + 0 ≤ 60 * (N + 1) + 700 by omega)⟩) (pre3V g hK ma0_ ka0_ (by decide) (q := (RX14, TX14, 67)) rfl) rfl rfl hl.1 rfl (lv_room (Nat.le_of_ble_eq_true rfl)) dX14_readOne_218 (cl_f hck_496)) g hK (by decide) (by decide) (fx' := [(12, 51, q0_, .ref a_512), (14, 10, a0_, .int x_503), (14, 25, a0_, .int x_505), (14, 23, a0_, .int x_391), (14, 2, a0_, .ref q0_), (14, 16, a0_, .int o_)]) rfl (fun r_532 fr_532 H locs hp hMr_532 g => ?_)
                                  obtain ⟨hx_533, hx_534, h_535, x_536, h_537, hF_538⟩ := hp
                                  have hG_539 := cEq.frame hMr_532 go_.2.2.2.1 ma0_ ka0_ (by decide) (by decide) hG_528
                                  have hF_540 := FR.call (mds := []) (mas := []) hG_527 go_ mq0_ kq0_ rfl hx_534
                                  obtain ⟨V_541, hV_542, hN_543⟩ := hx_533
                                  have g := g.more hF_538
                                  have hf_544 : fin V_482 V_541 r_532 12 o_ := nd_old hN_543 h_535.1 hw_488 ⟨(by have h9_0 := bo_; unfold bd at h9_0; have h9_1 := b_456; unfold bd at h9_1; have h9_2 := b_497; unfold bd at h9_2; have h9_3 := h_535; unfold bd at h9_3; have h9_4 := b_440; unfold bd at h9_4; have h9_5 := bx_1; unfold bd at h9_5; have h9_6 := b_390; unfold bd at h9_6; have h9_7 := h_26; unfold bd at h9_7; have h9_8 := b_401; unfold bd at h9_8; have h9_9 := h_409; unfold bd at h9_9; have h9_10 := b_455; unfold bd at h9_10; have h9_11 := h_448; unfold bd at h9_11; have h9_12 := h_450; unfold bd at h9_12; have h9_13 := b_464; unfold bd at h9_13; have h9_14 := bx_465; unfold bd at h9_14; have h9_15 := b_511; unfold bd at h9_15; have h9_16 := h_504; unfold bd at h9_16; have h9_17 := h_506; unfold bd at h9_17; have h9_18 := b_521; unfold bd at h9_18; have h9_19 := h_537; unfold bd at h9_19; have h9_20 := b_531; unfold bd at h9_20; have h8_0 := kb_1; unfold bd at h8_0; have h8_1 := kb_12; unfold bd at h8_1; have h8_2 := kb_3; unfold bd at h8_2; omega), (by have h9_0 := bo_; unfold bd at h9_0; have h9_1 := b_456; unfold bd at h9_1; have h9_2 := b_497; unfold bd at h9_2; have h9_3 := h_535; unfold bd at h9_3; have h9_4 := b_440; unfold bd at h9_4; have h9_5 := bx_1; unfold bd at h9_5; have h9_6 := b_390; unfold bd at h9_6; have h9_7 := h_26; unfold bd at h9_7; have h9_8 := b_401; unfold bd at h9_8; have h9_9 := h_409; unfold bd at h9_9; have h9_10 := b_455; unfold bd at h9_10; have h9_11 := h_448; unfold bd at h9_11; have h9_12 := h_450; unfold bd at h9_12; have h9_13 := b_464; unfold bd at h9_13; have h9_14 := bx_465; unfold bd at h9_14; have h9_15 := b_511; unfold bd at h9_15; have h9_16 := h_504; unfold bd at h9_16; have h9_17 := h_506; unfold bd at h9_17; have h9_18 := b_521; unfold bd at h9_18; have h9_19 := h_537; unfold bd at h9_19; have h9_20 := b_531; unfold bd at h9_20; have h8_0 := kb_1; unfold bd at h8_0; have h8_1 := kb_12; unfold bd at h8_1; have h8_2 := kb_3; unfold bd at h8_2; omega)⟩ (by have h9_0 := bo_; unfold bd at h9_0; have h9_1 := b_456; unfold bd at h9_1; have h9_2 := b_497; unfold bd at h9_2; have h9_3 := h_535; unfold bd at h9_3; have h9_4 := b_440; unfold bd at h9_4; have h9_5 := bx_1; unfold bd at h9_5; have h9_6 := b_390; unfold bd at h9_6; have h9_7 := h_26; unfold bd at h9_7; have h9_8 := b_401; unfold bd at h9_8; have h9_9 := h_409; unfold bd at h9_9; have h9_10 := b_455; unfold bd at h9_10; have h9_11 := h_448; unfold bd at h9_11; have h9_12 := h_450; unfold bd at h9_12; have h9_13 := b_464; unfold bd at h9_13; have h9_14 := bx_465; unfold bd at h9_14; have h9_15 := b_511; unfold bd at h9_15; have h9_16 := h_504; unfold bd at h9_16; have h9_17 := h_506; unfold bd at h9_17; have h9_18 := b_521; unfold bd at h9_18; have h9_19 := h_537; unfold bd at h9_19; have h9_20 := b_531; unfold bd at h9_20; have h8_0 := kb_1; unfold bd at h8_0; have h8_1 := kb_12; unfold bd at h8_1; have h8_2 := kb_3; unfold bd at h8_2; omega) (by rw [hx_495.2.2.1 0 (by decide)]; exact ho) (by decide) (EV.at_ hv_489 vx_513) (by have h9_0 := bo_; unfold bd at h9_0; have h9_1 := b_456; unfold bd at h9_1; have h9_2 := b_497; unfold bd at h9_2; have h9_3 := h_535; unfold bd at h9_3; have h9_4 := b_440; unfold bd at h9_4; have h9_5 := bx_1; unfold bd at h9_5; have h9_6 := b_390; unfold bd at h9_6; have h9_7 := h_26; unfold bd at h9_7; have h9_8 := b_401; unfold bd at h9_8; have h9_9 := h_409; unfold bd at h9_9; have h9_10 := b_455; unfold bd at h9_10; have h9_11 := h_448; unfold bd at h9_11; have h9_12 := h_450; unfold bd at h9_12; have h9_13 := b_464; unfold bd at h9_13; have h9_14 := bx_465; unfold bd at h9_14; have h9_15 := b_511; unfold bd at h9_15; have h9_16 := h_504; unfold bd at h9_16; have h9_17 := h_506; unfold bd at h9_17; have h9_18 := b_521; unfold bd at h9_18; have h9_19 := h_537; unfold bd at h9_19; have h9_20 := b_531; unfold bd at h9_20; have h8_0 := kb_1; unfold bd at h8_0; have h8_1 := kb_12; unfold bd at h8_1; have h8_2 := kb_3; unfold bd at h8_2; omega) (hP_490.2 (by decide))
                                  have ho_548 : (V_541.i 47 r_532.toNatClampNeg).toInt = 4 := (congrArg Int32.toInt (hN_543).2.2.2.1).trans (by decide)
                                  obtain ⟨V_545, hV_546, hf_547, ho_548⟩ : ∃ V1 : PV, isV fr_532 q0_ V1 ∧ fin V_482 V1 r_532 12 o_ ∧ (V1.i 47 r_532.toNatClampNeg).toInt = 4 := ⟨_, hV_542, hf_544, ho_548⟩
                                  have hf_547n := hf_547.2.2.2
                                  have hx_549 := exN.tr hx_495 hf_547.1
                                  have he_550 := exN.ev hf_547.1 hv_489
                                  obtain rfl : op_ = x_505 := Int32.toInt_inj.mp (by have h9_0 := bo_; unfold bd at h9_0; have h9_1 := b_456; unfold bd at h9_1; have h9_2 := b_497; unfold bd at h9_2; have h9_3 := h_535; unfold bd at h9_3; have h9_4 := b_440; unfold bd at h9_4; have h9_5 := bx_1; unfold bd at h9_5; have h9_6 := b_390; unfold bd at h9_6; have h9_7 := h_26; unfold bd at h9_7; have h9_8 := b_401; unfold bd at h9_8; have h9_9 := h_409; unfold bd at h9_9; have h9_10 := b_455; unfold bd at h9_10; have h9_11 := h_448; unfold bd at h9_11; have h9_12 := h_450; unfold bd at h9_12; have h9_13 := b_464; unfold bd at h9_13; have h9_14 := bx_465; unfold bd at h9_14; have h9_15 := b_511; unfold bd at h9_15; have h9_16 := h_504; unfold bd at h9_16; have h9_17 := h_506; unfold bd at h9_17; have h9_18 := b_521; unfold bd at h9_18; have h9_19 := h_537; unfold bd at h9_19; have h9_20 := b_531; unfold bd at h9_20; have h8_0 := kb_1; unfold bd at h8_0; have h8_1 := kb_12; unfold bd at h8_1; have h8_2 := kb_3; unfold bd at h8_2; omega)
                                  have h9c : cF fr_532 a0_ = _ := hG_539
                                  subst hQ
                                  exact iretX (v := r_532) hx hb hr (fun t ht hW => g_retZ g hK ⟨_, rfl, ⟨⟨_, hV_546, hF_540, hx_549, hf_547.2.1, hf_547.2.2.1, trivial, (by omega), (by omega), (by omega)⟩, x_503, h_504, (g.fcts [3, 2] rfl)⟩⟩ ht hW) g.2.2.1.2.2 dX14_readOne_221 hlocks
                · have hG_551 := FR.frame hMr_414 go_.2.2.2.1 mq0_ kq0_ (by decide) (by decide) hF_412
                  have hG_552 := isV.frame hMr_414 go_.2.2.2.1 mq0_ kq0_ (by decide) (by decide) hx_406
                  obtain rfl : r_414 = 1 := h_421
                  obtain ⟨E_553, hE_553⟩ : ∃ E : Int, cEq fr_414 a0_ E := ⟨_, rfl⟩
                  have mxE_553 : E_553 ≤ 1202 := by have h9 := cF_le g ma0_ ka0_; have h8 : cF _ _ = _ := hE_553; omega
                  have lE_553 : (cF f0 a0_) + 1 ≤ E_553 := by have h9 := hx_420; have h8 : cF _ _ = _ := hE_553; have h7 : cF _ _ = _ := hG_411; omega
                  have b_554 : bd 0 1200 t_ := eqX rfl bt_ h_422 (by decide)
                  have g := g.more hF_425
                  refine lv_if_eq (tgt := 132) hx hb dX14_readOne_120 (by decide) (fun c_ => absurd c_ (by decide)) (fun c_ => ?_)
                  refine lv_aload_n hx hb dX14_readOne_123 rfl (lv_at hl 1 rfl) ?_
                  refine lv_iconst (v := 5) hx hb dX14_readOne_124 (by decide) ?_
                  refine lv_iconst (v := (-1)) hx hb dX14_readOne_125 (by decide) ?_
                  refine lv_iconst (v := (-1)) hx hb dX14_readOne_126 (by decide) ?_
                  refine lv_iconst (v := 1) hx hb dX14_readOne_127 (by decide) ?_
                  have hnb : (V_.n 57).toInt ≤ 2499 := by omega
                  have go_ := g
                  refine g_calli (va_runV (As := [.int 5, .int (-1), .int (-1), .int 1]) (rest := []) ⟨hx, hb, hml, hown, hts⟩ (r_X14_node l dC dI L kd tys fr_414 H.size g.2.2.2.1 a0_ ma0_ ka0_ 5 (-1) (-1) 1 q0_ mq0_ kq0_ o_ bo_ V_ hG_552 hnb (g.fcts [3, 4] rfl)) (cwV 4 hts (gV_ t_2480 t_2482 t_117 t_198 t_2483) rfl rfl rfl (by decide +kernel) ⟨(show 0 + 1 ≤ N + 1 + 24 by omega), (show 8 + (6 + 11) + 0 ≤ 60 * (N + 1) + 700 by omega)⟩) (pre3V g hK ma0_ ka0_ (by decide) (q := (RX14, TX14, 67)) rfl) rfl rfl hl.1 rfl (lv_room (Nat.le_of_ble_eq_true rfl)) dX14_readOne_128 (cl_f hck_0)) g hK (by decide) (by decide) (fx' := [(14, 10, a0_, .int x_423), (12, 58, q0_, .int x_408), (14, 23, a0_, .int x_391), (14, 2, a0_, .ref q0_), (14, 16, a0_, .int o_), (14, 25, a0_, .int op_)]) rfl (fun r_555 fr_555 H locs hp hMr_555 g => ?_)
                  obtain ⟨hx_556, hx_557, h_558, x_559, h_560, hF_561⟩ := hp
                  have hG_562 := cEq.frame hMr_555 go_.2.2.2.1 ma0_ ka0_ (by decide) (by decide) hE_553
                  have hF_563 := FR.call (mds := []) (mas := []) hG_551 go_ mq0_ kq0_ rfl hx_557
                  obtain ⟨V_564, hV_565, hN_566⟩ := hx_556
                  have g := g.more hF_561
                  have hf_567 : fin V_ V_564 r_555 12 o_ := nd_leaf hN_566 h_558.1 hwf (by decide) (by decide) ho (by decide)
                  have ho_571 : (V_564.i 47 r_555.toNatClampNeg).toInt = 5 := (congrArg Int32.toInt (hN_566).2.2.2.1).trans (by decide)
                  obtain ⟨V_568, hV_569, hf_570, ho_571⟩ : ∃ V1 : PV, isV fr_555 q0_ V1 ∧ fin V_ V1 r_555 12 o_ ∧ (V1.i 47 r_555.toNatClampNeg).toInt = 5 := ⟨_, hV_565, hf_567, ho_571⟩
                  have hf_570n := hf_570.2.2.2
                  have hx_572 := exN.tr exN.rf hf_570.1
                  have h9c : cF fr_555 a0_ = _ := hG_562
                  subst hQ
                  exact iretX (v := r_555) hx hb hr (fun t ht hW => g_retZ g hK ⟨_, rfl, ⟨⟨_, hV_569, hF_563, hx_572, hf_570.2.1, hf_570.2.2.1, trivial, (by omega), (by omega), (by omega)⟩, x_423, h_424, (g.fcts [6, 1] rfl)⟩⟩ ht hW) g.2.2.1.2.2 dX14_readOne_131 hlocks
      · have hG_573 := isV.frame hMr_13 go_.2.2.2.1 mq0_ kq0_ (by decide) (by decide) hG_10
        have hG_574 := FR.frame hMr_13 go_.2.2.2.1 mq0_ kq0_ (by decide) (by decide) hG_11
        have hG_575 := cEq.frame hMr_13 go_.2.2.2.1 ma0_ ka0_ (by decide) (by decide) hG_12
        obtain rfl : r_13 = 1 := h_15
        have g := g.more hF_18
        have e_576 := fx_same g 1 0 rfl rfl
        have b_577 : bd 2 2 x_2 := eqX (eq_f e_576.symm) bx_2 h_17 (by decide)
        have g := g.sub (fx' := [(14, 6, a0_, .int x_2), (14, 8, a0_, .int x_1), (14, 2, a0_, .ref q0_), (14, 16, a0_, .int o_), (14, 25, a0_, .int op_), (14, 10, a0_, .int t_)]) [1, 2, 3, 4, 5, 6] rfl
        refine lv_if_ne (tgt := 97) hx hb dX14_readOne_85 (by decide) (fun c_ => ?_) (fun c_ => absurd c_ (by decide))
        refine lv_aload_n hx hb dX14_readOne_97 rfl (lv_at hl 1 rfl) ?_
        refine lv_aload_n hx hb dX14_readOne_98 rfl (lv_at hl 1 rfl) ?_
        refine g_geti (C := RX14) (T := TX14) (N := 67) hx hb hts (mc_ inX14) hown hK g ma0_ ka0_ (by decide) rfl 23 (by decide) rfl (hts _ (List.mem_cons_of_mem _ t_2169)) (fun _ h9 => h9) rfl dX14_readOne_99 (fun x_578 bx_578 g => ?_)
        refine lv_iconst (v := 1) hx hb dX14_readOne_102 (by decide) ?_
        refine lv_aload_n hx hb dX14_readOne_103 rfl (lv_at hl 1 rfl) ?_
        refine g_getk (C := RX14) (T := TX14) (N := 67) hx hb hts (mc_ inX14) hown hK g rfl 8 (by decide) rfl (hts _ (List.mem_cons_of_mem _ t_2154)) (fun _ h9 => h9) 2 rfl dX14_readOne_104 ?_
        have hs_579 := sE_1 g 1 rfl (by have h9_0 := bo_; unfold bd at h9_0; have h9_1 := bop_; unfold bd at h9_1; have h9_2 := bt_; unfold bd at h9_2; have h9_3 := bx_1; unfold bd at h9_3; have h9_4 := h_17; unfold bd at h9_4; have h9_5 := b_577; unfold bd at h9_5; have h9_6 := bx_578; unfold bd at h9_6; have h8_0 := kb_3; unfold bd at h8_0; omega)
        have go_ := g
        refine g_callEv (As := [.int x_578, .int 1, .int x_1]) (rest := []) ⟨hx, hb, hml, hown, hts⟩ (r_X14_need_4 l dC dI L kd tys fr_13 H.size g.2.2.2.1 a0_ ma0_ ka0_ x_578 bx_578 1 x_1) (cwV 3 hts (gV_ t_2403 t_2405 t_100 t_198 t_2406) rfl rfl rfl (by decide +kernel) ⟨(show 1 + 1 ≤ N + 1 + 24 by omega), (show 8 + (4 + 11) + 22 ≤ 60 * (N + 1) + 700 by omega)⟩) (pre3V g hK ma0_ ka0_ (by decide) (q := (RX14, TX14, 67)) rfl) rfl hl.1 rfl (lv_room (Nat.le_of_ble_eq_true rfl)) dX14_readOne_107 (cl_f hck_0) g hK (by decide) (by decide) (fx' := [(14, 23, a0_, .int x_578), (14, 6, a0_, .int x_2), (14, 8, a0_, .int x_1), (14, 2, a0_, .ref q0_), (14, 16, a0_, .int o_), (14, 25, a0_, .int op_), (14, 10, a0_, .int t_)]) rfl (fun xr_580 fr_580 H locs mxr_580 kxr_580 hp hMr_580 g => ?_) (fun fr_580 H locs hp hMr_580 g => ?_)
        · have hG_581 := isV.frame hMr_580 go_.2.2.2.1 mq0_ kq0_ (by decide) (by decide) hG_573
          have hG_582 := FR.frame hMr_580 go_.2.2.2.1 mq0_ kq0_ (by decide) (by decide) hG_574
          have hG_583 := cEq.frame hMr_580 go_.2.2.2.1 ma0_ ka0_ (by decide) (by decide) hG_575
          subst hQ
          exact leavesX hempty hlocks (fun t ht hW => g_thrZ g hK mxr_580 kxr_580 ⟨hG_582, (by omega)⟩ ht hW) g.2.2.1.2.2
        · obtain ⟨h_584, -⟩ := hp
          have hG_585 := isV.frame hMr_580 go_.2.2.2.1 mq0_ kq0_ (by decide) (by decide) hG_573
          have hG_586 := FR.frame hMr_580 go_.2.2.2.1 mq0_ kq0_ (by decide) (by decide) hG_574
          have hG_587 := cEq.frame hMr_580 go_.2.2.2.1 ma0_ ka0_ (by decide) (by decide) hG_575
          have b_588 : bd 1 1 x_578 := eqX rfl bx_578 h_584 (by decide)
          refine lv_aload_n hx hb dX14_readOne_110 rfl (lv_at hl 1 rfl) ?_
          have hs_589 := sE_1 g 1 rfl (by have h9_0 := bo_; unfold bd at h9_0; have h9_1 := bop_; unfold bd at h9_1; have h9_2 := bt_; unfold bd at h9_2; have h9_3 := bx_1; unfold bd at h9_3; have h9_4 := h_17; unfold bd at h9_4; have h9_5 := b_577; unfold bd at h9_5; have h9_6 := b_588; unfold bd at h9_6; have h8_0 := kb_3; unfold bd at h8_0; omega)
          have go_ := g
          refine g_callEv (As := []) (rest := []) ⟨hx, hb, hml, hown, hts⟩ (r_X14_counts_2 l dC dI L kd tys fr_580 H.size g.2.2.2.1 a0_ ma0_ ka0_ q0_ mq0_ kq0_ V_ hG_585 (g.fcts [3] rfl)) (cwV 0 hts (gV_ t_2476 t_2478 t_116 t_198 t_2479) rfl rfl rfl (by decide +kernel) ⟨(show 2 + 1 ≤ N + 1 + 24 by omega), (show 8 + (1 + 11) + 45 ≤ 60 * (N + 1) + 700 by omega)⟩) (pre3V g hK ma0_ ka0_ (by decide) (q := (RX14, TX14, 67)) rfl) rfl hl.1 rfl (lv_room (Nat.le_of_ble_eq_true rfl)) dX14_readOne_111 (cl_f hck_0) g hK (by decide) (by decide) (fx' := [(14, 23, a0_, .int x_578), (14, 6, a0_, .int x_2), (14, 8, a0_, .int x_1), (14, 2, a0_, .ref q0_), (14, 16, a0_, .int o_), (14, 25, a0_, .int op_), (14, 10, a0_, .int t_)]) rfl (fun xr_590 fr_590 H locs mxr_590 kxr_590 hp hMr_590 g => ?_) (fun fr_590 H locs hp hMr_590 g => ?_)
          · have hG_591 := cEq.frame hMr_590 go_.2.2.2.1 ma0_ ka0_ (by decide) (by decide) hG_587
            have hF_592 := FR.call (mds := []) (mas := []) hG_586 go_ mq0_ kq0_ rfl hp
            subst hQ
            exact leavesX hempty hlocks (fun t ht hW => g_thrZ g hK mxr_590 kxr_590 ⟨hF_592, (by omega)⟩ ht hW) g.2.2.1.2.2
          · obtain ⟨hx_593, hx_594, x_595, h_596, hF_597⟩ := hp
            have hG_598 := cEq.frame hMr_590 go_.2.2.2.1 ma0_ ka0_ (by decide) (by decide) hG_587
            have hF_599 := FR.call (mds := []) (mas := []) hG_586 go_ mq0_ kq0_ rfl hx_594
            have g := g.more hF_597
            refine lv_aload_n hx hb dX14_readOne_114 rfl (lv_at hl 1 rfl) ?_
            refine lv_bipush (v := 19) hx hb dX14_readOne_115 (by decide) ?_
            have hs_600 := sE_1 g 2 rfl (by have h9_0 := bo_; unfold bd at h9_0; have h9_1 := bop_; unfold bd at h9_1; have h9_2 := bt_; unfold bd at h9_2; have h9_3 := bx_1; unfold bd at h9_3; have h9_4 := h_17; unfold bd at h9_4; have h9_5 := b_577; unfold bd at h9_5; have h9_6 := b_588; unfold bd at h9_6; have h9_7 := h_596; unfold bd at h9_7; have h8_0 := kb_3; unfold bd at h8_0; omega)
            have go_ := g
            refine g_callEi (As := [.int 19]) (rest := []) ⟨hx, hb, hml, hown, hts⟩ (r_X14_takes_2 l dC dI L kd tys fr_590 H.size g.2.2.2.1 adK adV a0_ ma0_ ka0_ 19 t_ bt_ (g.fcts [7] rfl)) (cwV 1 hts (gV_ t_2423 t_2425 t_105 t_198 t_2426) rfl rfl rfl (by decide +kernel) ⟨(show 7 + 1 ≤ N + 1 + 24 by omega), (show 8 + (3 + 11) + 155 ≤ 60 * (N + 1) + 700 by omega)⟩) (pre3VA g hK hAm ma0_ ka0_ (by decide) (q := (RX14, TX14, 67)) rfl) rfl hl.1 rfl (lv_room (Nat.le_of_ble_eq_true rfl)) dX14_readOne_117 (cl_f hck_0) g hK (by decide) (by decide) (fx' := [(12, 58, q0_, .int x_595), (14, 23, a0_, .int x_578), (14, 2, a0_, .ref q0_), (14, 16, a0_, .int o_), (14, 25, a0_, .int op_)]) rfl (fun xr_601 fr_601 H locs mxr_601 kxr_601 hp hMr_601 g => ?_) (fun r_601 fr_601 H locs hp hMr_601 g => ?_)
            · have hG_602 := FR.frame hMr_601 go_.2.2.2.1 mq0_ kq0_ (by decide) (by decide) hF_599
              have hG_603 := isV.frame hMr_601 go_.2.2.2.1 mq0_ kq0_ (by decide) (by decide) hx_593
              subst hQ
              exact leavesX hempty hlocks (fun t ht hW => g_thrZ g hK mxr_601 kxr_601 ⟨hG_602, (by omega)⟩ ht hW) g.2.2.1.2.2
            · rcases hp with ⟨hx_604, h_605, hF_606⟩ | ⟨hx_607, h_608, h_609, x_610, h_611, hF_612⟩
              · have hG_613 := FR.frame hMr_601 go_.2.2.2.1 mq0_ kq0_ (by decide) (by decide) hF_599
                have hG_614 := isV.frame hMr_601 go_.2.2.2.1 mq0_ kq0_ (by decide) (by decide) hx_593
                obtain rfl : r_601 = 0 := h_605
                obtain ⟨E_615, hE_615⟩ : ∃ E : Int, cEq fr_601 a0_ E := ⟨_, rfl⟩
                have mxE_615 : E_615 ≤ 1202 := by have h9 := cF_le g ma0_ ka0_; have h8 : cF _ _ = _ := hE_615; omega
                have lE_615 : (cF f0 a0_) = E_615 := by have h9 := hx_604; have h8 : cF _ _ = _ := hE_615; have h7 : cF _ _ = _ := hG_598; omega
                have g := g.more hF_606
                refine lv_if_eq (tgt := 132) hx hb dX14_readOne_120 (by decide) (fun c_ => ?_) (fun c_ => absurd (by decide) c_)
                refine lv_aload_n hx hb dX14_readOne_132 rfl (lv_at hl 1 rfl) ?_
                have go_ := g
                refine g_callEv (As := []) (rest := []) ⟨hx, hb, hml, hown, hts⟩ (r_X14_next_2 l dC dI L kd tys fr_601 H.size g.2.2.2.1 adK adV a0_ ma0_ ka0_ t_ bt_ (g.fcts [0] rfl)) (cwV 0 hts (gV_ t_2411 t_2413 t_102 t_198 t_2414) rfl rfl rfl (by decide +kernel) ⟨(show 6 + 1 ≤ N + 1 + 24 by omega), (show 8 + (1 + 11) + 135 ≤ 60 * (N + 1) + 700 by omega)⟩) (pre3VA g hK hAm ma0_ ka0_ (by decide) (q := (RX14, TX14, 67)) rfl) rfl hl.1 rfl (lv_room (Nat.le_of_ble_eq_true rfl)) dX14_readOne_133 (cl_f hck_0) g hK (by decide) (by decide) (fx' := [(12, 58, q0_, .int x_595), (14, 23, a0_, .int x_578), (14, 2, a0_, .ref q0_), (14, 16, a0_, .int o_), (14, 25, a0_, .int op_)]) rfl (fun xr_616 fr_616 H locs mxr_616 kxr_616 hp hMr_616 g => ?_) (fun fr_616 H locs hp hMr_616 g => ?_)
                · have hG_617 := FR.frame hMr_616 go_.2.2.2.1 mq0_ kq0_ (by decide) (by decide) hG_613
                  have hG_618 := isV.frame hMr_616 go_.2.2.2.1 mq0_ kq0_ (by decide) (by decide) hG_614
                  subst hQ
                  exact leavesX hempty hlocks (fun t ht hW => g_thrZ g hK mxr_616 kxr_616 ⟨hG_617, (by omega)⟩ ht hW) g.2.2.1.2.2
                · obtain ⟨hx_619, h_620, x_621, h_622, hF_623⟩ := hp
                  have hG_624 := FR.frame hMr_616 go_.2.2.2.1 mq0_ kq0_ (by decide) (by decide) hG_613
                  have hG_625 := isV.frame hMr_616 go_.2.2.2.1 mq0_ kq0_ (by decide) (by decide) hG_614
                  obtain ⟨E_626, hE_626⟩ : ∃ E : Int, cEq fr_616 a0_ E := ⟨_, rfl⟩
                  have mxE_626 : E_626 ≤ 1202 := by have h9 := cF_le g ma0_ ka0_; have h8 : cF _ _ = _ := hE_626; omega
                  have lE_626 : E_615 ≤ E_626 := by have h9 := hx_619; have h8 : cF _ _ = _ := hE_626; have h7 : cF _ _ = _ := hE_615; have h6 := sE_bd (f := fr_601) (t := a0_); have h5 := tk_c (f := fr_601) (t := a0_); omega
                  have b_627 : bd 0 1200 t_ := eqX rfl bt_ h_620 (by decide)
                  have g := g.more hF_623
                  refine lv_aload_n hx hb dX14_readOne_136 rfl (lv_at hl 1 rfl) ?_
                  refine lv_bipush (v := 40) hx hb dX14_readOne_137 (by decide) ?_
                  have go_ := g
                  refine g_callEv (As := [.int 40]) (rest := []) ⟨hx, hb, hml, hown, hts⟩ (r_X14_opening_2 l dC dI L kd tys fr_616 H.size g.2.2.2.1 adK adV a0_ ma0_ ka0_ 40 x_621 h_622 op_ bop_ (g.fcts [0, 5] rfl)) (cwV 1 hts (gV_ t_2484 t_2486 t_118 t_198 t_2487) rfl rfl rfl (by decide +kernel) ⟨(show 7 + 1 ≤ N + 1 + 24 by omega), (show 8 + (2 + 11) + 155 ≤ 60 * (N + 1) + 700 by omega)⟩) (pre3VA g hK hAm ma0_ ka0_ (by decide) (q := (RX14, TX14, 67)) rfl) rfl hl.1 rfl (lv_room (Nat.le_of_ble_eq_true rfl)) dX14_readOne_139 (cl_f hck_0) g hK (by decide) (by decide) (fx' := [(12, 58, q0_, .int x_595), (14, 23, a0_, .int x_578), (14, 2, a0_, .ref q0_), (14, 16, a0_, .int o_)]) rfl (fun xr_628 fr_628 H locs mxr_628 kxr_628 hp hMr_628 g => ?_) (fun fr_628 H locs hp hMr_628 g => ?_)
                  · have hG_629 := FR.frame hMr_628 go_.2.2.2.1 mq0_ kq0_ (by decide) (by decide) hG_624
                    have hG_630 := isV.frame hMr_628 go_.2.2.2.1 mq0_ kq0_ (by decide) (by decide) hG_625
                    subst hQ
                    exact leavesX hempty hlocks (fun t ht hW => g_thrZ g hK mxr_628 kxr_628 ⟨hG_629, (by omega)⟩ ht hW) g.2.2.1.2.2
                  · obtain ⟨hx_631, h_632, h_633, x_634, h_635, x_636, ⟨h_637, rh_637⟩, hF_638⟩ := hp
                    have hG_639 := FR.frame hMr_628 go_.2.2.2.1 mq0_ kq0_ (by decide) (by decide) hG_624
                    have hG_640 := isV.frame hMr_628 go_.2.2.2.1 mq0_ kq0_ (by decide) (by decide) hG_625
                    obtain ⟨E_641, hE_641⟩ : ∃ E : Int, cEq fr_628 a0_ E := ⟨_, rfl⟩
                    have mxE_641 : E_641 ≤ 1202 := by have h9 := cF_le g ma0_ ka0_; have h8 : cF _ _ = _ := hE_641; omega
                    have lE_641 : E_626 + 1 ≤ E_641 := by have h9 := hx_631; have h8 : cF _ _ = _ := hE_641; have h7 : cF _ _ = _ := hE_626; omega
                    have b_642 : bd 0 1200 x_621 := eqX rfl h_622 h_632 (by decide)
                    have b_643 : bd 0 39 op_ := eqX rfl bop_ h_633 (by decide)
                    have g := g.more hF_638
                    refine lv_aload_n hx hb dX14_readOne_142 rfl (lv_at hl 1 rfl) ?_
                    refine lv_aload_n hx hb dX14_readOne_143 rfl (lv_at hl 1 rfl) ?_
                    refine g_geti (C := RX14) (T := TX14) (N := 67) hx hb hts (mc_ inX14) hown hK g ma0_ ka0_ (by decide) rfl 6 (by decide) rfl (hts _ (List.mem_cons_of_mem _ t_2152)) (fun _ h9 => h9) rfl dX14_readOne_144 (fun x_644 bx_644 g => ?_)
                    refine lv_iconst (v := 1) hx hb dX14_readOne_147 (by decide) ?_
                    have kb_1 : bd 1 1 (1 : Int32) := ⟨by decide, by decide⟩
                    refine lv_icmp_ne (tgt := 155) hx hb dX14_readOne_148 (by decide) (fun c_645 => ?_) (fun c_645 => ?_)
                    · have fc_645 := neq_f c_645
                      refine lv_iconst (v := 0) hx hb dX14_readOne_155 (by decide) ?_
                      refine lv_iconst (v := 1) hx hb dX14_readOne_156 (by decide) ?_
                      refine lv_aload_n hx hb dX14_readOne_157 rfl (lv_at hl 1 rfl) ?_
                      refine g_geti (C := RX14) (T := TX14) (N := 67) hx hb hts (mc_ inX14) hown hK g ma0_ ka0_ (by decide) rfl 8 (by decide) rfl (hts _ (List.mem_cons_of_mem _ t_2154)) (fun _ h9 => h9) rfl dX14_readOne_158 (fun x_646 bx_646 g => ?_)
                      have kb_0 : bd 0 0 (0 : Int32) := ⟨by decide, by decide⟩
                      have go_ := g
                      refine g_callEv (As := [.int 0, .int 1, .int x_646]) (rest := []) ⟨hx, hb, hml, hown, hts⟩ (r_X14_need_2 l dC dI L kd tys fr_628 H.size g.2.2.2.1 a0_ ma0_ ka0_ 0 kb_0 1 x_646) (cwV 3 hts (gV_ t_2403 t_2405 t_100 t_198 t_2406) rfl rfl rfl (by decide +kernel) ⟨(show 1 + 1 ≤ N + 1 + 24 by omega), (show 8 + (4 + 11) + 22 ≤ 60 * (N + 1) + 700 by omega)⟩) (pre3V g hK ma0_ ka0_ (by decide) (q := (RX14, TX14, 67)) rfl) rfl hl.1 rfl (lv_room (Nat.le_of_ble_eq_true rfl)) dX14_readOne_161 (cl_f hck_0) g hK (by decide) (by decide) (fx' := [(14, 8, a0_, .int x_646), (14, 6, a0_, .int x_644), (14, 10, a0_, .int x_634), (14, 25, a0_, .int x_636), (12, 58, q0_, .int x_595), (14, 23, a0_, .int x_578), (14, 2, a0_, .ref q0_), (14, 16, a0_, .int o_)]) rfl (fun xr_647 fr_647 H locs mxr_647 kxr_647 hp hMr_647 g => ?_) (fun fr_647 H locs hp hMr_647 g => ?_)
                      · have hG_648 := FR.frame hMr_647 go_.2.2.2.1 mq0_ kq0_ (by decide) (by decide) hG_639
                        have hG_649 := isV.frame hMr_647 go_.2.2.2.1 mq0_ kq0_ (by decide) (by decide) hG_640
                        have hG_650 := cEq.frame hMr_647 go_.2.2.2.1 ma0_ ka0_ (by decide) (by decide) hE_641
                        subst hQ
                        exact leavesX hempty hlocks (fun t ht hW => g_thrZ g hK mxr_647 kxr_647 ⟨hG_648, (by omega)⟩ ht hW) g.2.2.1.2.2
                      · exact hp.elim
                    · have fc_645 := eq_f c_645
                      have b_651 : bd 1 1 x_644 := eqX fc_645 bx_644 kb_1 (by decide)
                      refine lv_iconst (v := 1) hx hb dX14_readOne_151 (by decide) ?_
                      refine lv_goto (tgt := 156) hx hb dX14_readOne_152 (by decide) ?_
                      refine lv_iconst (v := 1) hx hb dX14_readOne_156 (by decide) ?_
                      refine lv_aload_n hx hb dX14_readOne_157 rfl (lv_at hl 1 rfl) ?_
                      refine g_geti (C := RX14) (T := TX14) (N := 67) hx hb hts (mc_ inX14) hown hK g ma0_ ka0_ (by decide) rfl 8 (by decide) rfl (hts _ (List.mem_cons_of_mem _ t_2154)) (fun _ h9 => h9) rfl dX14_readOne_158 (fun x_652 bx_652 g => ?_)
                      have hs_653 := sE_1 g 1 rfl (by have h9_0 := bo_; unfold bd at h9_0; have h9_1 := b_643; unfold bd at h9_1; have h9_2 := b_627; unfold bd at h9_2; have h9_3 := bx_1; unfold bd at h9_3; have h9_4 := h_17; unfold bd at h9_4; have h9_5 := b_577; unfold bd at h9_5; have h9_6 := b_588; unfold bd at h9_6; have h9_7 := h_596; unfold bd at h9_7; have h9_8 := b_642; unfold bd at h9_8; have h9_9 := h_635; unfold bd at h9_9; have h9_10 := h_637; unfold bd at h9_10; have h9_11 := b_651; unfold bd at h9_11; have h9_12 := bx_652; unfold bd at h9_12; have h8_0 := kb_1; unfold bd at h8_0; have h8_1 := kb_3; unfold bd at h8_1; omega)
                      have go_ := g
                      refine g_callEv (As := [.int 1, .int 1, .int x_652]) (rest := []) ⟨hx, hb, hml, hown, hts⟩ (r_X14_need_3 l dC dI L kd tys fr_628 H.size g.2.2.2.1 a0_ ma0_ ka0_ 1 kb_1 1 x_652) (cwV 3 hts (gV_ t_2403 t_2405 t_100 t_198 t_2406) rfl rfl rfl (by decide +kernel) ⟨(show 0 + 1 ≤ N + 1 + 24 by omega), (show 8 + (4 + 11) + 0 ≤ 60 * (N + 1) + 700 by omega)⟩) (pre3V g hK ma0_ ka0_ (by decide) (q := (RX14, TX14, 67)) rfl) rfl hl.1 rfl (lv_room (Nat.le_of_ble_eq_true rfl)) dX14_readOne_161 (cl_f hck_0) g hK (by decide) (by decide) (fx' := [(14, 8, a0_, .int x_652), (14, 6, a0_, .int x_644), (14, 10, a0_, .int x_634), (14, 25, a0_, .int x_636), (12, 58, q0_, .int x_595), (14, 23, a0_, .int x_578), (14, 2, a0_, .ref q0_), (14, 16, a0_, .int o_)]) rfl (fun xr_654 fr_654 H locs mxr_654 kxr_654 hp hMr_654 g => ?_) (fun fr_654 H locs hp hMr_654 g => ?_)
                      · have hG_655 := FR.frame hMr_654 go_.2.2.2.1 mq0_ kq0_ (by decide) (by decide) hG_639
                        have hG_656 := isV.frame hMr_654 go_.2.2.2.1 mq0_ kq0_ (by decide) (by decide) hG_640
                        have hG_657 := cEq.frame hMr_654 go_.2.2.2.1 ma0_ ka0_ (by decide) (by decide) hE_641
                        exact hp.elim
                      · have hG_658 := FR.frame hMr_654 go_.2.2.2.1 mq0_ kq0_ (by decide) (by decide) hG_639
                        have hG_659 := isV.frame hMr_654 go_.2.2.2.1 mq0_ kq0_ (by decide) (by decide) hG_640
                        have hG_660 := cEq.frame hMr_654 go_.2.2.2.1 ma0_ ka0_ (by decide) (by decide) hE_641
                        refine lv_aload_n hx hb dX14_readOne_164 rfl (lv_at hl 1 rfl) ?_
                        refine lv_iconst (v := 1) hx hb dX14_readOne_165 (by decide) ?_
                        refine lv_iconst (v := 1) hx hb dX14_readOne_166 (by decide) ?_
                        have qc__661 : cF fr_654 a0_ = _ := hG_660
                        have hs_662 := sE_1 g 1 rfl (by have h9_0 := bo_; unfold bd at h9_0; have h9_1 := b_643; unfold bd at h9_1; have h9_2 := b_627; unfold bd at h9_2; have h9_3 := bx_1; unfold bd at h9_3; have h9_4 := h_17; unfold bd at h9_4; have h9_5 := b_577; unfold bd at h9_5; have h9_6 := b_588; unfold bd at h9_6; have h9_7 := h_596; unfold bd at h9_7; have h9_8 := b_642; unfold bd at h9_8; have h9_9 := h_635; unfold bd at h9_9; have h9_10 := h_637; unfold bd at h9_10; have h9_11 := b_651; unfold bd at h9_11; have h9_12 := bx_652; unfold bd at h9_12; have h8_0 := kb_1; unfold bd at h8_0; have h8_1 := kb_3; unfold bd at h8_1; omega)
                        have go_ := g
                        refine g_callZi (As := [.int 1, .int 1]) (rest := []) ⟨hx, hb, hml, hown, hts⟩ (ih.2.2.2.2.1 l dC dI L kd tys fr_654 H.size g.2.2.2.1 adK adV a0_ ma0_ ka0_ (1 : Int32) (bd_sub kb_1 (by decide)) (1 : Int32) (bd_sub kb_1 (by decide)) q0_ mq0_ kq0_ V_ o_ bo_ x_636 (bd_sub h_637 (by decide)) x_634 h_635 x_644 (bd_sub b_651 (by decide)) hG_659 hwf ho (by omega) 12 ⟨(by decide), (by decide), (fun h9 => absurd h9 (by decide))⟩ (K_ - cl_0) (by omega) (by have h9_0 := bo_; unfold bd at h9_0; have h9_1 := b_643; unfold bd at h9_1; have h9_2 := b_627; unfold bd at h9_2; have h9_3 := bx_1; unfold bd at h9_3; have h9_4 := h_17; unfold bd at h9_4; have h9_5 := b_577; unfold bd at h9_5; have h9_6 := b_588; unfold bd at h9_6; have h9_7 := h_596; unfold bd at h9_7; have h9_8 := b_642; unfold bd at h9_8; have h9_9 := h_635; unfold bd at h9_9; have h9_10 := h_637; unfold bd at h9_10; have h9_11 := b_651; unfold bd at h9_11; have h9_12 := bx_652; unfold bd at h9_12; have h8_0 := kb_1; unfold bd at h8_0; have h8_1 := kb_3; unfold bd at h8_1; omega) (g.fcts [6, 7, 3, 2, 1] rfl)) (cwV 2 hts (gV_ t_2496 t_2498 t_121 t_198 t_2499) rfl rfl rfl (by decide +kernel) ⟨(show N + 24 + 1 ≤ N + 1 + 24 by omega), (show 8 + (11 + 11) + (60 * N + 700) ≤ 60 * (N + 1) + 700 by omega)⟩) (pre3VA g hK hAm ma0_ ka0_ (by decide) (q := (RX14, TX14, 67)) rfl) rfl hl.1 rfl (lv_room (Nat.le_of_ble_eq_true rfl)) dX14_readOne_167 (cl_k (K := K_) (k := K_ - cl_0) (show cl_0 + (K_ - cl_0) ≤ K_ by omega)) g hK (by decide) (by decide) (fx' := [(14, 23, a0_, .int x_578), (14, 2, a0_, .ref q0_), (14, 16, a0_, .int o_)]) rfl (fun xr_663 fr_663 H locs kr_663 cr_663 ecr_663 mxr_663 kxr_663 hp hMr_663 g => ?_) (fun r_663 fr_663 H locs kr_663 cr_663 ecr_663 hp hMr_663 g => ?_)
                        · have hF_664 := FR.call (mds := []) (mas := []) hG_658 go_ mq0_ kq0_ rfl hp.1
                          have hpk := hp.2
                          subst hQ
                          exact leavesX hempty hlocks (fun t ht hW => g_thrZ g hK mxr_663 kxr_663 ⟨hF_664, (by omega)⟩ ht hW) g.2.2.1.2.2
                        · obtain ⟨hx_665, x_666, h_667, hF_668⟩ := hp
                          obtain ⟨V_669, E_670, hV_671, hF_672, hE_673, hX_674, hw_675, hv_676, hP_677, hn_678, hk_679, hc_680⟩ := rd_use hx_665 hG_660
                          have hF_681 := FR.call (mds := []) (mas := []) hG_658 go_ mq0_ kq0_ rfl hF_672
                          have mxE_670 : E_670 ≤ 1202 := by have h9 := cF_le g ma0_ ka0_; have h8 : cF _ _ = _ := hE_673; omega
                          have hx_682 := exN.tr exN.rf hX_674
                          have hck_683 : cr_663 ≤ K_ := by omega
                          have b_684 : bd 0 2499 r_663 := ⟨hv_676.1, (by have h9 := hv_676.2.1; omega)⟩
                          have g := g.more hF_668
                          refine lv_istore_n (lv' := [(2, .int r_663), (1, .int x_1), (0, .ref a0_)]) hx hb dX14_readOne_170 rfl hl (by decide) rfl (fun ls hl => ?_)
                          refine lv_aload_n hx hb dX14_readOne_171 rfl (lv_at hl 2 rfl) ?_
                          refine lv_bipush (v := 41) hx hb dX14_readOne_172 (by decide) ?_
                          have go_ := g
                          refine g_callEv (As := [.int 41]) (rest := []) ⟨hx, hb, hml, hown, hts⟩ (r_X14_closing l dC dI L kd tys fr_663 H.size g.2.2.2.1 adK adV a0_ ma0_ ka0_ 41 x_666 h_667 x_636 h_637 (g.fcts [1, 0] rfl)) (cwV 1 hts (gV_ t_2492 t_2494 t_120 t_198 t_2495) rfl rfl rfl (by decide +kernel) ⟨(show 8 + 1 ≤ N + 1 + 24 by omega), (show 8 + (2 + 11) + 176 ≤ 60 * (N + 1) + 700 by omega)⟩) (pre3VA g hK hAm ma0_ ka0_ (by decide) (q := (RX14, TX14, 67)) rfl) rfl hl.1 rfl (lv_room (Nat.le_of_ble_eq_true rfl)) dX14_readOne_174 (cl_f hck_683) g hK (by decide) (by decide) (fx' := [(14, 23, a0_, .int x_578), (14, 2, a0_, .ref q0_), (14, 16, a0_, .int o_)]) rfl (fun xr_685 fr_685 H locs mxr_685 kxr_685 hp hMr_685 g => ?_) (fun fr_685 H locs hp hMr_685 g => ?_)
                          · have hG_686 := isV.frame hMr_685 go_.2.2.2.1 mq0_ kq0_ (by decide) (by decide) hV_671
                            have hG_687 := FR.frame hMr_685 go_.2.2.2.1 mq0_ kq0_ (by decide) (by decide) hF_681
                            subst hQ
                            exact leavesX hempty hlocks (fun t ht hW => g_thrZ g hK mxr_685 kxr_685 ⟨hG_687, (by omega)⟩ ht hW) g.2.2.1.2.2
                          · obtain ⟨hx_688, h_689, x_690, h_691, x_692, ⟨h_693, rh_693⟩, hF_694⟩ := hp
                            have hG_695 := isV.frame hMr_685 go_.2.2.2.1 mq0_ kq0_ (by decide) (by decide) hV_671
                            have hG_696 := FR.frame hMr_685 go_.2.2.2.1 mq0_ kq0_ (by decide) (by decide) hF_681
                            obtain ⟨E_697, hE_697⟩ : ∃ E : Int, cEq fr_685 a0_ E := ⟨_, rfl⟩
                            have mxE_697 : E_697 ≤ 1202 := by have h9 := cF_le g ma0_ ka0_; have h8 : cF _ _ = _ := hE_697; omega
                            have lE_697 : E_670 + 1 ≤ E_697 := by have h9 := hx_688; have h8 : cF _ _ = _ := hE_697; have h7 : cF _ _ = _ := hE_673; omega
                            have b_698 : bd 0 1200 x_666 := eqX rfl h_667 h_689 (by decide)
                            have g := g.more hF_694
                            refine lv_aload_n hx hb dX14_readOne_177 rfl (lv_at hl 2 rfl) ?_
                            refine lv_aload_n hx hb dX14_readOne_178 rfl (lv_at hl 2 rfl) ?_
                            refine g_getk (C := RX14) (T := TX14) (N := 67) hx hb hts (mc_ inX14) hown hK g rfl 2 (by decide) rfl (hts _ (List.mem_cons_of_mem _ t_2148)) (fun _ h9 => h9) 3 rfl dX14_readOne_179 ?_
                            refine g_getr (K := 205) (C := RX12) (T := TX12) (N := 60) hx hb hts (mc_ inX12) hown hK g mq0_ kq0_ (by decide) rfl 51 (by decide) rfl (hts _ (List.mem_cons_of_mem _ t_2006)) (fun _ h9 => h9) rfl dX14_readOne_182 (fun a_699 ma_699 ka_699 g => ?_)
                            refine lv_iload_n hx hb dX14_readOne_185 rfl (lv_at hl 0 rfl) ?_
                            refine g_iald hx hb hK g ma_699 ka_699 (by decide) rfl (in_bd b_684 (by decide)) dX14_readOne_186 (fun x_700 bx_700 cx_700 => ?_)
                            have vx_700 : x_700 = V_669.i 51 r_663.toNatClampNeg := hG_695.at g 0 rfl rfl cx_700
                            have b_701 : bd 1 12 x_700 := ev_hb hw_675 hv_676 vx_700
                            refine lv_bipush (v := 12) hx hb dX14_readOne_187 (by decide) ?_
                            have kb_12 : bd 12 12 (12 : Int32) := ⟨by decide, by decide⟩
                            refine lv_icmp_ge (tgt := 196) hx hb dX14_readOne_189 (by decide) (fun c_702 => ?_) (fun c_702 => ?_)
                            · have fc_702 := le_f c_702
                              have b_703 : bd 12 12 x_700 := leR fc_702 kb_12 b_701 (by decide)
                              refine lv_iconst (v := 0) hx hb dX14_readOne_196 (by decide) ?_
                              refine lv_bipush (v := 7) hx hb dX14_readOne_197 (by decide) ?_
                              refine lv_iload_n hx hb dX14_readOne_199 rfl (lv_at hl 1 rfl) ?_
                              have kb_0 : bd 0 0 (0 : Int32) := ⟨by decide, by decide⟩
                              have go_ := g
                              refine g_callEv (As := [.int 0, .int 7, .int x_1]) (rest := []) ⟨hx, hb, hml, hown, hts⟩ (r_X14_need_2 l dC dI L kd tys fr_685 H.size g.2.2.2.1 a0_ ma0_ ka0_ 0 kb_0 7 x_1) (cwV 3 hts (gV_ t_2403 t_2405 t_100 t_198 t_2406) rfl rfl rfl (by decide +kernel) ⟨(show 1 + 1 ≤ N + 1 + 24 by omega), (show 8 + (4 + 11) + 22 ≤ 60 * (N + 1) + 700 by omega)⟩) (pre3V g hK ma0_ ka0_ (by decide) (q := (RX14, TX14, 67)) rfl) rfl hl.1 rfl (lv_room (Nat.le_of_ble_eq_true rfl)) dX14_readOne_200 (cl_f hck_683) g hK (by decide) (by decide) (fx' := [(12, 51, q0_, .ref a_699), (14, 10, a0_, .int x_690), (14, 25, a0_, .int x_692), (14, 23, a0_, .int x_578), (14, 2, a0_, .ref q0_), (14, 16, a0_, .int o_)]) rfl (fun xr_704 fr_704 H locs mxr_704 kxr_704 hp hMr_704 g => ?_) (fun fr_704 H locs hp hMr_704 g => ?_)
                              · have hG_705 := isV.frame hMr_704 go_.2.2.2.1 mq0_ kq0_ (by decide) (by decide) hG_695
                                have hG_706 := FR.frame hMr_704 go_.2.2.2.1 mq0_ kq0_ (by decide) (by decide) hG_696
                                have hG_707 := cEq.frame hMr_704 go_.2.2.2.1 ma0_ ka0_ (by decide) (by decide) hE_697
                                subst hQ
                                exact leavesX hempty hlocks (fun t ht hW => g_thrZ g hK mxr_704 kxr_704 ⟨hG_706, (by omega)⟩ ht hW) g.2.2.1.2.2
                              · exact hp.elim
                            · have fc_702 := nle_f c_702
                              have b_708 : bd 1 11 x_700 := ltL fc_702 b_701 kb_12 (by decide)
                              refine lv_iconst (v := 1) hx hb dX14_readOne_192 (by decide) ?_
                              refine lv_goto (tgt := 197) hx hb dX14_readOne_193 (by decide) ?_
                              refine lv_bipush (v := 7) hx hb dX14_readOne_197 (by decide) ?_
                              refine lv_iload_n hx hb dX14_readOne_199 rfl (lv_at hl 1 rfl) ?_
                              have go_ := g
                              refine g_callEv (As := [.int 1, .int 7, .int x_1]) (rest := []) ⟨hx, hb, hml, hown, hts⟩ (r_X14_need_3 l dC dI L kd tys fr_685 H.size g.2.2.2.1 a0_ ma0_ ka0_ 1 kb_1 7 x_1) (cwV 3 hts (gV_ t_2403 t_2405 t_100 t_198 t_2406) rfl rfl rfl (by decide +kernel) ⟨(show 0 + 1 ≤ N + 1 + 24 by omega), (show 8 + (4 + 11) + 0 ≤ 60 * (N + 1) + 700 by omega)⟩) (pre3V g hK ma0_ ka0_ (by decide) (q := (RX14, TX14, 67)) rfl) rfl hl.1 rfl (lv_room (Nat.le_of_ble_eq_true rfl)) dX14_readOne_200 (cl_f hck_683) g hK (by decide) (by decide) (fx' := [(12, 51, q0_, .ref a_699), (14, 10, a0_, .int x_690), (14, 25, a0_, .int x_692), (14, 23, a0_, .int x_578), (14, 2, a0_, .ref q0_), (14, 16, a0_, .int o_)]) rfl (fun xr_709 fr_709 H locs mxr_709 kxr_709 hp hMr_709 g => ?_) (fun fr_709 H locs hp hMr_709 g => ?_)
                              · have hG_710 := isV.frame hMr_709 go_.2.2.2.1 mq0_ kq0_ (by decide) (by decide) hG_695
                                have hG_711 := FR.frame hMr_709 go_.2.2.2.1 mq0_ kq0_ (by decide) (by decide) hG_696
                                have hG_712 := cEq.frame hMr_709 go_.2.2.2.1 ma0_ ka0_ (by decide) (by decide) hE_697
                                exact hp.elim
                              · have hG_713 := isV.frame hMr_709 go_.2.2.2.1 mq0_ kq0_ (by decide) (by decide) hG_695
                                have hG_714 := FR.frame hMr_709 go_.2.2.2.1 mq0_ kq0_ (by decide) (by decide) hG_696
                                have hG_715 := cEq.frame hMr_709 go_.2.2.2.1 ma0_ ka0_ (by decide) (by decide) hE_697
                                refine lv_aload_n hx hb dX14_readOne_203 rfl (lv_at hl 2 rfl) ?_
                                refine lv_iconst (v := 4) hx hb dX14_readOne_204 (by decide) ?_
                                refine lv_iload_n hx hb dX14_readOne_205 rfl (lv_at hl 0 rfl) ?_
                                refine lv_iconst (v := (-1)) hx hb dX14_readOne_206 (by decide) ?_
                                refine lv_iconst (v := 1) hx hb dX14_readOne_207 (by decide) ?_
                                refine lv_aload_n hx hb dX14_readOne_208 rfl (lv_at hl 2 rfl) ?_
                                refine g_getk (C := RX14) (T := TX14) (N := 67) hx hb hts (mc_ inX14) hown hK g rfl 2 (by decide) rfl (hts _ (List.mem_cons_of_mem _ t_2148)) (fun _ h9 => h9) 4 rfl dX14_readOne_209 ?_
                                refine g_getk (C := RX12) (T := TX12) (N := 60) hx hb hts (mc_ inX12) hown hK g rfl 51 (by decide) rfl (hts _ (List.mem_cons_of_mem _ t_2006)) (fun _ h9 => h9) 0 rfl dX14_readOne_212 ?_
                                refine lv_iload_n hx hb dX14_readOne_215 rfl (lv_at hl 0 rfl) ?_
                                refine g_iald hx hb hK g ma_699 ka_699 (by decide) rfl (in_bd b_684 (by decide)) dX14_readOne_216 (fun x_716 bx_716 cx_716 => ?_)
                                obtain rfl : x_700 = x_716 := el_same cx_700 cx_716 (arr_eq hMr_709 ma_699 ka_699 (by decide) rfl)
                                refine lv_iadd hx hb dX14_readOne_217 ?_
                                refine lv_topi (fun y_717 ey_717 => ?_)
                                have ty_717 := add_bd ey_717 kb_1 b_708 (by decide)
                                have b_718 : bd 2 12 y_717 := add_rg ty_717 kb_1 b_708 (by decide)
                                have hnb : (V_669.n 57).toInt ≤ 2499 := by omega
                                have go_ := g
                                refine g_calli (va_runV (As := [.int 4, .int r_663, .int (-1), .int y_717]) (rest := []) ⟨hx, hb, hml, hown, hts⟩ (r_X14_node l dC dI L kd tys fr_709 H.size g.2.2.2.1 a0_ ma0_ ka0_ 4 r_663 (-1) y_717 q0_ mq0_ kq0_ o_ bo_ V_669 hG_713 hnb (g.fcts [4, 5] rfl)) (cwV 4 hts (gV_ t_2480 t_2482 t_117 t_198 t_2483) rfl rfl rfl (by decide +kernel) ⟨(show 0 + 1 ≤ N + 1 + 24 by omega), (show 8 + (6 + 11) + 0 ≤ 60 * (N + 1) + 700 by omega)⟩) (pre3V g hK ma0_ ka0_ (by decide) (q := (RX14, TX14, 67)) rfl) rfl rfl hl.1 rfl (lv_room (Nat.le_of_ble_eq_true rfl)) dX14_readOne_218 (cl_f hck_683)) g hK (by decide) (by decide) (fx' := [(12, 51, q0_, .ref a_699), (14, 10, a0_, .int x_690), (14, 25, a0_, .int x_692), (14, 23, a0_, .int x_578), (14, 2, a0_, .ref q0_), (14, 16, a0_, .int o_)]) rfl (fun r_719 fr_719 H locs hp hMr_719 g => ?_)
                                obtain ⟨hx_720, hx_721, h_722, x_723, h_724, hF_725⟩ := hp
                                have hG_726 := cEq.frame hMr_719 go_.2.2.2.1 ma0_ ka0_ (by decide) (by decide) hG_715
                                have hF_727 := FR.call (mds := []) (mas := []) hG_714 go_ mq0_ kq0_ rfl hx_721
                                obtain ⟨V_728, hV_729, hN_730⟩ := hx_720
                                have g := g.more hF_725
                                have hf_731 : fin V_669 V_728 r_719 12 o_ := nd_old hN_730 h_722.1 hw_675 ⟨(by have h9_0 := bo_; unfold bd at h9_0; have h9_1 := b_643; unfold bd at h9_1; have h9_2 := b_684; unfold bd at h9_2; have h9_3 := h_722; unfold bd at h9_3; have h9_4 := b_627; unfold bd at h9_4; have h9_5 := bx_1; unfold bd at h9_5; have h9_6 := h_17; unfold bd at h9_6; have h9_7 := b_577; unfold bd at h9_7; have h9_8 := b_588; unfold bd at h9_8; have h9_9 := h_596; unfold bd at h9_9; have h9_10 := b_642; unfold bd at h9_10; have h9_11 := h_635; unfold bd at h9_11; have h9_12 := h_637; unfold bd at h9_12; have h9_13 := b_651; unfold bd at h9_13; have h9_14 := bx_652; unfold bd at h9_14; have h9_15 := b_698; unfold bd at h9_15; have h9_16 := h_691; unfold bd at h9_16; have h9_17 := h_693; unfold bd at h9_17; have h9_18 := b_708; unfold bd at h9_18; have h9_19 := h_724; unfold bd at h9_19; have h9_20 := b_718; unfold bd at h9_20; have h8_0 := kb_1; unfold bd at h8_0; have h8_1 := kb_12; unfold bd at h8_1; have h8_2 := kb_3; unfold bd at h8_2; omega), (by have h9_0 := bo_; unfold bd at h9_0; have h9_1 := b_643; unfold bd at h9_1; have h9_2 := b_684; unfold bd at h9_2; have h9_3 := h_722; unfold bd at h9_3; have h9_4 := b_627; unfold bd at h9_4; have h9_5 := bx_1; unfold bd at h9_5; have h9_6 := h_17; unfold bd at h9_6; have h9_7 := b_577; unfold bd at h9_7; have h9_8 := b_588; unfold bd at h9_8; have h9_9 := h_596; unfold bd at h9_9; have h9_10 := b_642; unfold bd at h9_10; have h9_11 := h_635; unfold bd at h9_11; have h9_12 := h_637; unfold bd at h9_12; have h9_13 := b_651; unfold bd at h9_13; have h9_14 := bx_652; unfold bd at h9_14; have h9_15 := b_698; unfold bd at h9_15; have h9_16 := h_691; unfold bd at h9_16; have h9_17 := h_693; unfold bd at h9_17; have h9_18 := b_708; unfold bd at h9_18; have h9_19 := h_724; unfold bd at h9_19; have h9_20 := b_718; unfold bd at h9_20; have h8_0 := kb_1; unfold bd at h8_0; have h8_1 := kb_12; unfold bd at h8_1; have h8_2 := kb_3; unfold bd at h8_2; omega)⟩ (by have h9_0 := bo_; unfold bd at h9_0; have h9_1 := b_643; unfold bd at h9_1; have h9_2 := b_684; unfold bd at h9_2; have h9_3 := h_722; unfold bd at h9_3; have h9_4 := b_627; unfold bd at h9_4; have h9_5 := bx_1; unfold bd at h9_5; have h9_6 := h_17; unfold bd at h9_6; have h9_7 := b_577; unfold bd at h9_7; have h9_8 := b_588; unfold bd at h9_8; have h9_9 := h_596; unfold bd at h9_9; have h9_10 := b_642; unfold bd at h9_10; have h9_11 := h_635; unfold bd at h9_11; have h9_12 := h_637; unfold bd at h9_12; have h9_13 := b_651; unfold bd at h9_13; have h9_14 := bx_652; unfold bd at h9_14; have h9_15 := b_698; unfold bd at h9_15; have h9_16 := h_691; unfold bd at h9_16; have h9_17 := h_693; unfold bd at h9_17; have h9_18 := b_708; unfold bd at h9_18; have h9_19 := h_724; unfold bd at h9_19; have h9_20 := b_718; unfold bd at h9_20; have h8_0 := kb_1; unfold bd at h8_0; have h8_1 := kb_12; unfold bd at h8_1; have h8_2 := kb_3; unfold bd at h8_2; omega) (by rw [hx_682.2.2.1 0 (by decide)]; exact ho) (by decide) (EV.at_ hv_676 vx_700) (by have h9_0 := bo_; unfold bd at h9_0; have h9_1 := b_643; unfold bd at h9_1; have h9_2 := b_684; unfold bd at h9_2; have h9_3 := h_722; unfold bd at h9_3; have h9_4 := b_627; unfold bd at h9_4; have h9_5 := bx_1; unfold bd at h9_5; have h9_6 := h_17; unfold bd at h9_6; have h9_7 := b_577; unfold bd at h9_7; have h9_8 := b_588; unfold bd at h9_8; have h9_9 := h_596; unfold bd at h9_9; have h9_10 := b_642; unfold bd at h9_10; have h9_11 := h_635; unfold bd at h9_11; have h9_12 := h_637; unfold bd at h9_12; have h9_13 := b_651; unfold bd at h9_13; have h9_14 := bx_652; unfold bd at h9_14; have h9_15 := b_698; unfold bd at h9_15; have h9_16 := h_691; unfold bd at h9_16; have h9_17 := h_693; unfold bd at h9_17; have h9_18 := b_708; unfold bd at h9_18; have h9_19 := h_724; unfold bd at h9_19; have h9_20 := b_718; unfold bd at h9_20; have h8_0 := kb_1; unfold bd at h8_0; have h8_1 := kb_12; unfold bd at h8_1; have h8_2 := kb_3; unfold bd at h8_2; omega) (hP_677.2 (by decide))
                                have ho_735 : (V_728.i 47 r_719.toNatClampNeg).toInt = 4 := (congrArg Int32.toInt (hN_730).2.2.2.1).trans (by decide)
                                obtain ⟨V_732, hV_733, hf_734, ho_735⟩ : ∃ V1 : PV, isV fr_719 q0_ V1 ∧ fin V_669 V1 r_719 12 o_ ∧ (V1.i 47 r_719.toNatClampNeg).toInt = 4 := ⟨_, hV_729, hf_731, ho_735⟩
                                have hf_734n := hf_734.2.2.2
                                have hx_736 := exN.tr hx_682 hf_734.1
                                have he_737 := exN.ev hf_734.1 hv_676
                                obtain rfl : op_ = x_692 := Int32.toInt_inj.mp (by have h9_0 := bo_; unfold bd at h9_0; have h9_1 := b_643; unfold bd at h9_1; have h9_2 := b_684; unfold bd at h9_2; have h9_3 := h_722; unfold bd at h9_3; have h9_4 := b_627; unfold bd at h9_4; have h9_5 := bx_1; unfold bd at h9_5; have h9_6 := h_17; unfold bd at h9_6; have h9_7 := b_577; unfold bd at h9_7; have h9_8 := b_588; unfold bd at h9_8; have h9_9 := h_596; unfold bd at h9_9; have h9_10 := b_642; unfold bd at h9_10; have h9_11 := h_635; unfold bd at h9_11; have h9_12 := h_637; unfold bd at h9_12; have h9_13 := b_651; unfold bd at h9_13; have h9_14 := bx_652; unfold bd at h9_14; have h9_15 := b_698; unfold bd at h9_15; have h9_16 := h_691; unfold bd at h9_16; have h9_17 := h_693; unfold bd at h9_17; have h9_18 := b_708; unfold bd at h9_18; have h9_19 := h_724; unfold bd at h9_19; have h9_20 := b_718; unfold bd at h9_20; have h8_0 := kb_1; unfold bd at h8_0; have h8_1 := kb_12; unfold bd at h8_1; have h8_2 := kb_3; unfold bd at h8_2; omega)
                                have h9c : cF fr_719 a0_ = _ := hG_726
                                subst hQ
                                exact iretX (v := r_719) hx hb hr (fun t ht hW => g_retZ g hK ⟨_, rfl, ⟨⟨_, hV_733, hF_727, hx_736, hf_734.2.1, hf_734.2.2.1, trivial, (by omega), (by omega), (by omega)⟩, x_690, h_691, (g.fcts [3, 2] rfl)⟩⟩ ht hW) g.2.2.1.2.2 dX14_readOne_221 hlocks
              · have hG_738 := FR.frame hMr_601 go_.2.2.2.1 mq0_ kq0_ (by decide) (by decide) hF_599
                have hG_739 := isV.frame hMr_601 go_.2.2.2.1 mq0_ kq0_ (by decide) (by decide) hx_593
                obtain rfl : r_601 = 1 := h_608
                obtain ⟨E_740, hE_740⟩ : ∃ E : Int, cEq fr_601 a0_ E := ⟨_, rfl⟩
                have mxE_740 : E_740 ≤ 1202 := by have h9 := cF_le g ma0_ ka0_; have h8 : cF _ _ = _ := hE_740; omega
                have lE_740 : (cF f0 a0_) + 1 ≤ E_740 := by have h9 := hx_607; have h8 : cF _ _ = _ := hE_740; have h7 : cF _ _ = _ := hG_598; omega
                have b_741 : bd 0 1200 t_ := eqX rfl bt_ h_609 (by decide)
                have g := g.more hF_612
                refine lv_if_eq (tgt := 132) hx hb dX14_readOne_120 (by decide) (fun c_ => absurd c_ (by decide)) (fun c_ => ?_)
                refine lv_aload_n hx hb dX14_readOne_123 rfl (lv_at hl 1 rfl) ?_
                refine lv_iconst (v := 5) hx hb dX14_readOne_124 (by decide) ?_
                refine lv_iconst (v := (-1)) hx hb dX14_readOne_125 (by decide) ?_
                refine lv_iconst (v := (-1)) hx hb dX14_readOne_126 (by decide) ?_
                refine lv_iconst (v := 1) hx hb dX14_readOne_127 (by decide) ?_
                have hnb : (V_.n 57).toInt ≤ 2499 := by omega
                have go_ := g
                refine g_calli (va_runV (As := [.int 5, .int (-1), .int (-1), .int 1]) (rest := []) ⟨hx, hb, hml, hown, hts⟩ (r_X14_node l dC dI L kd tys fr_601 H.size g.2.2.2.1 a0_ ma0_ ka0_ 5 (-1) (-1) 1 q0_ mq0_ kq0_ o_ bo_ V_ hG_739 hnb (g.fcts [3, 4] rfl)) (cwV 4 hts (gV_ t_2480 t_2482 t_117 t_198 t_2483) rfl rfl rfl (by decide +kernel) ⟨(show 0 + 1 ≤ N + 1 + 24 by omega), (show 8 + (6 + 11) + 0 ≤ 60 * (N + 1) + 700 by omega)⟩) (pre3V g hK ma0_ ka0_ (by decide) (q := (RX14, TX14, 67)) rfl) rfl rfl hl.1 rfl (lv_room (Nat.le_of_ble_eq_true rfl)) dX14_readOne_128 (cl_f hck_0)) g hK (by decide) (by decide) (fx' := [(14, 10, a0_, .int x_610), (12, 58, q0_, .int x_595), (14, 23, a0_, .int x_578), (14, 2, a0_, .ref q0_), (14, 16, a0_, .int o_), (14, 25, a0_, .int op_)]) rfl (fun r_742 fr_742 H locs hp hMr_742 g => ?_)
                obtain ⟨hx_743, hx_744, h_745, x_746, h_747, hF_748⟩ := hp
                have hG_749 := cEq.frame hMr_742 go_.2.2.2.1 ma0_ ka0_ (by decide) (by decide) hE_740
                have hF_750 := FR.call (mds := []) (mas := []) hG_738 go_ mq0_ kq0_ rfl hx_744
                obtain ⟨V_751, hV_752, hN_753⟩ := hx_743
                have g := g.more hF_748
                have hf_754 : fin V_ V_751 r_742 12 o_ := nd_leaf hN_753 h_745.1 hwf (by decide) (by decide) ho (by decide)
                have ho_758 : (V_751.i 47 r_742.toNatClampNeg).toInt = 5 := (congrArg Int32.toInt (hN_753).2.2.2.1).trans (by decide)
                obtain ⟨V_755, hV_756, hf_757, ho_758⟩ : ∃ V1 : PV, isV fr_742 q0_ V1 ∧ fin V_ V1 r_742 12 o_ ∧ (V1.i 47 r_742.toNatClampNeg).toInt = 5 := ⟨_, hV_752, hf_754, ho_758⟩
                have hf_757n := hf_757.2.2.2
                have hx_759 := exN.tr exN.rf hf_757.1
                have h9c : cF fr_742 a0_ = _ := hG_749
                subst hQ
                exact iretX (v := r_742) hx hb hr (fun t ht hW => g_retZ g hK ⟨_, rfl, ⟨⟨_, hV_756, hF_750, hx_759, hf_757.2.1, hf_757.2.2.1, trivial, (by omega), (by omega), (by omega)⟩, x_610, h_611, (g.fcts [6, 1] rfl)⟩⟩ ht hW) g.2.2.1.2.2 dX14_readOne_131 hlocks
    · have hG_760 := isV.frame hMr_4 go_.2.2.2.1 mq0_ kq0_ (by decide) (by decide) hV
      have hG_761 := FR.frame hMr_4 go_.2.2.2.1 mq0_ kq0_ (by decide) (by decide) FR.refl
      have hG_762 := cEq.frame hMr_4 go_.2.2.2.1 ma0_ ka0_ (by decide) (by decide) hC_0
      obtain rfl : r_4 = 1 := h_6
      have g := g.more hF_9
      have e_763 := fx_same g 1 0 rfl rfl
      have b_764 : bd 4 4 x_2 := eqX (eq_f e_763.symm) bx_2 h_8 (by decide)
      have g := g.sub (fx' := [(14, 6, a0_, .int x_2), (14, 8, a0_, .int x_1), (14, 2, a0_, .ref q0_), (14, 16, a0_, .int o_), (14, 25, a0_, .int op_), (14, 10, a0_, .int t_)]) [1, 2, 3, 4, 5, 6] rfl
      refine lv_if_eq (tgt := 79) hx hb dX14_readOne_56 (by decide) (fun c_ => absurd c_ (by decide)) (fun c_ => ?_)
      refine lv_aload_n hx hb dX14_readOne_59 rfl (lv_at hl 1 rfl) ?_
      refine lv_bipush (v := 40) hx hb dX14_readOne_60 (by decide) ?_
      have hs_765 := sE_1 g 0 rfl (by have h9_0 := bo_; unfold bd at h9_0; have h9_1 := bop_; unfold bd at h9_1; have h9_2 := bt_; unfold bd at h9_2; have h9_3 := bx_1; unfold bd at h9_3; have h9_4 := b_764; unfold bd at h9_4; have h9_5 := h_8; unfold bd at h9_5; have h8_0 := kb_3; unfold bd at h8_0; omega)
      have go_ := g
      refine g_callEv (As := [.int 40]) (rest := []) ⟨hx, hb, hml, hown, hts⟩ (r_X14_opening_2 l dC dI L kd tys fr_4 H.size g.2.2.2.1 adK adV a0_ ma0_ ka0_ 40 t_ bt_ op_ bop_ (g.fcts [5, 4] rfl)) (cwV 1 hts (gV_ t_2484 t_2486 t_118 t_198 t_2487) rfl rfl rfl (by decide +kernel) ⟨(show 7 + 1 ≤ N + 1 + 24 by omega), (show 8 + (2 + 11) + 155 ≤ 60 * (N + 1) + 700 by omega)⟩) (pre3VA g hK hAm ma0_ ka0_ (by decide) (q := (RX14, TX14, 67)) rfl) rfl hl.1 rfl (lv_room (Nat.le_of_ble_eq_true rfl)) dX14_readOne_62 (cl_f hck_0) g hK (by decide) (by decide) (fx' := [(14, 2, a0_, .ref q0_), (14, 16, a0_, .int o_)]) rfl (fun xr_766 fr_766 H locs mxr_766 kxr_766 hp hMr_766 g => ?_) (fun fr_766 H locs hp hMr_766 g => ?_)
      · have hG_767 := isV.frame hMr_766 go_.2.2.2.1 mq0_ kq0_ (by decide) (by decide) hG_760
        have hG_768 := FR.frame hMr_766 go_.2.2.2.1 mq0_ kq0_ (by decide) (by decide) hG_761
        subst hQ
        exact leavesX hempty hlocks (fun t ht hW => g_thrZ g hK mxr_766 kxr_766 ⟨hG_768, (by omega)⟩ ht hW) g.2.2.1.2.2
      · obtain ⟨hx_769, h_770, h_771, x_772, h_773, x_774, ⟨h_775, rh_775⟩, hF_776⟩ := hp
        have hG_777 := isV.frame hMr_766 go_.2.2.2.1 mq0_ kq0_ (by decide) (by decide) hG_760
        have hG_778 := FR.frame hMr_766 go_.2.2.2.1 mq0_ kq0_ (by decide) (by decide) hG_761
        obtain ⟨E_779, hE_779⟩ : ∃ E : Int, cEq fr_766 a0_ E := ⟨_, rfl⟩
        have mxE_779 : E_779 ≤ 1202 := by have h9 := cF_le g ma0_ ka0_; have h8 : cF _ _ = _ := hE_779; omega
        have lE_779 : (cF f0 a0_) + 1 ≤ E_779 := by have h9 := hx_769; have h8 : cF _ _ = _ := hE_779; have h7 : cF _ _ = _ := hG_762; omega
        have b_780 : bd 0 1200 t_ := eqX rfl bt_ h_770 (by decide)
        have b_781 : bd 0 39 op_ := eqX rfl bop_ h_771 (by decide)
        have g := g.more hF_776
        refine lv_aload_n hx hb dX14_readOne_65 rfl (lv_at hl 1 rfl) ?_
        refine lv_iconst (v := 1) hx hb dX14_readOne_66 (by decide) ?_
        have qc__782 : cF fr_766 a0_ = _ := hE_779
        have kb_1 : bd 1 1 (1 : Int32) := ⟨by decide, by decide⟩
        have go_ := g
        refine g_callZi (As := [.int 1]) (rest := []) ⟨hx, hb, hml, hown, hts⟩ (ih.1 l dC dI L kd tys fr_766 H.size g.2.2.2.1 adK adV a0_ ma0_ ka0_ (1 : Int32) (bd_sub kb_1 (by decide)) q0_ mq0_ kq0_ V_ o_ bo_ x_774 (bd_sub h_775 (by decide)) x_772 h_773 hG_777 hwf ho (by omega) (K_ - cl_0) (by omega) (by have h9_0 := bo_; unfold bd at h9_0; have h9_1 := b_781; unfold bd at h9_1; have h9_2 := b_780; unfold bd at h9_2; have h9_3 := bx_1; unfold bd at h9_3; have h9_4 := b_764; unfold bd at h9_4; have h9_5 := h_8; unfold bd at h9_5; have h9_6 := h_773; unfold bd at h9_6; have h9_7 := h_775; unfold bd at h9_7; have h8_0 := kb_1; unfold bd at h8_0; have h8_1 := kb_3; unfold bd at h8_1; omega) (g.fcts [2, 3, 1, 0] rfl)) (cwV 1 hts (gV_ t_2464 t_2466 t_113 t_198 t_2467) rfl rfl rfl (by decide +kernel) ⟨(show N + 24 + 1 ≤ N + 1 + 24 by omega), (show 8 + (7 + 11) + (60 * N + 700) ≤ 60 * (N + 1) + 700 by omega)⟩) (pre3VA g hK hAm ma0_ ka0_ (by decide) (q := (RX14, TX14, 67)) rfl) rfl hl.1 rfl (lv_room (Nat.le_of_ble_eq_true rfl)) dX14_readOne_67 (cl_k (K := K_) (k := K_ - cl_0) (show cl_0 + (K_ - cl_0) ≤ K_ by omega)) g hK (by decide) (by decide) (fx' := [(14, 2, a0_, .ref q0_), (14, 16, a0_, .int o_)]) rfl (fun xr_783 fr_783 H locs kr_783 cr_783 ecr_783 mxr_783 kxr_783 hp hMr_783 g => ?_) (fun r_783 fr_783 H locs kr_783 cr_783 ecr_783 hp hMr_783 g => ?_)
        · have hF_784 := FR.call (mds := []) (mas := []) hG_778 go_ mq0_ kq0_ rfl hp.1
          have hpk := hp.2
          subst hQ
          exact leavesX hempty hlocks (fun t ht hW => g_thrZ g hK mxr_783 kxr_783 ⟨hF_784, (by omega)⟩ ht hW) g.2.2.1.2.2
        · obtain ⟨hx_785, x_786, h_787, hF_788⟩ := hp
          obtain ⟨V_789, E_790, hV_791, hF_792, hE_793, hX_794, hw_795, hv_796, hP_797, hn_798, hk_799, hc_800⟩ := rd_use hx_785 hE_779
          have hF_801 := FR.call (mds := []) (mas := []) hG_778 go_ mq0_ kq0_ rfl hF_792
          have mxE_790 : E_790 ≤ 1202 := by have h9 := cF_le g ma0_ ka0_; have h8 : cF _ _ = _ := hE_793; omega
          have hx_802 := exN.tr exN.rf hX_794
          have hck_803 : cr_783 ≤ K_ := by omega
          have b_804 : bd 0 2499 r_783 := ⟨hv_796.1, (by have h9 := hv_796.2.1; omega)⟩
          have g := g.more hF_788
          refine lv_istore_n (lv' := [(2, .int r_783), (1, .int x_1), (0, .ref a0_)]) hx hb dX14_readOne_70 rfl hl (by decide) rfl (fun ls hl => ?_)
          refine lv_aload_n hx hb dX14_readOne_71 rfl (lv_at hl 2 rfl) ?_
          refine lv_bipush (v := 41) hx hb dX14_readOne_72 (by decide) ?_
          have go_ := g
          refine g_callEv (As := [.int 41]) (rest := []) ⟨hx, hb, hml, hown, hts⟩ (r_X14_closing l dC dI L kd tys fr_783 H.size g.2.2.2.1 adK adV a0_ ma0_ ka0_ 41 x_786 h_787 x_774 h_775 (g.fcts [1, 0] rfl)) (cwV 1 hts (gV_ t_2492 t_2494 t_120 t_198 t_2495) rfl rfl rfl (by decide +kernel) ⟨(show 8 + 1 ≤ N + 1 + 24 by omega), (show 8 + (2 + 11) + 176 ≤ 60 * (N + 1) + 700 by omega)⟩) (pre3VA g hK hAm ma0_ ka0_ (by decide) (q := (RX14, TX14, 67)) rfl) rfl hl.1 rfl (lv_room (Nat.le_of_ble_eq_true rfl)) dX14_readOne_74 (cl_f hck_803) g hK (by decide) (by decide) (fx' := [(14, 2, a0_, .ref q0_), (14, 16, a0_, .int o_)]) rfl (fun xr_805 fr_805 H locs mxr_805 kxr_805 hp hMr_805 g => ?_) (fun fr_805 H locs hp hMr_805 g => ?_)
          · have hG_806 := isV.frame hMr_805 go_.2.2.2.1 mq0_ kq0_ (by decide) (by decide) hV_791
            have hG_807 := FR.frame hMr_805 go_.2.2.2.1 mq0_ kq0_ (by decide) (by decide) hF_801
            subst hQ
            exact leavesX hempty hlocks (fun t ht hW => g_thrZ g hK mxr_805 kxr_805 ⟨hG_807, (by omega)⟩ ht hW) g.2.2.1.2.2
          · obtain ⟨hx_808, h_809, x_810, h_811, x_812, ⟨h_813, rh_813⟩, hF_814⟩ := hp
            have hG_815 := isV.frame hMr_805 go_.2.2.2.1 mq0_ kq0_ (by decide) (by decide) hV_791
            have hG_816 := FR.frame hMr_805 go_.2.2.2.1 mq0_ kq0_ (by decide) (by decide) hF_801
            obtain ⟨E_817, hE_817⟩ : ∃ E : Int, cEq fr_805 a0_ E := ⟨_, rfl⟩
            have mxE_817 : E_817 ≤ 1202 := by have h9 := cF_le g ma0_ ka0_; have h8 : cF _ _ = _ := hE_817; omega
            have lE_817 : E_790 + 1 ≤ E_817 := by have h9 := hx_808; have h8 : cF _ _ = _ := hE_817; have h7 : cF _ _ = _ := hE_793; omega
            have b_818 : bd 0 1200 x_786 := eqX rfl h_787 h_809 (by decide)
            have g := g.more hF_814
            refine lv_iload_n hx hb dX14_readOne_77 rfl (lv_at hl 0 rfl) ?_
            obtain rfl : op_ = x_812 := Int32.toInt_inj.mp (by have h9_0 := bo_; unfold bd at h9_0; have h9_1 := b_781; unfold bd at h9_1; have h9_2 := b_804; unfold bd at h9_2; have h9_3 := b_780; unfold bd at h9_3; have h9_4 := bx_1; unfold bd at h9_4; have h9_5 := b_764; unfold bd at h9_5; have h9_6 := h_8; unfold bd at h9_6; have h9_7 := h_773; unfold bd at h9_7; have h9_8 := h_775; unfold bd at h9_8; have h9_9 := b_818; unfold bd at h9_9; have h9_10 := h_811; unfold bd at h9_10; have h9_11 := h_813; unfold bd at h9_11; have h8_0 := kb_1; unfold bd at h8_0; have h8_1 := kb_3; unfold bd at h8_1; omega)
            have h9c : cF fr_805 a0_ = _ := hE_817
            subst hQ
            exact iretX (v := r_783) hx hb hr (fun t ht hW => g_retZ g hK ⟨_, rfl, ⟨⟨_, hG_815, hG_816, hx_802, hw_795, hv_796, trivial, (by omega), (by omega), (by omega)⟩, x_810, h_811, (g.fcts [1, 0] rfl)⟩⟩ ht hW) g.2.2.1.2.2 dX14_readOne_78 hlocks
  · have fc_3 := eq_f c_3
    have b_819 : bd 3 3 x_2 := eqX fc_3 bx_2 kb_3 (by decide)
    refine lv_aload_n hx hb dX14_readOne_13 rfl (lv_at hl 1 rfl) ?_
    have hs_820 := sE_1 g 0 rfl (by have h9_0 := bo_; unfold bd at h9_0; have h9_1 := bop_; unfold bd at h9_1; have h9_2 := bt_; unfold bd at h9_2; have h9_3 := bx_1; unfold bd at h9_3; have h9_4 := b_819; unfold bd at h9_4; have h8_0 := kb_3; unfold bd at h8_0; omega)
    have go_ := g
    refine g_callEv (As := []) (rest := []) ⟨hx, hb, hml, hown, hts⟩ (r_X14_counts_2 l dC dI L kd tys f0 s.heap.size g.2.2.2.1 a0_ ma0_ ka0_ q0_ mq0_ kq0_ V_ hV (g.fcts [2] rfl)) (cwV 0 hts (gV_ t_2476 t_2478 t_116 t_198 t_2479) rfl rfl rfl (by decide +kernel) ⟨(show 2 + 1 ≤ N + 1 + 24 by omega), (show 8 + (1 + 11) + 45 ≤ 60 * (N + 1) + 700 by omega)⟩) (pre3V g hK ma0_ ka0_ (by decide) (q := (RX14, TX14, 67)) rfl) rfl hl.1 rfl (lv_room (Nat.le_of_ble_eq_true rfl)) dX14_readOne_14 (cl_f hck_0) g hK (by decide) (by decide) (fx' := [(14, 6, a0_, .int x_2), (14, 8, a0_, .int x_1), (14, 2, a0_, .ref q0_), (14, 16, a0_, .int o_), (14, 25, a0_, .int op_), (14, 10, a0_, .int t_)]) rfl (fun xr_821 fr_821 H locs mxr_821 kxr_821 hp hMr_821 g => ?_) (fun fr_821 H locs hp hMr_821 g => ?_)
    · have hG_822 := cEq.frame hMr_821 go_.2.2.2.1 ma0_ ka0_ (by decide) (by decide) hC_0
      have hF_823 := FR.call (mds := []) (mas := []) FR.refl go_ mq0_ kq0_ rfl hp
      subst hQ
      exact leavesX hempty hlocks (fun t ht hW => g_thrZ g hK mxr_821 kxr_821 ⟨hF_823, (by omega)⟩ ht hW) g.2.2.1.2.2
    · obtain ⟨hx_824, hx_825, x_826, h_827, hF_828⟩ := hp
      have hG_829 := cEq.frame hMr_821 go_.2.2.2.1 ma0_ ka0_ (by decide) (by decide) hC_0
      have hF_830 := FR.call (mds := []) (mas := []) FR.refl go_ mq0_ kq0_ rfl hx_825
      have g := g.more hF_828
      refine lv_aload_n hx hb dX14_readOne_17 rfl (lv_at hl 1 rfl) ?_
      refine g_getl (C := RX14) (T := TX14) (N := 67) hx hb hts (mc_ inX14) hown hK g ma0_ ka0_ (by decide) rfl 11 (by decide) rfl (hts _ (List.mem_cons_of_mem _ t_2157)) (fun _ h9 => h9) rfl dX14_readOne_18 (fun x_831 g => ?_)
      refine lv_lstore_n (lv' := [(2, .long x_831), (1, .int x_1), (0, .ref a0_)]) hx hb dX14_readOne_21 rfl hl (by decide) rfl (fun ls hl => ?_)
      refine lv_aload_n hx hb dX14_readOne_22 rfl (lv_at hl 2 rfl) ?_
      have hs_832 := sE_1 g 2 rfl (by have h9_0 := bo_; unfold bd at h9_0; have h9_1 := bop_; unfold bd at h9_1; have h9_2 := bt_; unfold bd at h9_2; have h9_3 := bx_1; unfold bd at h9_3; have h9_4 := b_819; unfold bd at h9_4; have h9_5 := h_827; unfold bd at h9_5; have h8_0 := kb_3; unfold bd at h8_0; omega)
      have go_ := g
      refine g_callEv (As := []) (rest := []) ⟨hx, hb, hml, hown, hts⟩ (r_X14_next_2 l dC dI L kd tys fr_821 H.size g.2.2.2.1 adK adV a0_ ma0_ ka0_ t_ bt_ (g.fcts [7] rfl)) (cwV 0 hts (gV_ t_2411 t_2413 t_102 t_198 t_2414) rfl rfl rfl (by decide +kernel) ⟨(show 6 + 1 ≤ N + 1 + 24 by omega), (show 8 + (1 + 11) + 135 ≤ 60 * (N + 1) + 700 by omega)⟩) (pre3VA g hK hAm ma0_ ka0_ (by decide) (q := (RX14, TX14, 67)) rfl) rfl hl.1 rfl (lv_room (Nat.le_of_ble_eq_true rfl)) dX14_readOne_23 (cl_f hck_0) g hK (by decide) (by decide) (fx' := [(12, 58, q0_, .int x_826), (14, 2, a0_, .ref q0_), (14, 16, a0_, .int o_), (14, 25, a0_, .int op_)]) rfl (fun xr_833 fr_833 H locs mxr_833 kxr_833 hp hMr_833 g => ?_) (fun fr_833 H locs hp hMr_833 g => ?_)
      · have hG_834 := FR.frame hMr_833 go_.2.2.2.1 mq0_ kq0_ (by decide) (by decide) hF_830
        have hG_835 := isV.frame hMr_833 go_.2.2.2.1 mq0_ kq0_ (by decide) (by decide) hx_824
        subst hQ
        exact leavesX hempty hlocks (fun t ht hW => g_thrZ g hK mxr_833 kxr_833 ⟨hG_834, (by omega)⟩ ht hW) g.2.2.1.2.2
      · obtain ⟨hx_836, h_837, x_838, h_839, hF_840⟩ := hp
        have hG_841 := FR.frame hMr_833 go_.2.2.2.1 mq0_ kq0_ (by decide) (by decide) hF_830
        have hG_842 := isV.frame hMr_833 go_.2.2.2.1 mq0_ kq0_ (by decide) (by decide) hx_824
        obtain ⟨E_843, hE_843⟩ : ∃ E : Int, cEq fr_833 a0_ E := ⟨_, rfl⟩
        have mxE_843 : E_843 ≤ 1202 := by have h9 := cF_le g ma0_ ka0_; have h8 : cF _ _ = _ := hE_843; omega
        have lE_843 : (cF f0 a0_) + 1 ≤ E_843 := by have h9 := hx_836; have h8 : cF _ _ = _ := hE_843; have h7 : cF _ _ = _ := hG_829; have h6 := hs_832; have h5 := tk_c (f := fr_821) (t := a0_); omega
        have b_844 : bd 0 1200 t_ := eqX rfl bt_ h_837 (by decide)
        have g := g.more hF_840
        refine lv_aload_n hx hb dX14_readOne_26 rfl (lv_at hl 2 rfl) ?_
        refine lv_iconst (v := 1) hx hb dX14_readOne_27 (by decide) ?_
        refine lv_iconst (v := (-1)) hx hb dX14_readOne_28 (by decide) ?_
        refine lv_iconst (v := (-1)) hx hb dX14_readOne_29 (by decide) ?_
        refine lv_iconst (v := 1) hx hb dX14_readOne_30 (by decide) ?_
        have hnb : (V_.n 57).toInt ≤ 2499 := by omega
        have go_ := g
        refine g_calli (va_runV (As := [.int 1, .int (-1), .int (-1), .int 1]) (rest := []) ⟨hx, hb, hml, hown, hts⟩ (r_X14_node l dC dI L kd tys fr_833 H.size g.2.2.2.1 a0_ ma0_ ka0_ 1 (-1) (-1) 1 q0_ mq0_ kq0_ o_ bo_ V_ hG_842 hnb (g.fcts [2, 3] rfl)) (cwV 4 hts (gV_ t_2480 t_2482 t_117 t_198 t_2483) rfl rfl rfl (by decide +kernel) ⟨(show 0 + 1 ≤ N + 1 + 24 by omega), (show 8 + (6 + 11) + 0 ≤ 60 * (N + 1) + 700 by omega)⟩) (pre3V g hK ma0_ ka0_ (by decide) (q := (RX14, TX14, 67)) rfl) rfl rfl hl.1 rfl (lv_room (Nat.le_of_ble_eq_true rfl)) dX14_readOne_31 (cl_f hck_0)) g hK (by decide) (by decide) (fx' := [(14, 10, a0_, .int x_838), (12, 58, q0_, .int x_826), (14, 2, a0_, .ref q0_), (14, 16, a0_, .int o_), (14, 25, a0_, .int op_)]) rfl (fun r_845 fr_845 H locs hp hMr_845 g => ?_)
        obtain ⟨hx_846, hx_847, h_848, x_849, h_850, hF_851⟩ := hp
        have hG_852 := cEq.frame hMr_845 go_.2.2.2.1 ma0_ ka0_ (by decide) (by decide) hE_843
        have hF_853 := FR.call (mds := []) (mas := []) hG_841 go_ mq0_ kq0_ rfl hx_847
        obtain ⟨V_854, hV_855, hN_856⟩ := hx_846
        have g := g.more hF_851
        refine lv_istore (lv' := [(4, .int r_845), (2, .long x_831), (1, .int x_1), (0, .ref a0_)]) hx hb dX14_readOne_34 hl (by decide) rfl (fun ls hl => ?_)
        refine lv_aload_n hx hb dX14_readOne_36 rfl (lv_at hl 3 rfl) ?_
        refine g_getk (C := RX14) (T := TX14) (N := 67) hx hb hts (mc_ inX14) hown hK g rfl 2 (by decide) rfl (hts _ (List.mem_cons_of_mem _ t_2148)) (fun _ h9 => h9) 3 rfl dX14_readOne_37 ?_
        refine g_getr (K := 209) (C := RX12) (T := TX12) (N := 60) hx hb hts (mc_ inX12) hown hK g mq0_ kq0_ (by decide) rfl 55 (by decide) rfl (hts _ (List.mem_cons_of_mem _ t_2014)) (fun _ h9 => h9) rfl dX14_readOne_40 (fun a_857 ma_857 ka_857 g => ?_)
        refine lv_iload hx hb dX14_readOne_43 (lv_at hl 0 rfl) ?_
        refine lv_lload_n hx hb dX14_readOne_45 rfl (lv_at hl 1 rfl) ?_
        have gp_858 := g
        have go_ := g
        refine g_lastX hx hb hK g ma_857 ka_857 (by decide) rfl (in_bd h_848 (by decide)) (by decide) dX14_readOne_46 (fun f H locs hM_859 u_861 g => ?_)
        have hG_860 := cEq.frame hM_859 go_.2.2.2.1 ma0_ ka0_ (by decide) (by decide) hG_852
        have hV_862 := isV.ul hV_855 gp_858 0 rfl mq0_ kq0_ rfl u_861
        have hF_863 := FR.arr hF_853 gp_858 0 rfl mq0_ kq0_ rfl rfl u_861.1
        have hN_864 := NN.s55 (w := x_831) hN_856 h_848.1
        refine lv_iload hx hb dX14_readOne_47 (lv_at hl 0 rfl) ?_
        have hf_865 : fin V_ (V_854.ul 55 r_845.toNatClampNeg x_831) r_845 12 o_ := nd_leaf hN_864 h_848.1 hwf (by decide) (by decide) ho (by decide)
        have ho_869 : ((V_854.ul 55 r_845.toNatClampNeg x_831).i 47 r_845.toNatClampNeg).toInt = 1 := (congrArg Int32.toInt (hN_864).2.2.2.1).trans (by decide)
        obtain ⟨V_866, hV_867, hf_868, ho_869⟩ : ∃ V1 : PV, isV f q0_ V1 ∧ fin V_ V1 r_845 12 o_ ∧ (V1.i 47 r_845.toNatClampNeg).toInt = 1 := ⟨_, hV_862, hf_865, ho_869⟩
        have hf_868n := hf_868.2.2.2
        have hx_870 := exN.tr exN.rf hf_868.1
        have h9c : cF f a0_ = _ := hG_860
        subst hQ
        exact iretX (v := r_845) hx hb hr (fun t ht hW => g_retZ g hK ⟨_, rfl, ⟨⟨_, hV_867, hF_863, hx_870, hf_868.2.1, hf_868.2.2.1, trivial, (by omega), (by omega), (by omega)⟩, x_838, h_839, (g.fcts [6, 2] rfl)⟩⟩ ht hW) g.2.2.1.2.2 dX14_readOne_49 hlocks
