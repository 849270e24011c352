set_option maxHeartbeats 4000000 in
set_option maxRecDepth 100000 in
theorem r_X14_scan (l : Launch) (dC : Nat → ClassId) (dI : Nat → Nat → Nat) (L : List Nat) (kd : Nat → Nat) (tys : List (ClassId × FieldType)) (f0 : Nat → va_E) (sz : Nat) (hWT : WT L kd tys f0) (adK adV : Nat → Nat) (a0_ : Nat) (ma0_ : a0_ ∈ L) (ka0_ : kd a0_ = 14) (y0_ : Int32) (by0_ : bd 0 1200 y0_) (hfx : Fs L kd f0 [(14, 10, a0_, .int y0_)]) : Met l yX14_scan (.code yX14_scan cX14_scan 4 none :: lw_g) ({ frames := 5, cells := 0, slots := 0, locals := 112 }) (va_Pc [.ref a0_] (P3A (dC, dI) L tys f0 sz adK adV)) (va_Qv (fun (f : Nat → va_E) => (∃ z0_ : Int32, bd 0 1201 z0_ ∧ Fs L kd f [(14, 10, a0_, .int z0_)])) (Q3 (dC, dI) L kd tys [(14, 6), (14, 7), (14, 8), (14, 9), (14, 10), (14, 11), (14, 12), (14, 13)] [] f0 sz) (pA L sz)) 0 0 (pA L sz) := by
  refine Met.ofW (cc := cX14_scan) (maxL := 4) (ret := none) (by decide) rfl ?_
  intro p e s m args below meth c s₁ B hml hv
  obtain ⟨rfl, ⟨hsz, hP, hK, hD0⟩, hAm⟩ := hv
  have hx := B.exec
  have hb := B.bytes
  have hr := B.returns
  have hts := atoms_spec (ws := (.code yX14_scan cX14_scan 4 none :: lw_g)) B.pre
  have hown : s.vm.findClass RX14 = some m.cls := findClass_of_methodNamed B.named
  have hlocks := B.notSynchronized
  subst hsz
  have g : G3 (dC, dI) L kd tys s f0 [(14, 6), (14, 7), (14, 8), (14, 9), (14, 10), (14, 11), (14, 12), (14, 13)] [] f0 s.heap [] [(14, 10, a0_, .int y0_)] := G3.start hP hD0 hWT hfx
  have hl := lv_entry ([.ref a0_]) (n := 4) (Nat.le_of_ble_eq_true rfl)
  rw [lg_entry_eq]
  generalize (lg_sl ([.ref a0_]) ++ List.replicate (4 - (lg_sl ([.ref a0_])).length) Slot.unset).toArray = ls at hl ⊢
  have hl : lv_has ls 4 [(0, .ref a0_)] := hl
  refine W_q (fun Q hQ => ?_)
  have join_1 : ∀ (j31_1 : Int32) (g31_14_9_a0_ : Int32) (f : Nat → va_E) (H : Heap) (locs : List Loc) (ls : Array Slot), bd 0 8000 j31_1 → bd 0 8000 g31_14_9_a0_ → G3 (dC, dI) L kd tys s f0 [(14, 6), (14, 7), (14, 8), (14, 9), (14, 10), (14, 11), (14, 12), (14, 13)] [] f H locs [(14, 9, a0_, .int g31_14_9_a0_), (14, 10, a0_, .int y0_)] → lv_has ls 4 [(1, .int j31_1), (0, .ref a0_)] → W p l e ({ frames := 5, cells := 0, slots := 0, locals := 112 } : Room) s m [.ref a0_].toArray below meth c H locs 0 0 Q (F0 m 31 ls []) := by
    intro j31_1 g31_14_9_a0_ f H locs ls bj31_1 bg31_14_9_a0_ g  hl
    refine lv_aload_n hx hb dX14_scan_31 rfl (lv_at hl 1 rfl) ?_
    refine lv_iload_n hx hb dX14_scan_32 rfl (lv_at hl 0 rfl) ?_
    refine g_put (C := RX14) (T := TX14) (N := 67) hx hb hts (mc_ inX14) tyX14 tyX14_ok nmX14 hown hK g ma0_ ka0_ (by decide) rfl 8 (by decide) (hts _ (List.mem_cons_of_mem _ t_2154)) (fun _ h9 => h9) rfl rfl (okV_i bj31_1) rfl rfl (by decide) (Or.inr (Or.inl (by decide))) (fx' := [(14, 9, a0_, .int g31_14_9_a0_), (14, 10, a0_, .int y0_)]) rfl dX14_scan_33 (fun f H locs hM_2 g => ?_)
    refine lv_aload_n hx hb dX14_scan_36 rfl (lv_at hl 1 rfl) ?_
    refine lv_iload_n hx hb dX14_scan_37 rfl (lv_at hl 0 rfl) ?_
    refine g_calli (va_runV (As := [.int j31_1]) (rest := []) ⟨hx, hb, hml, hown, hts⟩ (r_X14_see l dC dI L kd tys f H.size g.2.2.2.1 a0_ ma0_ ka0_ j31_1 (bd_sub bj31_1 (by decide))) (cwV 1 hts (gV_ t_2364 t_2366 t_93 t_198 t_2367) rfl rfl rfl (by decide +kernel) ⟨(Nat.le_of_ble_eq_true rfl), (Nat.le_of_ble_eq_true rfl)⟩) (pre3V g hK ma0_ ka0_ (by decide) (q := (RX14, TX14, 67)) rfl) rfl rfl hl.1 rfl (lv_room (Nat.le_of_ble_eq_true rfl)) dX14_scan_38 ⟨(Nat.le_of_ble_eq_true rfl), (Nat.le_of_ble_eq_true rfl)⟩) g hK (by decide) (by decide) (fx' := [(14, 8, a0_, .int j31_1), (14, 9, a0_, .int g31_14_9_a0_), (14, 10, a0_, .int y0_)]) rfl (fun r_3 fr_3 H locs hp hMr_3 g => ?_)
    rcases hp with ⟨h_4, -⟩ | ⟨h_5, h_6, x_7, h_8, hF_9⟩
    · obtain rfl : r_3 = (-1) := h_4
      refine lv_istore_n (lv' := [(2, .int (-1)), (1, .int j31_1), (0, .ref a0_)]) hx hb dX14_scan_41 rfl hl (by decide) rfl (fun ls hl => ?_)
      refine lv_iload_n hx hb dX14_scan_42 rfl (lv_at hl 0 rfl) ?_
      refine lv_iconst (v := (-1)) hx hb dX14_scan_43 (by decide) ?_
      refine lv_icmp_ne (tgt := 58) hx hb dX14_scan_44 (by decide) (fun c_ => absurd c_ (by decide)) (fun c_ => ?_)
      refine lv_aload_n hx hb dX14_scan_47 rfl (lv_at hl 2 rfl) ?_
      refine lv_iconst (v := 5) hx hb dX14_scan_48 (by decide) ?_
      have kb_5 : bd 5 5 (5 : Int32) := ⟨by decide, by decide⟩
      refine g_put (C := RX14) (T := TX14) (N := 67) hx hb hts (mc_ inX14) tyX14 tyX14_ok nmX14 hown hK g ma0_ ka0_ (by decide) rfl 6 (by decide) (hts _ (List.mem_cons_of_mem _ t_2152)) (fun _ h9 => h9) rfl rfl (okV_i (bd_sub kb_5 (by decide))) rfl rfl (by decide) (Or.inr (Or.inl (by decide))) (fx' := [(14, 8, a0_, .int j31_1), (14, 9, a0_, .int g31_14_9_a0_), (14, 10, a0_, .int y0_)]) rfl dX14_scan_49 (fun f H locs hM_10 g => ?_)
      refine lv_aload_n hx hb dX14_scan_52 rfl (lv_at hl 2 rfl) ?_
      refine lv_iload_n hx hb dX14_scan_53 rfl (lv_at hl 1 rfl) ?_
      refine g_put (C := RX14) (T := TX14) (N := 67) hx hb hts (mc_ inX14) tyX14 tyX14_ok nmX14 hown hK g ma0_ ka0_ (by decide) rfl 9 (by decide) (hts _ (List.mem_cons_of_mem _ t_2155)) (fun _ h9 => h9) rfl rfl (okV_i bj31_1) rfl rfl (by decide) (Or.inr (Or.inl (by decide))) (fx' := [(14, 6, a0_, .int 5), (14, 8, a0_, .int j31_1), (14, 10, a0_, .int y0_)]) rfl dX14_scan_54 (fun f H locs hM_11 g => ?_)
      subst hQ
      exact W.vret hx hb hr (fun t ht hW => ⟨⟨_, rfl, ⟨y0_, (bd_sub by0_ (by decide)), (g.fcts [3] rfl)⟩, q3_of g hK ht hW⟩, g.2.2.1.F ht⟩) g.2.2.1.2.2 dX14_scan_57
    · have b_12 : bd 0 3999 j31_1 := eqX rfl bj31_1 h_6 (by decide)
      have g := g.more hF_9
      refine lv_istore_n (lv' := [(2, .int r_3), (1, .int j31_1), (0, .ref a0_)]) hx hb dX14_scan_41 rfl hl (by decide) rfl (fun ls hl => ?_)
      refine lv_iload_n hx hb dX14_scan_42 rfl (lv_at hl 0 rfl) ?_
      refine lv_iconst (v := (-1)) hx hb dX14_scan_43 (by decide) ?_
      have kb_m1 : bd (-1) (-1) ((-1) : Int32) := ⟨by decide, by decide⟩
      refine lv_icmp_ne (tgt := 58) hx hb dX14_scan_44 (by decide) (fun c_13 => ?_) (fun c_13 => ?_)
      · have fc_13 := neq_f c_13
        refine lv_aload_n hx hb dX14_scan_58 rfl (lv_at hl 2 rfl) ?_
        refine lv_dup hx hb dX14_scan_59 rfl ?_
        refine g_getk (C := RX14) (T := TX14) (N := 67) hx hb hts (mc_ inX14) hown hK g rfl 10 (by decide) rfl (hts _ (List.mem_cons_of_mem _ t_2156)) (fun _ h9 => h9) 3 rfl dX14_scan_60 ?_
        refine lv_iconst (v := 1) hx hb dX14_scan_63 (by decide) ?_
        have kb_1 : bd 1 1 (1 : Int32) := ⟨by decide, by decide⟩
        refine lv_iadd hx hb dX14_scan_64 ?_
        refine lv_topi (fun y_14 ey_14 => ?_)
        have ty_14 := add_bd ey_14 by0_ kb_1 (by decide)
        have b_15 : bd 1 1201 y_14 := add_rg ty_14 by0_ kb_1 (by decide)
        refine g_put (C := RX14) (T := TX14) (N := 67) hx hb hts (mc_ inX14) tyX14 tyX14_ok nmX14 hown hK g ma0_ ka0_ (by decide) rfl 10 (by decide) (hts _ (List.mem_cons_of_mem _ t_2156)) (fun _ h9 => h9) rfl rfl (okV_i (bd_sub b_15 (by decide))) rfl rfl (by decide) (Or.inr (Or.inl (by decide))) (fx' := [(14, 5, a0_, .int x_7), (14, 8, a0_, .int j31_1), (14, 9, a0_, .int g31_14_9_a0_)]) rfl dX14_scan_65 (fun f H locs hM_16 g => ?_)
        refine lv_iload_n hx hb dX14_scan_68 rfl (lv_at hl 0 rfl) ?_
        refine g_calli (va_runS (As := [.int r_3]) (rest := []) ⟨hx, hb, hml, hown, hts⟩ (r_X14_isSmall l dC dI L kd tys f H.size g.2.2.2.1 r_3) (va_cwS 1 hts (gS_ t_2368 t_2369 t_198 t_2370) rfl rfl rfl (by decide +kernel) ⟨(Nat.le_of_ble_eq_true rfl), (Nat.le_of_ble_eq_true rfl)⟩) (pre3S g hK) rfl rfl hl.1 rfl (lv_room (Nat.le_of_ble_eq_true rfl)) dX14_scan_69 ⟨(Nat.le_of_ble_eq_true rfl), (Nat.le_of_ble_eq_true rfl)⟩) g hK (by decide) (by decide) (fx' := [(14, 10, a0_, .int y_14), (14, 5, a0_, .int x_7), (14, 8, a0_, .int j31_1), (14, 9, a0_, .int g31_14_9_a0_)]) rfl (fun r_17 fr_17 H locs hp hMr_17 g => ?_)
        rcases hp with ⟨h_18, -⟩ | ⟨h_19, h_20, -⟩
        · obtain rfl : r_17 = 0 := h_18
          refine lv_if_eq (tgt := 222) hx hb dX14_scan_72 (by decide) (fun c_ => ?_) (fun c_ => absurd (by decide) c_)
          refine lv_iload_n hx hb dX14_scan_222 rfl (lv_at hl 0 rfl) ?_
          refine g_calli (va_runS (As := [.int r_3]) (rest := []) ⟨hx, hb, hml, hown, hts⟩ (r_X14_isDigit l dC dI L kd tys fr_17 H.size g.2.2.2.1 r_3) (va_cwS 1 hts (gS_ t_2371 t_2372 t_198 t_2373) rfl rfl rfl (by decide +kernel) ⟨(Nat.le_of_ble_eq_true rfl), (Nat.le_of_ble_eq_true rfl)⟩) (pre3S g hK) rfl rfl hl.1 rfl (lv_room (Nat.le_of_ble_eq_true rfl)) dX14_scan_223 ⟨(Nat.le_of_ble_eq_true rfl), (Nat.le_of_ble_eq_true rfl)⟩) g hK (by decide) (by decide) (fx' := [(14, 10, a0_, .int y_14), (14, 5, a0_, .int x_7), (14, 8, a0_, .int j31_1), (14, 9, a0_, .int g31_14_9_a0_)]) rfl (fun r_21 fr_21 H locs hp hMr_21 g => ?_)
          rcases hp with ⟨h_22, -⟩ | ⟨h_23, h_24, -⟩
          · obtain rfl : r_21 = 0 := h_22
            refine lv_if_eq (tgt := 318) hx hb dX14_scan_226 (by decide) (fun c_ => ?_) (fun c_ => absurd (by decide) c_)
            refine lv_aload_n hx hb dX14_scan_318 rfl (lv_at hl 2 rfl) ?_
            refine lv_iload_n hx hb dX14_scan_319 rfl (lv_at hl 1 rfl) ?_
            refine lv_iload_n hx hb dX14_scan_320 rfl (lv_at hl 0 rfl) ?_
            refine g_callv (va_runV (As := [.int j31_1, .int r_3]) (rest := []) ⟨hx, hb, hml, hown, hts⟩ (r_X14_scanSign l dC dI L kd tys fr_21 H.size g.2.2.2.1 a0_ ma0_ ka0_ j31_1 b_12 r_3 h_5) (cwV 2 hts (gV_ t_2387 t_2389 t_96 t_198 t_2390) rfl rfl rfl (by decide +kernel) ⟨(Nat.le_of_ble_eq_true rfl), (Nat.le_of_ble_eq_true rfl)⟩) (pre3V g hK ma0_ ka0_ (by decide) (q := (RX14, TX14, 67)) rfl) rfl rfl hl.1 rfl (lv_room (Nat.le_of_ble_eq_true rfl)) dX14_scan_321 ⟨(Nat.le_of_ble_eq_true rfl), (Nat.le_of_ble_eq_true rfl)⟩) g hK (by decide) (by decide) (fx' := [(14, 10, a0_, .int y_14), (14, 5, a0_, .int x_7), (14, 8, a0_, .int j31_1)]) rfl (fun fr_25 H locs hp hMr_25 g => ?_)
            obtain ⟨x_26, h_27, x_28, h_29, x_30, h_31, hF_32⟩ := hp
            have g := g.more hF_32
            subst hQ
            exact W.vret hx hb hr (fun t ht hW => ⟨⟨_, rfl, ⟨y_14, (bd_sub b_15 (by decide)), (g.fcts [3] rfl)⟩, q3_of g hK ht hW⟩, g.2.2.1.F ht⟩) g.2.2.1.2.2 dX14_scan_324
          · obtain rfl : r_21 = 1 := h_23
            have b_33 : bd 48 57 r_3 := eqX rfl h_5 h_24 (by decide)
            refine lv_if_eq (tgt := 318) hx hb dX14_scan_226 (by decide) (fun c_ => absurd c_ (by decide)) (fun c_ => ?_)
            refine lv_iconst (v := 0) hx hb dX14_scan_229 (by decide) ?_
            refine lv_istore_n (lv' := [(3, .int 0), (2, .int r_3), (1, .int j31_1), (0, .ref a0_)]) hx hb dX14_scan_230 rfl hl (by decide) rfl (fun ls hl => ?_)
            refine lv_aload_n hx hb dX14_scan_231 rfl (lv_at hl 3 rfl) ?_
            refine lv_lconst (v := 0) hx hb dX14_scan_232 (by decide) ?_
            refine g_put (C := RX14) (T := TX14) (N := 67) hx hb hts (mc_ inX14) tyX14 tyX14_ok nmX14 hown hK g ma0_ ka0_ (by decide) rfl 11 (by decide) (hts _ (List.mem_cons_of_mem _ t_2157)) (fun _ h9 => h9) rfl rfl okV_l rfl rfl (by decide) (Or.inr (Or.inl (by decide))) (fx' := [(14, 10, a0_, .int y_14), (14, 5, a0_, .int x_7), (14, 8, a0_, .int j31_1), (14, 9, a0_, .int g31_14_9_a0_)]) rfl dX14_scan_233 (fun f H locs hM_34 g => ?_)
            have loop_35 : ∀ (n : Nat) (v236_3 : Int32) (w236_14_11_a0_ : Int64), bd 0 4000 v236_3 → (4000 - v236_3.toInt < (n : Int)) → ∀ (f : Nat → va_E) (H : Heap) (locs : List Loc) (ls : Array Slot), G3 (dC, dI) L kd tys s f0 [(14, 6), (14, 7), (14, 8), (14, 9), (14, 10), (14, 11), (14, 12), (14, 13)] [] f H locs [(14, 11, a0_, .long w236_14_11_a0_), (14, 10, a0_, .int y_14), (14, 5, a0_, .int x_7), (14, 8, a0_, .int j31_1), (14, 9, a0_, .int g31_14_9_a0_)] → lv_has ls 4 [(3, .int v236_3), (2, .int r_3), (1, .int j31_1), (0, .ref a0_)] → W p l e ({ frames := 5, cells := 0, slots := 0, locals := 112 } : Room) s m [.ref a0_].toArray below meth c H locs 0 0 Q (F0 m 236 ls []) := by
              intro n236
              induction n236 with
              | zero =>
                intro v236_3 w236_14_11_a0_ bv236_3  hm236 f H locs ls g  hl
                exact absurd hm236 (by have h9_v236_3 := bv236_3; unfold bd at h9_v236_3; omega)
              | succ n236 ih236 =>
                intro v236_3 w236_14_11_a0_ bv236_3  hm236 f H locs ls g  hl
                refine lv_aload_n hx hb dX14_scan_236 rfl (lv_at hl 3 rfl) ?_
                refine lv_iload_n hx hb dX14_scan_237 rfl (lv_at hl 2 rfl) ?_
                refine lv_iload_n hx hb dX14_scan_238 rfl (lv_at hl 0 rfl) ?_
                refine lv_iadd hx hb dX14_scan_239 ?_
                refine lv_topi (fun y_36 ey_36 => ?_)
                have ty_36 := add_bd ey_36 b_12 bv236_3 (by decide)
                have b_37 : bd 0 7999 y_36 := add_rg ty_36 b_12 bv236_3 (by decide)
                refine g_calli (va_runV (As := [.int y_36]) (rest := []) ⟨hx, hb, hml, hown, hts⟩ (r_X14_see l dC dI L kd tys f H.size g.2.2.2.1 a0_ ma0_ ka0_ y_36 (bd_sub b_37 (by decide))) (cwV 1 hts (gV_ t_2364 t_2366 t_93 t_198 t_2367) rfl rfl rfl (by decide +kernel) ⟨(Nat.le_of_ble_eq_true rfl), (Nat.le_of_ble_eq_true rfl)⟩) (pre3V g hK ma0_ ka0_ (by decide) (q := (RX14, TX14, 67)) rfl) rfl rfl hl.1 rfl (lv_room (Nat.le_of_ble_eq_true rfl)) dX14_scan_240 ⟨(Nat.le_of_ble_eq_true rfl), (Nat.le_of_ble_eq_true rfl)⟩) g hK (by decide) (by decide) (fx' := [(14, 11, a0_, .long w236_14_11_a0_), (14, 10, a0_, .int y_14), (14, 5, a0_, .int x_7), (14, 8, a0_, .int j31_1), (14, 9, a0_, .int g31_14_9_a0_)]) rfl (fun r_38 fr_38 H locs hp hMr_38 g => ?_)
                rcases hp with ⟨h_39, -⟩ | ⟨h_40, h_41, x_42, h_43, hF_44⟩
                · obtain rfl : r_38 = (-1) := h_39
                  refine g_calli (va_runS (As := [.int (-1)]) (rest := []) ⟨hx, hb, hml, hown, hts⟩ (r_X14_isDigit l dC dI L kd tys fr_38 H.size g.2.2.2.1 (-1)) (va_cwS 1 hts (gS_ t_2371 t_2372 t_198 t_2373) rfl rfl rfl (by decide +kernel) ⟨(Nat.le_of_ble_eq_true rfl), (Nat.le_of_ble_eq_true rfl)⟩) (pre3S g hK) rfl rfl hl.1 rfl (lv_room (Nat.le_of_ble_eq_true rfl)) dX14_scan_243 ⟨(Nat.le_of_ble_eq_true rfl), (Nat.le_of_ble_eq_true rfl)⟩) g hK (by decide) (by decide) (fx' := [(14, 11, a0_, .long w236_14_11_a0_), (14, 10, a0_, .int y_14), (14, 5, a0_, .int x_7), (14, 8, a0_, .int j31_1), (14, 9, a0_, .int g31_14_9_a0_)]) rfl (fun r_45 fr_45 H locs hp hMr_45 g => ?_)
                  rcases hp with ⟨h_46, -⟩ | ⟨h_47, h_48, -⟩
                  · obtain rfl : r_45 = 0 := h_46
                    refine lv_if_eq (tgt := 293) hx hb dX14_scan_246 (by decide) (fun c_ => ?_) (fun c_ => absurd (by decide) c_)
                    refine lv_aload_n hx hb dX14_scan_293 rfl (lv_at hl 3 rfl) ?_
                    refine lv_iload_n hx hb dX14_scan_294 rfl (lv_at hl 2 rfl) ?_
                    refine lv_iload_n hx hb dX14_scan_295 rfl (lv_at hl 0 rfl) ?_
                    refine lv_iadd hx hb dX14_scan_296 ?_
                    refine lv_topi (fun y_49 ey_49 => ?_)
                    obtain rfl : y_36 = y_49 := ey_36.trans ey_49.symm
                    refine g_put (C := RX14) (T := TX14) (N := 67) hx hb hts (mc_ inX14) tyX14 tyX14_ok nmX14 hown hK g ma0_ ka0_ (by decide) rfl 9 (by decide) (hts _ (List.mem_cons_of_mem _ t_2155)) (fun _ h9 => h9) rfl rfl (okV_i (bd_sub b_37 (by decide))) rfl rfl (by decide) (Or.inr (Or.inl (by decide))) (fx' := [(14, 11, a0_, .long w236_14_11_a0_), (14, 10, a0_, .int y_14), (14, 5, a0_, .int x_7), (14, 8, a0_, .int j31_1)]) rfl dX14_scan_297 (fun f H locs hM_50 g => ?_)
                    refine lv_aload_n hx hb dX14_scan_300 rfl (lv_at hl 3 rfl) ?_
                    refine lv_iload_n hx hb dX14_scan_301 rfl (lv_at hl 0 rfl) ?_
                    refine lv_bipush (v := 9) hx hb dX14_scan_302 (by decide) ?_
                    have kb_9 : bd 9 9 (9 : Int32) := ⟨by decide, by decide⟩
                    refine lv_icmp_le (tgt := 311) hx hb dX14_scan_304 (by decide) (fun c_51 => ?_) (fun c_51 => ?_)
                    · have fc_51 := le_f c_51
                      have b_52 : bd 0 9 v236_3 := leL fc_51 bv236_3 kb_9 (by decide)
                      refine lv_iconst (v := 3) hx hb dX14_scan_311 (by decide) ?_
                      have kb_3 : bd 3 3 (3 : Int32) := ⟨by decide, by decide⟩
                      refine g_put (C := RX14) (T := TX14) (N := 67) hx hb hts (mc_ inX14) tyX14 tyX14_ok nmX14 hown hK g ma0_ ka0_ (by decide) rfl 6 (by decide) (hts _ (List.mem_cons_of_mem _ t_2152)) (fun _ h9 => h9) rfl rfl (okV_i (bd_sub kb_3 (by decide))) rfl rfl (by decide) (Or.inr (Or.inl (by decide))) (fx' := [(14, 9, a0_, .int y_36), (14, 11, a0_, .long w236_14_11_a0_), (14, 10, a0_, .int y_14), (14, 5, a0_, .int x_7), (14, 8, a0_, .int j31_1)]) rfl dX14_scan_312 (fun f H locs hM_53 g => ?_)
                      refine lv_goto (tgt := 324) hx hb dX14_scan_315 (by decide) ?_
                      subst hQ
                      exact W.vret hx hb hr (fun t ht hW => ⟨⟨_, rfl, ⟨y_14, (bd_sub b_15 (by decide)), (g.fcts [3] rfl)⟩, q3_of g hK ht hW⟩, g.2.2.1.F ht⟩) g.2.2.1.2.2 dX14_scan_324
                    · have fc_51 := nle_f c_51
                      have b_54 : bd 10 4000 v236_3 := ltR fc_51 kb_9 bv236_3 (by decide)
                      refine lv_iconst (v := 0) hx hb dX14_scan_307 (by decide) ?_
                      refine lv_goto (tgt := 312) hx hb dX14_scan_308 (by decide) ?_
                      have kb_0 : bd 0 0 (0 : Int32) := ⟨by decide, by decide⟩
                      refine g_put (C := RX14) (T := TX14) (N := 67) hx hb hts (mc_ inX14) tyX14 tyX14_ok nmX14 hown hK g ma0_ ka0_ (by decide) rfl 6 (by decide) (hts _ (List.mem_cons_of_mem _ t_2152)) (fun _ h9 => h9) rfl rfl (okV_i (bd_sub kb_0 (by decide))) rfl rfl (by decide) (Or.inr (Or.inl (by decide))) (fx' := [(14, 9, a0_, .int y_36), (14, 11, a0_, .long w236_14_11_a0_), (14, 10, a0_, .int y_14), (14, 5, a0_, .int x_7), (14, 8, a0_, .int j31_1)]) rfl dX14_scan_312 (fun f H locs hM_55 g => ?_)
                      refine lv_goto (tgt := 324) hx hb dX14_scan_315 (by decide) ?_
                      subst hQ
                      exact W.vret hx hb hr (fun t ht hW => ⟨⟨_, rfl, ⟨y_14, (bd_sub b_15 (by decide)), (g.fcts [3] rfl)⟩, q3_of g hK ht hW⟩, g.2.2.1.F ht⟩) g.2.2.1.2.2 dX14_scan_324
                  · obtain rfl : r_45 = 1 := h_47
                    exact bd_no (eqX rfl h_48 kb_m1 (lo := 48) (hi := (-1)) (by decide)) (by decide)
                · have b_56 : bd 0 3999 y_36 := eqX rfl b_37 h_41 (by decide)
                  have b_57 : bd 0 3999 v236_3 := add_inv2 (ty_36.trans (Int.add_comm _ _)) b_56 bv236_3 b_12 (by decide)
                  have g := g.more hF_44
                  have e_58 := fx_same g 3 0 rfl rfl
                  have g := g.sub (fx' := [(14, 11, a0_, .long w236_14_11_a0_), (14, 10, a0_, .int y_14), (14, 5, a0_, .int x_7), (14, 8, a0_, .int j31_1), (14, 9, a0_, .int g31_14_9_a0_)]) [1, 2, 3, 4, 5] rfl
                  refine g_calli (va_runS (As := [.int r_38]) (rest := []) ⟨hx, hb, hml, hown, hts⟩ (r_X14_isDigit l dC dI L kd tys fr_38 H.size g.2.2.2.1 r_38) (va_cwS 1 hts (gS_ t_2371 t_2372 t_198 t_2373) rfl rfl rfl (by decide +kernel) ⟨(Nat.le_of_ble_eq_true rfl), (Nat.le_of_ble_eq_true rfl)⟩) (pre3S g hK) rfl rfl hl.1 rfl (lv_room (Nat.le_of_ble_eq_true rfl)) dX14_scan_243 ⟨(Nat.le_of_ble_eq_true rfl), (Nat.le_of_ble_eq_true rfl)⟩) g hK (by decide) (by decide) (fx' := [(14, 11, a0_, .long w236_14_11_a0_), (14, 10, a0_, .int y_14), (14, 5, a0_, .int x_7), (14, 8, a0_, .int j31_1), (14, 9, a0_, .int g31_14_9_a0_)]) rfl (fun r_59 fr_59 H locs hp hMr_59 g => ?_)
                  rcases hp with ⟨h_60, -⟩ | ⟨h_61, h_62, -⟩
                  · obtain rfl : r_59 = 0 := h_60
                    refine lv_if_eq (tgt := 293) hx hb dX14_scan_246 (by decide) (fun c_ => ?_) (fun c_ => absurd (by decide) c_)
                    refine lv_aload_n hx hb dX14_scan_293 rfl (lv_at hl 3 rfl) ?_
                    refine lv_iload_n hx hb dX14_scan_294 rfl (lv_at hl 2 rfl) ?_
                    refine lv_iload_n hx hb dX14_scan_295 rfl (lv_at hl 0 rfl) ?_
                    refine lv_iadd hx hb dX14_scan_296 ?_
                    refine lv_topi (fun y_63 ey_63 => ?_)
                    obtain rfl : y_36 = y_63 := ey_36.trans ey_63.symm
                    refine g_put (C := RX14) (T := TX14) (N := 67) hx hb hts (mc_ inX14) tyX14 tyX14_ok nmX14 hown hK g ma0_ ka0_ (by decide) rfl 9 (by decide) (hts _ (List.mem_cons_of_mem _ t_2155)) (fun _ h9 => h9) rfl rfl (okV_i (bd_sub b_56 (by decide))) rfl rfl (by decide) (Or.inr (Or.inl (by decide))) (fx' := [(14, 11, a0_, .long w236_14_11_a0_), (14, 10, a0_, .int y_14), (14, 5, a0_, .int x_7), (14, 8, a0_, .int j31_1)]) rfl dX14_scan_297 (fun f H locs hM_64 g => ?_)
                    refine lv_aload_n hx hb dX14_scan_300 rfl (lv_at hl 3 rfl) ?_
                    refine lv_iload_n hx hb dX14_scan_301 rfl (lv_at hl 0 rfl) ?_
                    refine lv_bipush (v := 9) hx hb dX14_scan_302 (by decide) ?_
                    have kb_9 : bd 9 9 (9 : Int32) := ⟨by decide, by decide⟩
                    refine lv_icmp_le (tgt := 311) hx hb dX14_scan_304 (by decide) (fun c_65 => ?_) (fun c_65 => ?_)
                    · have fc_65 := le_f c_65
                      have b_66 : bd 0 9 v236_3 := leL fc_65 b_57 kb_9 (by decide)
                      refine lv_iconst (v := 3) hx hb dX14_scan_311 (by decide) ?_
                      have kb_3 : bd 3 3 (3 : Int32) := ⟨by decide, by decide⟩
                      refine g_put (C := RX14) (T := TX14) (N := 67) hx hb hts (mc_ inX14) tyX14 tyX14_ok nmX14 hown hK g ma0_ ka0_ (by decide) rfl 6 (by decide) (hts _ (List.mem_cons_of_mem _ t_2152)) (fun _ h9 => h9) rfl rfl (okV_i (bd_sub kb_3 (by decide))) rfl rfl (by decide) (Or.inr (Or.inl (by decide))) (fx' := [(14, 9, a0_, .int y_36), (14, 11, a0_, .long w236_14_11_a0_), (14, 10, a0_, .int y_14), (14, 5, a0_, .int x_7), (14, 8, a0_, .int j31_1)]) rfl dX14_scan_312 (fun f H locs hM_67 g => ?_)
                      refine lv_goto (tgt := 324) hx hb dX14_scan_315 (by decide) ?_
                      subst hQ
                      exact W.vret hx hb hr (fun t ht hW => ⟨⟨_, rfl, ⟨y_14, (bd_sub b_15 (by decide)), (g.fcts [3] rfl)⟩, q3_of g hK ht hW⟩, g.2.2.1.F ht⟩) g.2.2.1.2.2 dX14_scan_324
                    · have fc_65 := nle_f c_65
                      have b_68 : bd 10 3999 v236_3 := ltR fc_65 kb_9 b_57 (by decide)
                      refine lv_iconst (v := 0) hx hb dX14_scan_307 (by decide) ?_
                      refine lv_goto (tgt := 312) hx hb dX14_scan_308 (by decide) ?_
                      have kb_0 : bd 0 0 (0 : Int32) := ⟨by decide, by decide⟩
                      refine g_put (C := RX14) (T := TX14) (N := 67) hx hb hts (mc_ inX14) tyX14 tyX14_ok nmX14 hown hK g ma0_ ka0_ (by decide) rfl 6 (by decide) (hts _ (List.mem_cons_of_mem _ t_2152)) (fun _ h9 => h9) rfl rfl (okV_i (bd_sub kb_0 (by decide))) rfl rfl (by decide) (Or.inr (Or.inl (by decide))) (fx' := [(14, 9, a0_, .int y_36), (14, 11, a0_, .long w236_14_11_a0_), (14, 10, a0_, .int y_14), (14, 5, a0_, .int x_7), (14, 8, a0_, .int j31_1)]) rfl dX14_scan_312 (fun f H locs hM_69 g => ?_)
                      refine lv_goto (tgt := 324) hx hb dX14_scan_315 (by decide) ?_
                      subst hQ
                      exact W.vret hx hb hr (fun t ht hW => ⟨⟨_, rfl, ⟨y_14, (bd_sub b_15 (by decide)), (g.fcts [3] rfl)⟩, q3_of g hK ht hW⟩, g.2.2.1.F ht⟩) g.2.2.1.2.2 dX14_scan_324
                  · obtain rfl : r_59 = 1 := h_61
                    have b_70 : bd 48 57 r_38 := eqX rfl h_40 h_62 (by decide)
                    refine lv_if_eq (tgt := 293) hx hb dX14_scan_246 (by decide) (fun c_ => absurd c_ (by decide)) (fun c_ => ?_)
                    refine lv_aload_n hx hb dX14_scan_249 rfl (lv_at hl 3 rfl) ?_
                    refine lv_iload_n hx hb dX14_scan_250 rfl (lv_at hl 0 rfl) ?_
                    refine lv_bipush (v := 9) hx hb dX14_scan_251 (by decide) ?_
                    have kb_9 : bd 9 9 (9 : Int32) := ⟨by decide, by decide⟩
                    refine lv_icmp_ge (tgt := 280) hx hb dX14_scan_253 (by decide) (fun c_71 => ?_) (fun c_71 => ?_)
                    · have fc_71 := le_f c_71
                      have b_72 : bd 9 3999 v236_3 := leR fc_71 kb_9 b_57 (by decide)
                      refine lv_aload_n hx hb dX14_scan_280 rfl (lv_at hl 3 rfl) ?_
                      refine g_getk (C := RX14) (T := TX14) (N := 67) hx hb hts (mc_ inX14) hown hK g rfl 11 (by decide) rfl (hts _ (List.mem_cons_of_mem _ t_2157)) (fun _ h9 => h9) 0 rfl dX14_scan_281 ?_
                      refine g_put (C := RX14) (T := TX14) (N := 67) hx hb hts (mc_ inX14) tyX14 tyX14_ok nmX14 hown hK g ma0_ ka0_ (by decide) rfl 11 (by decide) (hts _ (List.mem_cons_of_mem _ t_2157)) (fun _ h9 => h9) rfl rfl okV_l rfl rfl (by decide) (Or.inr (Or.inl (by decide))) (fx' := [(14, 10, a0_, .int y_14), (14, 5, a0_, .int x_7), (14, 8, a0_, .int j31_1), (14, 9, a0_, .int g31_14_9_a0_)]) rfl dX14_scan_284 (fun f H locs hM_73 g => ?_)
                      obtain ⟨y_74, ey_74⟩ : ∃ z : Int32, z = v236_3 + 1 := ⟨_, rfl⟩
                      refine lv_iinc (v := y_74) (lv' := [(3, .int y_74), (2, .int r_3), (1, .int j31_1), (0, .ref a0_)]) hx hb dX14_scan_287 hl (k := 0) rfl (by rw [ey_74]; rfl) (by decide) rfl (fun ls hl => ?_)
                      have ty_74 := add_bd ey_74 b_72 kb_1 (by decide)
                      have b_75 : bd 10 4000 y_74 := add_rg ty_74 b_72 kb_1 (by decide)
                      refine lv_goto (tgt := 236) hx hb dX14_scan_290 (by decide) ?_
                      have hl9 := lv_sub hl [0, 1, 2, 3] (by rfl : lv_pick [(3, .int y_74), (2, .int r_3), (1, .int j31_1), (0, .ref a0_)] [0, 1, 2, 3] = [(3, .int y_74), (2, .int r_3), (1, .int j31_1), (0, .ref a0_)])
                      have g9 := g.sub (fx' := [(14, 11, a0_, .long w236_14_11_a0_), (14, 10, a0_, .int y_14), (14, 5, a0_, .int x_7), (14, 8, a0_, .int j31_1), (14, 9, a0_, .int g31_14_9_a0_)]) [0, 1, 2, 3, 4] rfl
                      exact ih236  y_74 w236_14_11_a0_ (bd_sub b_75 (by decide)) (by have h9_0 := b_75; unfold bd at h9_0; have h9_1 := bv236_3; unfold bd at h9_1; have h9_2 := kb_1; unfold bd at h9_2; have h9_3 := kb_9; unfold bd at h9_3; have h9_4 := kb_m1; unfold bd at h9_4; omega) _ _ _ _ g9  hl9
                    · have fc_71 := nle_f c_71
                      have b_76 : bd 0 8 v236_3 := ltL fc_71 b_57 kb_9 (by decide)
                      refine lv_ldc2 (v := 10) hx hb hown (hts _ (List.mem_cons_of_mem _ t_2385)) dX14_scan_256 ?_
                      refine lv_aload_n hx hb dX14_scan_259 rfl (lv_at hl 3 rfl) ?_
                      refine g_getk (C := RX14) (T := TX14) (N := 67) hx hb hts (mc_ inX14) hown hK g rfl 11 (by decide) rfl (hts _ (List.mem_cons_of_mem _ t_2157)) (fun _ h9 => h9) 0 rfl dX14_scan_260 ?_
                      refine lv_lmul hx hb dX14_scan_263 ?_
                      refine lv_topl (fun y_77 ey_77 => ?_)
                      refine lv_aload_n hx hb dX14_scan_264 rfl (lv_at hl 3 rfl) ?_
                      refine lv_iload_n hx hb dX14_scan_265 rfl (lv_at hl 2 rfl) ?_
                      refine lv_iload_n hx hb dX14_scan_266 rfl (lv_at hl 0 rfl) ?_
                      refine lv_iadd hx hb dX14_scan_267 ?_
                      refine lv_topi (fun y_78 ey_78 => ?_)
                      obtain rfl : y_36 = y_78 := ey_36.trans ey_78.symm
                      refine g_calli (va_runV (As := [.int y_36]) (rest := [.long y_77, .ref a0_]) ⟨hx, hb, hml, hown, hts⟩ (r_X14_see l dC dI L kd tys fr_59 H.size g.2.2.2.1 a0_ ma0_ ka0_ y_36 (bd_sub b_56 (by decide))) (cwV 1 hts (gV_ t_2364 t_2366 t_93 t_198 t_2367) rfl rfl rfl (by decide +kernel) ⟨(Nat.le_of_ble_eq_true rfl), (Nat.le_of_ble_eq_true rfl)⟩) (pre3V g hK ma0_ ka0_ (by decide) (q := (RX14, TX14, 67)) rfl) rfl rfl hl.1 rfl (lv_room (Nat.le_of_ble_eq_true rfl)) dX14_scan_268 ⟨(Nat.le_of_ble_eq_true rfl), (Nat.le_of_ble_eq_true rfl)⟩) g hK (by decide) (by decide) (fx' := [(14, 11, a0_, .long w236_14_11_a0_), (14, 10, a0_, .int y_14), (14, 5, a0_, .int x_7), (14, 8, a0_, .int j31_1), (14, 9, a0_, .int g31_14_9_a0_)]) rfl (fun r_79 fr_79 H locs hp hMr_79 g => ?_)
                      rcases hp with ⟨h_80, -⟩ | ⟨h_81, h_82, x_83, h_84, hF_85⟩
                      · obtain rfl : r_79 = (-1) := h_80
                        refine lv_i2l hx hb dX14_scan_271 rfl ?_
                        refine lv_topl (fun y_86 ey_86 => ?_)
                        obtain rfl : y_86 = (-1) := ey_86.trans (by decide)
                        refine lv_ladd hx hb dX14_scan_272 ?_
                        refine lv_topl (fun y_87 ey_87 => ?_)
                        refine lv_ldc2 (v := 48) hx hb hown (hts _ (List.mem_cons_of_mem _ t_2386)) dX14_scan_273 ?_
                        refine lv_lsub hx hb dX14_scan_276 ?_
                        refine lv_topl (fun y_88 ey_88 => ?_)
                        refine lv_goto (tgt := 284) hx hb dX14_scan_277 (by decide) ?_
                        refine g_put (C := RX14) (T := TX14) (N := 67) hx hb hts (mc_ inX14) tyX14 tyX14_ok nmX14 hown hK g ma0_ ka0_ (by decide) rfl 11 (by decide) (hts _ (List.mem_cons_of_mem _ t_2157)) (fun _ h9 => h9) rfl rfl okV_l rfl rfl (by decide) (Or.inr (Or.inl (by decide))) (fx' := [(14, 10, a0_, .int y_14), (14, 5, a0_, .int x_7), (14, 8, a0_, .int j31_1), (14, 9, a0_, .int g31_14_9_a0_)]) rfl dX14_scan_284 (fun f H locs hM_89 g => ?_)
                        obtain ⟨y_90, ey_90⟩ : ∃ z : Int32, z = v236_3 + 1 := ⟨_, rfl⟩
                        refine lv_iinc (v := y_90) (lv' := [(3, .int y_90), (2, .int r_3), (1, .int j31_1), (0, .ref a0_)]) hx hb dX14_scan_287 hl (k := 0) rfl (by rw [ey_90]; rfl) (by decide) rfl (fun ls hl => ?_)
                        have ty_90 := add_bd ey_90 b_76 kb_1 (by decide)
                        have b_91 : bd 1 9 y_90 := add_rg ty_90 b_76 kb_1 (by decide)
                        refine lv_goto (tgt := 236) hx hb dX14_scan_290 (by decide) ?_
                        have hl9 := lv_sub hl [0, 1, 2, 3] (by rfl : lv_pick [(3, .int y_90), (2, .int r_3), (1, .int j31_1), (0, .ref a0_)] [0, 1, 2, 3] = [(3, .int y_90), (2, .int r_3), (1, .int j31_1), (0, .ref a0_)])
                        have g9 := g.sub (fx' := [(14, 11, a0_, .long y_88), (14, 10, a0_, .int y_14), (14, 5, a0_, .int x_7), (14, 8, a0_, .int j31_1), (14, 9, a0_, .int g31_14_9_a0_)]) [0, 1, 2, 3, 4] rfl
                        exact ih236  y_90 y_88 (bd_sub b_91 (by decide)) (by have h9_0 := b_91; unfold bd at h9_0; have h9_1 := bv236_3; unfold bd at h9_1; have h9_2 := kb_1; unfold bd at h9_2; have h9_3 := kb_9; unfold bd at h9_3; have h9_4 := kb_m1; unfold bd at h9_4; omega) _ _ _ _ g9  hl9
                      · have g := g.more hF_85
                        have e_92 := fx_same g 3 0 rfl rfl
                        have g := g.sub (fx' := [(14, 11, a0_, .long w236_14_11_a0_), (14, 10, a0_, .int y_14), (14, 5, a0_, .int x_7), (14, 8, a0_, .int j31_1), (14, 9, a0_, .int g31_14_9_a0_)]) [1, 2, 3, 4, 5] rfl
                        refine lv_i2l hx hb dX14_scan_271 rfl ?_
                        refine lv_topl (fun y_93 ey_93 => ?_)
                        refine lv_ladd hx hb dX14_scan_272 ?_
                        refine lv_topl (fun y_94 ey_94 => ?_)
                        refine lv_ldc2 (v := 48) hx hb hown (hts _ (List.mem_cons_of_mem _ t_2386)) dX14_scan_273 ?_
                        refine lv_lsub hx hb dX14_scan_276 ?_
                        refine lv_topl (fun y_95 ey_95 => ?_)
                        refine lv_goto (tgt := 284) hx hb dX14_scan_277 (by decide) ?_
                        refine g_put (C := RX14) (T := TX14) (N := 67) hx hb hts (mc_ inX14) tyX14 tyX14_ok nmX14 hown hK g ma0_ ka0_ (by decide) rfl 11 (by decide) (hts _ (List.mem_cons_of_mem _ t_2157)) (fun _ h9 => h9) rfl rfl okV_l rfl rfl (by decide) (Or.inr (Or.inl (by decide))) (fx' := [(14, 10, a0_, .int y_14), (14, 5, a0_, .int x_7), (14, 8, a0_, .int j31_1), (14, 9, a0_, .int g31_14_9_a0_)]) rfl dX14_scan_284 (fun f H locs hM_96 g => ?_)
                        obtain ⟨y_97, ey_97⟩ : ∃ z : Int32, z = v236_3 + 1 := ⟨_, rfl⟩
                        refine lv_iinc (v := y_97) (lv' := [(3, .int y_97), (2, .int r_3), (1, .int j31_1), (0, .ref a0_)]) hx hb dX14_scan_287 hl (k := 0) rfl (by rw [ey_97]; rfl) (by decide) rfl (fun ls hl => ?_)
                        have ty_97 := add_bd ey_97 b_76 kb_1 (by decide)
                        have b_98 : bd 1 9 y_97 := add_rg ty_97 b_76 kb_1 (by decide)
                        refine lv_goto (tgt := 236) hx hb dX14_scan_290 (by decide) ?_
                        have hl9 := lv_sub hl [0, 1, 2, 3] (by rfl : lv_pick [(3, .int y_97), (2, .int r_3), (1, .int j31_1), (0, .ref a0_)] [0, 1, 2, 3] = [(3, .int y_97), (2, .int r_3), (1, .int j31_1), (0, .ref a0_)])
                        have g9 := g.sub (fx' := [(14, 11, a0_, .long y_95), (14, 10, a0_, .int y_14), (14, 5, a0_, .int x_7), (14, 8, a0_, .int j31_1), (14, 9, a0_, .int g31_14_9_a0_)]) [0, 1, 2, 3, 4] rfl
                        exact ih236  y_97 y_95 (bd_sub b_98 (by decide)) (by have h9_0 := b_98; unfold bd at h9_0; have h9_1 := bv236_3; unfold bd at h9_1; have h9_2 := kb_1; unfold bd at h9_2; have h9_3 := kb_9; unfold bd at h9_3; have h9_4 := kb_m1; unfold bd at h9_4; omega) _ _ _ _ g9  hl9
            have kb_0 : bd 0 0 (0 : Int32) := ⟨by decide, by decide⟩
            have hl9 := lv_sub hl [0, 1, 2, 3] (by rfl : lv_pick [(3, .int 0), (2, .int r_3), (1, .int j31_1), (0, .ref a0_)] [0, 1, 2, 3] = [(3, .int 0), (2, .int r_3), (1, .int j31_1), (0, .ref a0_)])
            have g9 := g.sub (fx' := [(14, 11, a0_, .long 0), (14, 10, a0_, .int y_14), (14, 5, a0_, .int x_7), (14, 8, a0_, .int j31_1), (14, 9, a0_, .int g31_14_9_a0_)]) [0, 1, 2, 3, 4] rfl
            exact loop_35 (8003) 0 0 (bd_sub kb_0 (by decide)) (by have h9_0 := kb_0; unfold bd at h9_0; have h9_1 := kb_1; unfold bd at h9_1; have h9_2 := kb_m1; unfold bd at h9_2; omega) _ _ _ _ g9  hl9
        · obtain rfl : r_17 = 1 := h_19
          have b_99 : bd 97 122 r_3 := eqX rfl h_5 h_20 (by decide)
          refine lv_if_eq (tgt := 222) hx hb dX14_scan_72 (by decide) (fun c_ => absurd c_ (by decide)) (fun c_ => ?_)
          refine lv_iload_n hx hb dX14_scan_75 rfl (lv_at hl 1 rfl) ?_
          refine lv_istore_n (lv' := [(3, .int j31_1), (2, .int r_3), (1, .int j31_1), (0, .ref a0_)]) hx hb dX14_scan_76 rfl hl (by decide) rfl (fun ls hl => ?_)
          have loop_100 : ∀ (n : Nat) (v77_3 : Int32), bd 0 4000 v77_3 → (4000 - v77_3.toInt < (n : Int)) → ∀ (f : Nat → va_E) (H : Heap) (locs : List Loc) (ls : Array Slot), G3 (dC, dI) L kd tys s f0 [(14, 6), (14, 7), (14, 8), (14, 9), (14, 10), (14, 11), (14, 12), (14, 13)] [] f H locs [(14, 10, a0_, .int y_14), (14, 5, a0_, .int x_7), (14, 8, a0_, .int j31_1), (14, 9, a0_, .int g31_14_9_a0_)] → lv_has ls 4 [(3, .int v77_3), (2, .int r_3), (1, .int j31_1), (0, .ref a0_)] → W p l e ({ frames := 5, cells := 0, slots := 0, locals := 112 } : Room) s m [.ref a0_].toArray below meth c H locs 0 0 Q (F0 m 77 ls []) := by
            intro n77
            induction n77 with
            | zero =>
              intro v77_3 bv77_3 hm77 f H locs ls g  hl
              exact absurd hm77 (by have h9_v77_3 := bv77_3; unfold bd at h9_v77_3; omega)
            | succ n77 ih77 =>
              intro v77_3 bv77_3 hm77 f H locs ls g  hl
              refine lv_aload_n hx hb dX14_scan_77 rfl (lv_at hl 3 rfl) ?_
              refine lv_iload_n hx hb dX14_scan_78 rfl (lv_at hl 0 rfl) ?_
              refine g_calli (va_runV (As := [.int v77_3]) (rest := []) ⟨hx, hb, hml, hown, hts⟩ (r_X14_see l dC dI L kd tys f H.size g.2.2.2.1 a0_ ma0_ ka0_ v77_3 (bd_sub bv77_3 (by decide))) (cwV 1 hts (gV_ t_2364 t_2366 t_93 t_198 t_2367) rfl rfl rfl (by decide +kernel) ⟨(Nat.le_of_ble_eq_true rfl), (Nat.le_of_ble_eq_true rfl)⟩) (pre3V g hK ma0_ ka0_ (by decide) (q := (RX14, TX14, 67)) rfl) rfl rfl hl.1 rfl (lv_room (Nat.le_of_ble_eq_true rfl)) dX14_scan_79 ⟨(Nat.le_of_ble_eq_true rfl), (Nat.le_of_ble_eq_true rfl)⟩) g hK (by decide) (by decide) (fx' := [(14, 10, a0_, .int y_14), (14, 5, a0_, .int x_7), (14, 8, a0_, .int j31_1), (14, 9, a0_, .int g31_14_9_a0_)]) rfl (fun r_101 fr_101 H locs hp hMr_101 g => ?_)
              rcases hp with ⟨h_102, -⟩ | ⟨h_103, h_104, x_105, h_106, hF_107⟩
              · obtain rfl : r_101 = (-1) := h_102
                refine g_calli (va_runS (As := [.int (-1)]) (rest := []) ⟨hx, hb, hml, hown, hts⟩ (r_X14_isSmall l dC dI L kd tys fr_101 H.size g.2.2.2.1 (-1)) (va_cwS 1 hts (gS_ t_2368 t_2369 t_198 t_2370) rfl rfl rfl (by decide +kernel) ⟨(Nat.le_of_ble_eq_true rfl), (Nat.le_of_ble_eq_true rfl)⟩) (pre3S g hK) rfl rfl hl.1 rfl (lv_room (Nat.le_of_ble_eq_true rfl)) dX14_scan_82 ⟨(Nat.le_of_ble_eq_true rfl), (Nat.le_of_ble_eq_true rfl)⟩) g hK (by decide) (by decide) (fx' := [(14, 10, a0_, .int y_14), (14, 5, a0_, .int x_7), (14, 8, a0_, .int j31_1), (14, 9, a0_, .int g31_14_9_a0_)]) rfl (fun r_108 fr_108 H locs hp hMr_108 g => ?_)
                rcases hp with ⟨h_109, -⟩ | ⟨h_110, h_111, -⟩
                · obtain rfl : r_108 = 0 := h_109
                  refine lv_if_ne (tgt := 109) hx hb dX14_scan_85 (by decide) (fun c_ => absurd c_ (by decide)) (fun c_ => ?_)
                  refine lv_aload_n hx hb dX14_scan_88 rfl (lv_at hl 3 rfl) ?_
                  refine lv_iload_n hx hb dX14_scan_89 rfl (lv_at hl 0 rfl) ?_
                  refine g_calli (va_runV (As := [.int v77_3]) (rest := []) ⟨hx, hb, hml, hown, hts⟩ (r_X14_see l dC dI L kd tys fr_108 H.size g.2.2.2.1 a0_ ma0_ ka0_ v77_3 (bd_sub bv77_3 (by decide))) (cwV 1 hts (gV_ t_2364 t_2366 t_93 t_198 t_2367) rfl rfl rfl (by decide +kernel) ⟨(Nat.le_of_ble_eq_true rfl), (Nat.le_of_ble_eq_true rfl)⟩) (pre3V g hK ma0_ ka0_ (by decide) (q := (RX14, TX14, 67)) rfl) rfl rfl hl.1 rfl (lv_room (Nat.le_of_ble_eq_true rfl)) dX14_scan_90 ⟨(Nat.le_of_ble_eq_true rfl), (Nat.le_of_ble_eq_true rfl)⟩) g hK (by decide) (by decide) (fx' := [(14, 10, a0_, .int y_14), (14, 5, a0_, .int x_7), (14, 8, a0_, .int j31_1), (14, 9, a0_, .int g31_14_9_a0_)]) rfl (fun r_112 fr_112 H locs hp hMr_112 g => ?_)
                  rcases hp with ⟨h_113, -⟩ | ⟨h_114, h_115, x_116, h_117, hF_118⟩
                  · obtain rfl : r_112 = (-1) := h_113
                    refine g_calli (va_runS (As := [.int (-1)]) (rest := []) ⟨hx, hb, hml, hown, hts⟩ (r_X14_isDigit l dC dI L kd tys fr_112 H.size g.2.2.2.1 (-1)) (va_cwS 1 hts (gS_ t_2371 t_2372 t_198 t_2373) rfl rfl rfl (by decide +kernel) ⟨(Nat.le_of_ble_eq_true rfl), (Nat.le_of_ble_eq_true rfl)⟩) (pre3S g hK) rfl rfl hl.1 rfl (lv_room (Nat.le_of_ble_eq_true rfl)) dX14_scan_93 ⟨(Nat.le_of_ble_eq_true rfl), (Nat.le_of_ble_eq_true rfl)⟩) g hK (by decide) (by decide) (fx' := [(14, 10, a0_, .int y_14), (14, 5, a0_, .int x_7), (14, 8, a0_, .int j31_1), (14, 9, a0_, .int g31_14_9_a0_)]) rfl (fun r_119 fr_119 H locs hp hMr_119 g => ?_)
                    rcases hp with ⟨h_120, -⟩ | ⟨h_121, h_122, -⟩
                    · obtain rfl : r_119 = 0 := h_120
                      refine lv_if_ne (tgt := 109) hx hb dX14_scan_96 (by decide) (fun c_ => absurd c_ (by decide)) (fun c_ => ?_)
                      refine lv_aload_n hx hb dX14_scan_99 rfl (lv_at hl 3 rfl) ?_
                      refine lv_iload_n hx hb dX14_scan_100 rfl (lv_at hl 0 rfl) ?_
                      refine g_calli (va_runV (As := [.int v77_3]) (rest := []) ⟨hx, hb, hml, hown, hts⟩ (r_X14_see l dC dI L kd tys fr_119 H.size g.2.2.2.1 a0_ ma0_ ka0_ v77_3 (bd_sub bv77_3 (by decide))) (cwV 1 hts (gV_ t_2364 t_2366 t_93 t_198 t_2367) rfl rfl rfl (by decide +kernel) ⟨(Nat.le_of_ble_eq_true rfl), (Nat.le_of_ble_eq_true rfl)⟩) (pre3V g hK ma0_ ka0_ (by decide) (q := (RX14, TX14, 67)) rfl) rfl rfl hl.1 rfl (lv_room (Nat.le_of_ble_eq_true rfl)) dX14_scan_101 ⟨(Nat.le_of_ble_eq_true rfl), (Nat.le_of_ble_eq_true rfl)⟩) g hK (by decide) (by decide) (fx' := [(14, 10, a0_, .int y_14), (14, 5, a0_, .int x_7), (14, 8, a0_, .int j31_1), (14, 9, a0_, .int g31_14_9_a0_)]) rfl (fun r_123 fr_123 H locs hp hMr_123 g => ?_)
                      rcases hp with ⟨h_124, -⟩ | ⟨h_125, h_126, x_127, h_128, hF_129⟩
                      · obtain rfl : r_123 = (-1) := h_124
                        refine lv_bipush (v := 95) hx hb dX14_scan_104 (by decide) ?_
                        refine lv_icmp_ne (tgt := 115) hx hb dX14_scan_106 (by decide) (fun c_ => ?_) (fun c_ => absurd c_ (by decide))
                        refine lv_aload_n hx hb dX14_scan_115 rfl (lv_at hl 3 rfl) ?_
                        refine lv_iload_n hx hb dX14_scan_116 rfl (lv_at hl 0 rfl) ?_
                        refine g_put (C := RX14) (T := TX14) (N := 67) hx hb hts (mc_ inX14) tyX14 tyX14_ok nmX14 hown hK g ma0_ ka0_ (by decide) rfl 9 (by decide) (hts _ (List.mem_cons_of_mem _ t_2155)) (fun _ h9 => h9) rfl rfl (okV_i (bd_sub bv77_3 (by decide))) rfl rfl (by decide) (Or.inr (Or.inl (by decide))) (fx' := [(14, 10, a0_, .int y_14), (14, 5, a0_, .int x_7), (14, 8, a0_, .int j31_1)]) rfl dX14_scan_117 (fun f H locs hM_130 g => ?_)
                        refine lv_aload_n hx hb dX14_scan_120 rfl (lv_at hl 3 rfl) ?_
                        refine lv_aload_n hx hb dX14_scan_121 rfl (lv_at hl 3 rfl) ?_
                        refine lv_iload_n hx hb dX14_scan_122 rfl (lv_at hl 2 rfl) ?_
                        refine lv_iload_n hx hb dX14_scan_123 rfl (lv_at hl 0 rfl) ?_
                        refine lv_iload_n hx hb dX14_scan_124 rfl (lv_at hl 2 rfl) ?_
                        refine lv_isub hx hb dX14_scan_125 ?_
                        refine lv_topi (fun y_131 ey_131 => ?_)
                        have ty_131 := sub_bd ey_131 bv77_3 b_12 (by decide)
                        have b_132 : bd (-3999) 4000 y_131 := sub_rg ty_131 bv77_3 b_12 (by decide)
                        refine g_calli (va_runV (As := [.int j31_1, .int y_131]) (rest := [.ref a0_]) ⟨hx, hb, hml, hown, hts⟩ (r_X14_keyAt l dC dI L kd tys f H.size g.2.2.2.1 adK adV a0_ ma0_ ka0_ j31_1 b_12 y_131 (bd_sub b_132 (by decide))) (cwV 2 hts (gV_ t_2374 t_2376 t_94 t_198 t_2377) rfl rfl rfl (by decide +kernel) ⟨(Nat.le_of_ble_eq_true rfl), (Nat.le_of_ble_eq_true rfl)⟩) (pre3VA g hK hAm ma0_ ka0_ (by decide) (q := (RX14, TX14, 67)) rfl) rfl rfl hl.1 rfl (lv_room (Nat.le_of_ble_eq_true rfl)) dX14_scan_126 ⟨(Nat.le_of_ble_eq_true rfl), (Nat.le_of_ble_eq_true rfl)⟩) g hK (by decide) (by decide) (fx' := [(14, 9, a0_, .int v77_3), (14, 10, a0_, .int y_14), (14, 5, a0_, .int x_7), (14, 8, a0_, .int j31_1)]) rfl (fun r_133 fr_133 H locs hp hMr_133 g => ?_)
                        refine g_put (C := RX14) (T := TX14) (N := 67) hx hb hts (mc_ inX14) tyX14 tyX14_ok nmX14 hown hK g ma0_ ka0_ (by decide) rfl 7 (by decide) (hts _ (List.mem_cons_of_mem _ t_2153)) (fun _ h9 => h9) rfl rfl (okV_i (bdT r_133)) rfl rfl (by decide) (Or.inr (Or.inl (by decide))) (fx' := [(14, 9, a0_, .int v77_3), (14, 10, a0_, .int y_14), (14, 5, a0_, .int x_7), (14, 8, a0_, .int j31_1)]) rfl dX14_scan_129 (fun f H locs hM_134 g => ?_)
                        refine lv_aload_n hx hb dX14_scan_132 rfl (lv_at hl 3 rfl) ?_
                        refine lv_aload_n hx hb dX14_scan_133 rfl (lv_at hl 3 rfl) ?_
                        refine g_getk (C := RX14) (T := TX14) (N := 67) hx hb hts (mc_ inX14) hown hK g rfl 7 (by decide) rfl (hts _ (List.mem_cons_of_mem _ t_2153)) (fun _ h9 => h9) 0 rfl dX14_scan_134 ?_
                        refine lv_iconst (v := (-1)) hx hb dX14_scan_137 (by decide) ?_
                        refine lv_icmp_eq (tgt := 145) hx hb dX14_scan_138 (by decide) (fun c_135 => ?_) (fun c_135 => ?_)
                        · have fc_135 := eq_f c_135
                          have b_136 : bd (-1) (-1) r_133 := eqX fc_135 (bdT r_133) kb_m1 (by decide)
                          refine lv_iload_n hx hb dX14_scan_145 rfl (lv_at hl 0 rfl) ?_
                          refine lv_iload_n hx hb dX14_scan_146 rfl (lv_at hl 2 rfl) ?_
                          refine lv_isub hx hb dX14_scan_147 ?_
                          refine lv_topi (fun y_137 ey_137 => ?_)
                          obtain rfl : y_131 = y_137 := ey_131.trans ey_137.symm
                          refine lv_bipush (v := 12) hx hb dX14_scan_148 (by decide) ?_
                          have kb_12 : bd 12 12 (12 : Int32) := ⟨by decide, by decide⟩
                          refine lv_icmp_le (tgt := 157) hx hb dX14_scan_150 (by decide) (fun c_138 => ?_) (fun c_138 => ?_)
                          · have fc_138 := le_f c_138
                            have b_139 : bd (-3999) 12 y_131 := leL fc_138 b_132 kb_12 (by decide)
                            refine lv_iconst (v := 1) hx hb dX14_scan_157 (by decide) ?_
                            refine g_put (C := RX14) (T := TX14) (N := 67) hx hb hts (mc_ inX14) tyX14 tyX14_ok nmX14 hown hK g ma0_ ka0_ (by decide) rfl 6 (by decide) (hts _ (List.mem_cons_of_mem _ t_2152)) (fun _ h9 => h9) rfl rfl (okV_i (bd_sub kb_1 (by decide))) rfl rfl (by decide) (Or.inr (Or.inl (by decide))) (fx' := [(14, 7, a0_, .int r_133), (14, 9, a0_, .int v77_3), (14, 10, a0_, .int y_14), (14, 5, a0_, .int x_7), (14, 8, a0_, .int j31_1)]) rfl dX14_scan_158 (fun f H locs hM_140 g => ?_)
                            refine lv_aload_n hx hb dX14_scan_161 rfl (lv_at hl 3 rfl) ?_
                            refine lv_aload_n hx hb dX14_scan_162 rfl (lv_at hl 3 rfl) ?_
                            refine lv_iload_n hx hb dX14_scan_163 rfl (lv_at hl 2 rfl) ?_
                            refine lv_iload_n hx hb dX14_scan_164 rfl (lv_at hl 0 rfl) ?_
                            refine lv_iload_n hx hb dX14_scan_165 rfl (lv_at hl 2 rfl) ?_
                            refine lv_bipush (v := 6) hx hb dX14_scan_166 (by decide) ?_
                            have kb_6 : bd 6 6 (6 : Int32) := ⟨by decide, by decide⟩
                            refine lv_iadd hx hb dX14_scan_168 ?_
                            refine lv_topi (fun y_141 ey_141 => ?_)
                            have ty_141 := add_bd ey_141 b_12 kb_6 (by decide)
                            have b_142 : bd 6 4005 y_141 := add_rg ty_141 b_12 kb_6 (by decide)
                            refine lv_icmp_ge (tgt := 176) hx hb dX14_scan_169 (by decide) (fun c_143 => ?_) (fun c_143 => ?_)
                            · have fc_143 := le_f c_143
                              have b_144 : bd 6 4000 y_141 := leL fc_143 b_142 bv77_3 (by decide)
                              have b_145 : bd 0 3994 j31_1 := add_inv ty_141 b_144 b_12 kb_6 (by decide)
                              have b_146 : bd 6 4000 v77_3 := leR fc_143 b_142 bv77_3 (by decide)
                              refine lv_iload_n hx hb dX14_scan_176 rfl (lv_at hl 2 rfl) ?_
                              refine lv_bipush (v := 6) hx hb dX14_scan_177 (by decide) ?_
                              refine lv_iadd hx hb dX14_scan_179 ?_
                              refine lv_topi (fun y_147 ey_147 => ?_)
                              obtain rfl : y_141 = y_147 := ey_141.trans ey_147.symm
                              refine g_calll (va_runV (As := [.int j31_1, .int y_141]) (rest := [.ref a0_]) ⟨hx, hb, hml, hown, hts⟩ (r_X14_letters l dC dI L kd tys f H.size g.2.2.2.1 a0_ ma0_ ka0_ j31_1 (bd_sub b_145 (by decide)) y_141 (bd_sub b_144 (by decide))) (cwV 2 hts (gV_ t_2381 t_2383 t_95 t_198 t_2384) rfl rfl rfl (by decide +kernel) ⟨(Nat.le_of_ble_eq_true rfl), (Nat.le_of_ble_eq_true rfl)⟩) (pre3V g hK ma0_ ka0_ (by decide) (q := (RX14, TX14, 67)) rfl) rfl rfl hl.1 rfl (lv_room (Nat.le_of_ble_eq_true rfl)) dX14_scan_180 ⟨(Nat.le_of_ble_eq_true rfl), (Nat.le_of_ble_eq_true rfl)⟩) g hK (by decide) (by decide) (fx' := [(14, 6, a0_, .int 1), (14, 7, a0_, .int r_133), (14, 9, a0_, .int v77_3), (14, 10, a0_, .int y_14), (14, 5, a0_, .int x_7), (14, 8, a0_, .int j31_1)]) rfl (fun r_148 fr_148 H locs hp hMr_148 g => ?_)
                              refine g_put (C := RX14) (T := TX14) (N := 67) hx hb hts (mc_ inX14) tyX14 tyX14_ok nmX14 hown hK g ma0_ ka0_ (by decide) rfl 12 (by decide) (hts _ (List.mem_cons_of_mem _ t_2158)) (fun _ h9 => h9) rfl rfl okV_l rfl rfl (by decide) (Or.inr (Or.inl (by decide))) (fx' := [(14, 6, a0_, .int 1), (14, 7, a0_, .int r_133), (14, 9, a0_, .int v77_3), (14, 10, a0_, .int y_14), (14, 5, a0_, .int x_7), (14, 8, a0_, .int j31_1)]) rfl dX14_scan_183 (fun f H locs hM_149 g => ?_)
                              refine lv_aload_n hx hb dX14_scan_186 rfl (lv_at hl 3 rfl) ?_
                              refine lv_iload_n hx hb dX14_scan_187 rfl (lv_at hl 0 rfl) ?_
                              refine lv_iload_n hx hb dX14_scan_188 rfl (lv_at hl 2 rfl) ?_
                              refine lv_bipush (v := 6) hx hb dX14_scan_189 (by decide) ?_
                              refine lv_iadd hx hb dX14_scan_191 ?_
                              refine lv_topi (fun y_150 ey_150 => ?_)
                              obtain rfl : y_141 = y_150 := ey_141.trans ey_150.symm
                              refine lv_icmp_le (tgt := 215) hx hb dX14_scan_192 (by decide) (fun c_151 => ?_) (fun c_151 => ?_)
                              · have fc_151 := le_f c_151
                                refine lv_lconst (v := 0) hx hb dX14_scan_215 (by decide) ?_
                                refine g_put (C := RX14) (T := TX14) (N := 67) hx hb hts (mc_ inX14) tyX14 tyX14_ok nmX14 hown hK g ma0_ ka0_ (by decide) rfl 13 (by decide) (hts _ (List.mem_cons_of_mem _ t_2159)) (fun _ h9 => h9) rfl rfl okV_l rfl rfl (by decide) (Or.inr (Or.inl (by decide))) (fx' := [(14, 12, a0_, .long r_148), (14, 6, a0_, .int 1), (14, 7, a0_, .int r_133), (14, 9, a0_, .int v77_3), (14, 10, a0_, .int y_14), (14, 5, a0_, .int x_7), (14, 8, a0_, .int j31_1)]) rfl dX14_scan_216 (fun f H locs hM_152 g => ?_)
                                refine lv_goto (tgt := 324) hx hb dX14_scan_219 (by decide) ?_
                                subst hQ
                                exact W.vret hx hb hr (fun t ht hW => ⟨⟨_, rfl, ⟨y_14, (bd_sub b_15 (by decide)), (g.fcts [5] rfl)⟩, q3_of g hK ht hW⟩, g.2.2.1.F ht⟩) g.2.2.1.2.2 dX14_scan_324
                              · have fc_151 := nle_f c_151
                                have b_153 : bd 6 3999 y_141 := ltL fc_151 b_144 b_146 (by decide)
                                have b_154 : bd 0 3993 j31_1 := add_inv ty_141 b_153 b_145 kb_6 (by decide)
                                have b_155 : bd 7 4000 v77_3 := ltR fc_151 b_144 b_146 (by decide)
                                refine lv_iload_n hx hb dX14_scan_195 rfl (lv_at hl 0 rfl) ?_
                                refine lv_iload_n hx hb dX14_scan_196 rfl (lv_at hl 2 rfl) ?_
                                refine lv_bipush (v := 12) hx hb dX14_scan_197 (by decide) ?_
                                refine lv_iadd hx hb dX14_scan_199 ?_
                                refine lv_topi (fun y_156 ey_156 => ?_)
                                have ty_156 := add_bd ey_156 b_154 kb_12 (by decide)
                                have b_157 : bd 12 4005 y_156 := add_rg ty_156 b_154 kb_12 (by decide)
                                refine lv_icmp_gt (tgt := 215) hx hb dX14_scan_200 (by decide) (fun c_158 => ?_) (fun c_158 => ?_)
                                · have fc_158 := lt_f c_158
                                  have b_159 : bd 12 3999 y_156 := ltL fc_158 b_157 b_155 (by decide)
                                  have b_160 : bd 0 3987 j31_1 := add_inv ty_156 b_159 b_154 kb_12 (by decide)
                                  have b_161 : bd 13 4000 v77_3 := ltR fc_158 b_157 b_155 (by decide)
                                  refine lv_lconst (v := 0) hx hb dX14_scan_215 (by decide) ?_
                                  refine g_put (C := RX14) (T := TX14) (N := 67) hx hb hts (mc_ inX14) tyX14 tyX14_ok nmX14 hown hK g ma0_ ka0_ (by decide) rfl 13 (by decide) (hts _ (List.mem_cons_of_mem _ t_2159)) (fun _ h9 => h9) rfl rfl okV_l rfl rfl (by decide) (Or.inr (Or.inl (by decide))) (fx' := [(14, 12, a0_, .long r_148), (14, 6, a0_, .int 1), (14, 7, a0_, .int r_133), (14, 9, a0_, .int v77_3), (14, 10, a0_, .int y_14), (14, 5, a0_, .int x_7), (14, 8, a0_, .int j31_1)]) rfl dX14_scan_216 (fun f H locs hM_162 g => ?_)
                                  refine lv_goto (tgt := 324) hx hb dX14_scan_219 (by decide) ?_
                                  subst hQ
                                  exact W.vret hx hb hr (fun t ht hW => ⟨⟨_, rfl, ⟨y_14, (bd_sub b_15 (by decide)), (g.fcts [5] rfl)⟩, q3_of g hK ht hW⟩, g.2.2.1.F ht⟩) g.2.2.1.2.2 dX14_scan_324
                                · have fc_158 := nlt_f c_158
                                  refine lv_aload_n hx hb dX14_scan_203 rfl (lv_at hl 3 rfl) ?_
                                  refine lv_iload_n hx hb dX14_scan_204 rfl (lv_at hl 2 rfl) ?_
                                  refine lv_bipush (v := 6) hx hb dX14_scan_205 (by decide) ?_
                                  refine lv_iadd hx hb dX14_scan_207 ?_
                                  refine lv_topi (fun y_163 ey_163 => ?_)
                                  obtain rfl : y_141 = y_163 := ey_141.trans ey_163.symm
                                  refine lv_iload_n hx hb dX14_scan_208 rfl (lv_at hl 0 rfl) ?_
                                  refine g_calll (va_runV (As := [.int y_141, .int v77_3]) (rest := [.ref a0_]) ⟨hx, hb, hml, hown, hts⟩ (r_X14_letters l dC dI L kd tys f H.size g.2.2.2.1 a0_ ma0_ ka0_ y_141 (bd_sub b_153 (by decide)) v77_3 (bd_sub b_155 (by decide))) (cwV 2 hts (gV_ t_2381 t_2383 t_95 t_198 t_2384) rfl rfl rfl (by decide +kernel) ⟨(Nat.le_of_ble_eq_true rfl), (Nat.le_of_ble_eq_true rfl)⟩) (pre3V g hK ma0_ ka0_ (by decide) (q := (RX14, TX14, 67)) rfl) rfl rfl hl.1 rfl (lv_room (Nat.le_of_ble_eq_true rfl)) dX14_scan_209 ⟨(Nat.le_of_ble_eq_true rfl), (Nat.le_of_ble_eq_true rfl)⟩) g hK (by decide) (by decide) (fx' := [(14, 12, a0_, .long r_148), (14, 6, a0_, .int 1), (14, 7, a0_, .int r_133), (14, 9, a0_, .int v77_3), (14, 10, a0_, .int y_14), (14, 5, a0_, .int x_7), (14, 8, a0_, .int j31_1)]) rfl (fun r_164 fr_164 H locs hp hMr_164 g => ?_)
                                  refine lv_goto (tgt := 216) hx hb dX14_scan_212 (by decide) ?_
                                  refine g_put (C := RX14) (T := TX14) (N := 67) hx hb hts (mc_ inX14) tyX14 tyX14_ok nmX14 hown hK g ma0_ ka0_ (by decide) rfl 13 (by decide) (hts _ (List.mem_cons_of_mem _ t_2159)) (fun _ h9 => h9) rfl rfl okV_l rfl rfl (by decide) (Or.inr (Or.inl (by decide))) (fx' := [(14, 12, a0_, .long r_148), (14, 6, a0_, .int 1), (14, 7, a0_, .int r_133), (14, 9, a0_, .int v77_3), (14, 10, a0_, .int y_14), (14, 5, a0_, .int x_7), (14, 8, a0_, .int j31_1)]) rfl dX14_scan_216 (fun f H locs hM_165 g => ?_)
                                  refine lv_goto (tgt := 324) hx hb dX14_scan_219 (by decide) ?_
                                  subst hQ
                                  exact W.vret hx hb hr (fun t ht hW => ⟨⟨_, rfl, ⟨y_14, (bd_sub b_15 (by decide)), (g.fcts [5] rfl)⟩, q3_of g hK ht hW⟩, g.2.2.1.F ht⟩) g.2.2.1.2.2 dX14_scan_324
                            · have fc_143 := nle_f c_143
                              refine lv_iload_n hx hb dX14_scan_172 rfl (lv_at hl 0 rfl) ?_
                              refine lv_goto (tgt := 180) hx hb dX14_scan_173 (by decide) ?_
                              refine g_calll (va_runV (As := [.int j31_1, .int v77_3]) (rest := [.ref a0_]) ⟨hx, hb, hml, hown, hts⟩ (r_X14_letters l dC dI L kd tys f H.size g.2.2.2.1 a0_ ma0_ ka0_ j31_1 (bd_sub b_12 (by decide)) v77_3 (bd_sub bv77_3 (by decide))) (cwV 2 hts (gV_ t_2381 t_2383 t_95 t_198 t_2384) rfl rfl rfl (by decide +kernel) ⟨(Nat.le_of_ble_eq_true rfl), (Nat.le_of_ble_eq_true rfl)⟩) (pre3V g hK ma0_ ka0_ (by decide) (q := (RX14, TX14, 67)) rfl) rfl rfl hl.1 rfl (lv_room (Nat.le_of_ble_eq_true rfl)) dX14_scan_180 ⟨(Nat.le_of_ble_eq_true rfl), (Nat.le_of_ble_eq_true rfl)⟩) g hK (by decide) (by decide) (fx' := [(14, 6, a0_, .int 1), (14, 7, a0_, .int r_133), (14, 9, a0_, .int v77_3), (14, 10, a0_, .int y_14), (14, 5, a0_, .int x_7), (14, 8, a0_, .int j31_1)]) rfl (fun r_166 fr_166 H locs hp hMr_166 g => ?_)
                              refine g_put (C := RX14) (T := TX14) (N := 67) hx hb hts (mc_ inX14) tyX14 tyX14_ok nmX14 hown hK g ma0_ ka0_ (by decide) rfl 12 (by decide) (hts _ (List.mem_cons_of_mem _ t_2158)) (fun _ h9 => h9) rfl rfl okV_l rfl rfl (by decide) (Or.inr (Or.inl (by decide))) (fx' := [(14, 6, a0_, .int 1), (14, 7, a0_, .int r_133), (14, 9, a0_, .int v77_3), (14, 10, a0_, .int y_14), (14, 5, a0_, .int x_7), (14, 8, a0_, .int j31_1)]) rfl dX14_scan_183 (fun f H locs hM_167 g => ?_)
                              refine lv_aload_n hx hb dX14_scan_186 rfl (lv_at hl 3 rfl) ?_
                              refine lv_iload_n hx hb dX14_scan_187 rfl (lv_at hl 0 rfl) ?_
                              refine lv_iload_n hx hb dX14_scan_188 rfl (lv_at hl 2 rfl) ?_
                              refine lv_bipush (v := 6) hx hb dX14_scan_189 (by decide) ?_
                              refine lv_iadd hx hb dX14_scan_191 ?_
                              refine lv_topi (fun y_168 ey_168 => ?_)
                              obtain rfl : y_141 = y_168 := ey_141.trans ey_168.symm
                              refine lv_icmp_le (tgt := 215) hx hb dX14_scan_192 (by decide) (fun c_169 => ?_) (fun c_169 => ?_)
                              · have fc_169 := le_f c_169
                                refine lv_lconst (v := 0) hx hb dX14_scan_215 (by decide) ?_
                                refine g_put (C := RX14) (T := TX14) (N := 67) hx hb hts (mc_ inX14) tyX14 tyX14_ok nmX14 hown hK g ma0_ ka0_ (by decide) rfl 13 (by decide) (hts _ (List.mem_cons_of_mem _ t_2159)) (fun _ h9 => h9) rfl rfl okV_l rfl rfl (by decide) (Or.inr (Or.inl (by decide))) (fx' := [(14, 12, a0_, .long r_166), (14, 6, a0_, .int 1), (14, 7, a0_, .int r_133), (14, 9, a0_, .int v77_3), (14, 10, a0_, .int y_14), (14, 5, a0_, .int x_7), (14, 8, a0_, .int j31_1)]) rfl dX14_scan_216 (fun f H locs hM_170 g => ?_)
                                refine lv_goto (tgt := 324) hx hb dX14_scan_219 (by decide) ?_
                                subst hQ
                                exact W.vret hx hb hr (fun t ht hW => ⟨⟨_, rfl, ⟨y_14, (bd_sub b_15 (by decide)), (g.fcts [5] rfl)⟩, q3_of g hK ht hW⟩, g.2.2.1.F ht⟩) g.2.2.1.2.2 dX14_scan_324
                              · have fc_169 := nle_f c_169
                                have b_171 : bd 6 3999 y_141 := ltL fc_169 b_142 bv77_3 (by decide)
                                have b_172 : bd 0 3993 j31_1 := add_inv ty_141 b_171 b_12 kb_6 (by decide)
                                have b_173 : bd 7 4000 v77_3 := ltR fc_169 b_142 bv77_3 (by decide)
                                refine lv_iload_n hx hb dX14_scan_195 rfl (lv_at hl 0 rfl) ?_
                                refine lv_iload_n hx hb dX14_scan_196 rfl (lv_at hl 2 rfl) ?_
                                refine lv_bipush (v := 12) hx hb dX14_scan_197 (by decide) ?_
                                refine lv_iadd hx hb dX14_scan_199 ?_
                                refine lv_topi (fun y_174 ey_174 => ?_)
                                have ty_174 := add_bd ey_174 b_172 kb_12 (by decide)
                                have b_175 : bd 12 4005 y_174 := add_rg ty_174 b_172 kb_12 (by decide)
                                refine lv_icmp_gt (tgt := 215) hx hb dX14_scan_200 (by decide) (fun c_176 => ?_) (fun c_176 => ?_)
                                · have fc_176 := lt_f c_176
                                  have b_177 : bd 12 3999 y_174 := ltL fc_176 b_175 b_173 (by decide)
                                  have b_178 : bd 0 3987 j31_1 := add_inv ty_174 b_177 b_172 kb_12 (by decide)
                                  have b_179 : bd 13 4000 v77_3 := ltR fc_176 b_175 b_173 (by decide)
                                  refine lv_lconst (v := 0) hx hb dX14_scan_215 (by decide) ?_
                                  refine g_put (C := RX14) (T := TX14) (N := 67) hx hb hts (mc_ inX14) tyX14 tyX14_ok nmX14 hown hK g ma0_ ka0_ (by decide) rfl 13 (by decide) (hts _ (List.mem_cons_of_mem _ t_2159)) (fun _ h9 => h9) rfl rfl okV_l rfl rfl (by decide) (Or.inr (Or.inl (by decide))) (fx' := [(14, 12, a0_, .long r_166), (14, 6, a0_, .int 1), (14, 7, a0_, .int r_133), (14, 9, a0_, .int v77_3), (14, 10, a0_, .int y_14), (14, 5, a0_, .int x_7), (14, 8, a0_, .int j31_1)]) rfl dX14_scan_216 (fun f H locs hM_180 g => ?_)
                                  refine lv_goto (tgt := 324) hx hb dX14_scan_219 (by decide) ?_
                                  subst hQ
                                  exact W.vret hx hb hr (fun t ht hW => ⟨⟨_, rfl, ⟨y_14, (bd_sub b_15 (by decide)), (g.fcts [5] rfl)⟩, q3_of g hK ht hW⟩, g.2.2.1.F ht⟩) g.2.2.1.2.2 dX14_scan_324
                                · have fc_176 := nlt_f c_176
                                  refine lv_aload_n hx hb dX14_scan_203 rfl (lv_at hl 3 rfl) ?_
                                  refine lv_iload_n hx hb dX14_scan_204 rfl (lv_at hl 2 rfl) ?_
                                  refine lv_bipush (v := 6) hx hb dX14_scan_205 (by decide) ?_
                                  refine lv_iadd hx hb dX14_scan_207 ?_
                                  refine lv_topi (fun y_181 ey_181 => ?_)
                                  obtain rfl : y_141 = y_181 := ey_141.trans ey_181.symm
                                  refine lv_iload_n hx hb dX14_scan_208 rfl (lv_at hl 0 rfl) ?_
                                  refine g_calll (va_runV (As := [.int y_141, .int v77_3]) (rest := [.ref a0_]) ⟨hx, hb, hml, hown, hts⟩ (r_X14_letters l dC dI L kd tys f H.size g.2.2.2.1 a0_ ma0_ ka0_ y_141 (bd_sub b_171 (by decide)) v77_3 (bd_sub b_173 (by decide))) (cwV 2 hts (gV_ t_2381 t_2383 t_95 t_198 t_2384) rfl rfl rfl (by decide +kernel) ⟨(Nat.le_of_ble_eq_true rfl), (Nat.le_of_ble_eq_true rfl)⟩) (pre3V g hK ma0_ ka0_ (by decide) (q := (RX14, TX14, 67)) rfl) rfl rfl hl.1 rfl (lv_room (Nat.le_of_ble_eq_true rfl)) dX14_scan_209 ⟨(Nat.le_of_ble_eq_true rfl), (Nat.le_of_ble_eq_true rfl)⟩) g hK (by decide) (by decide) (fx' := [(14, 12, a0_, .long r_166), (14, 6, a0_, .int 1), (14, 7, a0_, .int r_133), (14, 9, a0_, .int v77_3), (14, 10, a0_, .int y_14), (14, 5, a0_, .int x_7), (14, 8, a0_, .int j31_1)]) rfl (fun r_182 fr_182 H locs hp hMr_182 g => ?_)
                                  refine lv_goto (tgt := 216) hx hb dX14_scan_212 (by decide) ?_
                                  refine g_put (C := RX14) (T := TX14) (N := 67) hx hb hts (mc_ inX14) tyX14 tyX14_ok nmX14 hown hK g ma0_ ka0_ (by decide) rfl 13 (by decide) (hts _ (List.mem_cons_of_mem _ t_2159)) (fun _ h9 => h9) rfl rfl okV_l rfl rfl (by decide) (Or.inr (Or.inl (by decide))) (fx' := [(14, 12, a0_, .long r_166), (14, 6, a0_, .int 1), (14, 7, a0_, .int r_133), (14, 9, a0_, .int v77_3), (14, 10, a0_, .int y_14), (14, 5, a0_, .int x_7), (14, 8, a0_, .int j31_1)]) rfl dX14_scan_216 (fun f H locs hM_183 g => ?_)
                                  refine lv_goto (tgt := 324) hx hb dX14_scan_219 (by decide) ?_
                                  subst hQ
                                  exact W.vret hx hb hr (fun t ht hW => ⟨⟨_, rfl, ⟨y_14, (bd_sub b_15 (by decide)), (g.fcts [5] rfl)⟩, q3_of g hK ht hW⟩, g.2.2.1.F ht⟩) g.2.2.1.2.2 dX14_scan_324
                          · have fc_138 := nle_f c_138
                            have b_184 : bd 13 4000 y_131 := ltR fc_138 kb_12 b_132 (by decide)
                            refine lv_iconst (v := 0) hx hb dX14_scan_153 (by decide) ?_
                            refine lv_goto (tgt := 158) hx hb dX14_scan_154 (by decide) ?_
                            have kb_0 : bd 0 0 (0 : Int32) := ⟨by decide, by decide⟩
                            refine g_put (C := RX14) (T := TX14) (N := 67) hx hb hts (mc_ inX14) tyX14 tyX14_ok nmX14 hown hK g ma0_ ka0_ (by decide) rfl 6 (by decide) (hts _ (List.mem_cons_of_mem _ t_2152)) (fun _ h9 => h9) rfl rfl (okV_i (bd_sub kb_0 (by decide))) rfl rfl (by decide) (Or.inr (Or.inl (by decide))) (fx' := [(14, 7, a0_, .int r_133), (14, 9, a0_, .int v77_3), (14, 10, a0_, .int y_14), (14, 5, a0_, .int x_7), (14, 8, a0_, .int j31_1)]) rfl dX14_scan_158 (fun f H locs hM_185 g => ?_)
                            refine lv_aload_n hx hb dX14_scan_161 rfl (lv_at hl 3 rfl) ?_
                            refine lv_aload_n hx hb dX14_scan_162 rfl (lv_at hl 3 rfl) ?_
                            refine lv_iload_n hx hb dX14_scan_163 rfl (lv_at hl 2 rfl) ?_
                            refine lv_iload_n hx hb dX14_scan_164 rfl (lv_at hl 0 rfl) ?_
                            refine lv_iload_n hx hb dX14_scan_165 rfl (lv_at hl 2 rfl) ?_
                            refine lv_bipush (v := 6) hx hb dX14_scan_166 (by decide) ?_
                            have kb_6 : bd 6 6 (6 : Int32) := ⟨by decide, by decide⟩
                            refine lv_iadd hx hb dX14_scan_168 ?_
                            refine lv_topi (fun y_186 ey_186 => ?_)
                            have ty_186 := add_bd ey_186 b_12 kb_6 (by decide)
                            have b_187 : bd 6 4005 y_186 := add_rg ty_186 b_12 kb_6 (by decide)
                            refine lv_icmp_ge (tgt := 176) hx hb dX14_scan_169 (by decide) (fun c_188 => ?_) (fun c_188 => ?_)
                            · have fc_188 := le_f c_188
                              have b_189 : bd 6 4000 y_186 := leL fc_188 b_187 bv77_3 (by decide)
                              have b_190 : bd 0 3994 j31_1 := add_inv ty_186 b_189 b_12 kb_6 (by decide)
                              have b_191 : bd 6 4000 v77_3 := leR fc_188 b_187 bv77_3 (by decide)
                              refine lv_iload_n hx hb dX14_scan_176 rfl (lv_at hl 2 rfl) ?_
                              refine lv_bipush (v := 6) hx hb dX14_scan_177 (by decide) ?_
                              refine lv_iadd hx hb dX14_scan_179 ?_
                              refine lv_topi (fun y_192 ey_192 => ?_)
                              obtain rfl : y_186 = y_192 := ey_186.trans ey_192.symm
                              refine g_calll (va_runV (As := [.int j31_1, .int y_186]) (rest := [.ref a0_]) ⟨hx, hb, hml, hown, hts⟩ (r_X14_letters l dC dI L kd tys f H.size g.2.2.2.1 a0_ ma0_ ka0_ j31_1 (bd_sub b_190 (by decide)) y_186 (bd_sub b_189 (by decide))) (cwV 2 hts (gV_ t_2381 t_2383 t_95 t_198 t_2384) rfl rfl rfl (by decide +kernel) ⟨(Nat.le_of_ble_eq_true rfl), (Nat.le_of_ble_eq_true rfl)⟩) (pre3V g hK ma0_ ka0_ (by decide) (q := (RX14, TX14, 67)) rfl) rfl rfl hl.1 rfl (lv_room (Nat.le_of_ble_eq_true rfl)) dX14_scan_180 ⟨(Nat.le_of_ble_eq_true rfl), (Nat.le_of_ble_eq_true rfl)⟩) g hK (by decide) (by decide) (fx' := [(14, 6, a0_, .int 0), (14, 7, a0_, .int r_133), (14, 9, a0_, .int v77_3), (14, 10, a0_, .int y_14), (14, 5, a0_, .int x_7), (14, 8, a0_, .int j31_1)]) rfl (fun r_193 fr_193 H locs hp hMr_193 g => ?_)
                              refine g_put (C := RX14) (T := TX14) (N := 67) hx hb hts (mc_ inX14) tyX14 tyX14_ok nmX14 hown hK g ma0_ ka0_ (by decide) rfl 12 (by decide) (hts _ (List.mem_cons_of_mem _ t_2158)) (fun _ h9 => h9) rfl rfl okV_l rfl rfl (by decide) (Or.inr (Or.inl (by decide))) (fx' := [(14, 6, a0_, .int 0), (14, 7, a0_, .int r_133), (14, 9, a0_, .int v77_3), (14, 10, a0_, .int y_14), (14, 5, a0_, .int x_7), (14, 8, a0_, .int j31_1)]) rfl dX14_scan_183 (fun f H locs hM_194 g => ?_)
                              refine lv_aload_n hx hb dX14_scan_186 rfl (lv_at hl 3 rfl) ?_
                              refine lv_iload_n hx hb dX14_scan_187 rfl (lv_at hl 0 rfl) ?_
                              refine lv_iload_n hx hb dX14_scan_188 rfl (lv_at hl 2 rfl) ?_
                              refine lv_bipush (v := 6) hx hb dX14_scan_189 (by decide) ?_
                              refine lv_iadd hx hb dX14_scan_191 ?_
                              refine lv_topi (fun y_195 ey_195 => ?_)
                              obtain rfl : y_186 = y_195 := ey_186.trans ey_195.symm
                              refine lv_icmp_le (tgt := 215) hx hb dX14_scan_192 (by decide) (fun c_196 => ?_) (fun c_196 => ?_)
                              · have fc_196 := le_f c_196
                                refine lv_lconst (v := 0) hx hb dX14_scan_215 (by decide) ?_
                                refine g_put (C := RX14) (T := TX14) (N := 67) hx hb hts (mc_ inX14) tyX14 tyX14_ok nmX14 hown hK g ma0_ ka0_ (by decide) rfl 13 (by decide) (hts _ (List.mem_cons_of_mem _ t_2159)) (fun _ h9 => h9) rfl rfl okV_l rfl rfl (by decide) (Or.inr (Or.inl (by decide))) (fx' := [(14, 12, a0_, .long r_193), (14, 6, a0_, .int 0), (14, 7, a0_, .int r_133), (14, 9, a0_, .int v77_3), (14, 10, a0_, .int y_14), (14, 5, a0_, .int x_7), (14, 8, a0_, .int j31_1)]) rfl dX14_scan_216 (fun f H locs hM_197 g => ?_)
                                refine lv_goto (tgt := 324) hx hb dX14_scan_219 (by decide) ?_
                                subst hQ
                                exact W.vret hx hb hr (fun t ht hW => ⟨⟨_, rfl, ⟨y_14, (bd_sub b_15 (by decide)), (g.fcts [5] rfl)⟩, q3_of g hK ht hW⟩, g.2.2.1.F ht⟩) g.2.2.1.2.2 dX14_scan_324
                              · have fc_196 := nle_f c_196
                                have b_198 : bd 6 3999 y_186 := ltL fc_196 b_189 b_191 (by decide)
                                have b_199 : bd 0 3993 j31_1 := add_inv ty_186 b_198 b_190 kb_6 (by decide)
                                have b_200 : bd 7 4000 v77_3 := ltR fc_196 b_189 b_191 (by decide)
                                refine lv_iload_n hx hb dX14_scan_195 rfl (lv_at hl 0 rfl) ?_
                                refine lv_iload_n hx hb dX14_scan_196 rfl (lv_at hl 2 rfl) ?_
                                refine lv_bipush (v := 12) hx hb dX14_scan_197 (by decide) ?_
                                refine lv_iadd hx hb dX14_scan_199 ?_
                                refine lv_topi (fun y_201 ey_201 => ?_)
                                have ty_201 := add_bd ey_201 b_199 kb_12 (by decide)
                                have b_202 : bd 12 4005 y_201 := add_rg ty_201 b_199 kb_12 (by decide)
                                refine lv_icmp_gt (tgt := 215) hx hb dX14_scan_200 (by decide) (fun c_203 => ?_) (fun c_203 => ?_)
                                · have fc_203 := lt_f c_203
                                  have b_204 : bd 12 3999 y_201 := ltL fc_203 b_202 b_200 (by decide)
                                  have b_205 : bd 0 3987 j31_1 := add_inv ty_201 b_204 b_199 kb_12 (by decide)
                                  have b_206 : bd 13 4000 v77_3 := ltR fc_203 b_202 b_200 (by decide)
                                  refine lv_lconst (v := 0) hx hb dX14_scan_215 (by decide) ?_
                                  refine g_put (C := RX14) (T := TX14) (N := 67) hx hb hts (mc_ inX14) tyX14 tyX14_ok nmX14 hown hK g ma0_ ka0_ (by decide) rfl 13 (by decide) (hts _ (List.mem_cons_of_mem _ t_2159)) (fun _ h9 => h9) rfl rfl okV_l rfl rfl (by decide) (Or.inr (Or.inl (by decide))) (fx' := [(14, 12, a0_, .long r_193), (14, 6, a0_, .int 0), (14, 7, a0_, .int r_133), (14, 9, a0_, .int v77_3), (14, 10, a0_, .int y_14), (14, 5, a0_, .int x_7), (14, 8, a0_, .int j31_1)]) rfl dX14_scan_216 (fun f H locs hM_207 g => ?_)
                                  refine lv_goto (tgt := 324) hx hb dX14_scan_219 (by decide) ?_
                                  subst hQ
                                  exact W.vret hx hb hr (fun t ht hW => ⟨⟨_, rfl, ⟨y_14, (bd_sub b_15 (by decide)), (g.fcts [5] rfl)⟩, q3_of g hK ht hW⟩, g.2.2.1.F ht⟩) g.2.2.1.2.2 dX14_scan_324
                                · have fc_203 := nlt_f c_203
                                  refine lv_aload_n hx hb dX14_scan_203 rfl (lv_at hl 3 rfl) ?_
                                  refine lv_iload_n hx hb dX14_scan_204 rfl (lv_at hl 2 rfl) ?_
                                  refine lv_bipush (v := 6) hx hb dX14_scan_205 (by decide) ?_
                                  refine lv_iadd hx hb dX14_scan_207 ?_
                                  refine lv_topi (fun y_208 ey_208 => ?_)
                                  obtain rfl : y_186 = y_208 := ey_186.trans ey_208.symm
                                  refine lv_iload_n hx hb dX14_scan_208 rfl (lv_at hl 0 rfl) ?_
                                  refine g_calll (va_runV (As := [.int y_186, .int v77_3]) (rest := [.ref a0_]) ⟨hx, hb, hml, hown, hts⟩ (r_X14_letters l dC dI L kd tys f H.size g.2.2.2.1 a0_ ma0_ ka0_ y_186 (bd_sub b_198 (by decide)) v77_3 (bd_sub b_200 (by decide))) (cwV 2 hts (gV_ t_2381 t_2383 t_95 t_198 t_2384) rfl rfl rfl (by decide +kernel) ⟨(Nat.le_of_ble_eq_true rfl), (Nat.le_of_ble_eq_true rfl)⟩) (pre3V g hK ma0_ ka0_ (by decide) (q := (RX14, TX14, 67)) rfl) rfl rfl hl.1 rfl (lv_room (Nat.le_of_ble_eq_true rfl)) dX14_scan_209 ⟨(Nat.le_of_ble_eq_true rfl), (Nat.le_of_ble_eq_true rfl)⟩) g hK (by decide) (by decide) (fx' := [(14, 12, a0_, .long r_193), (14, 6, a0_, .int 0), (14, 7, a0_, .int r_133), (14, 9, a0_, .int v77_3), (14, 10, a0_, .int y_14), (14, 5, a0_, .int x_7), (14, 8, a0_, .int j31_1)]) rfl (fun r_209 fr_209 H locs hp hMr_209 g => ?_)
                                  refine lv_goto (tgt := 216) hx hb dX14_scan_212 (by decide) ?_
                                  refine g_put (C := RX14) (T := TX14) (N := 67) hx hb hts (mc_ inX14) tyX14 tyX14_ok nmX14 hown hK g ma0_ ka0_ (by decide) rfl 13 (by decide) (hts _ (List.mem_cons_of_mem _ t_2159)) (fun _ h9 => h9) rfl rfl okV_l rfl rfl (by decide) (Or.inr (Or.inl (by decide))) (fx' := [(14, 12, a0_, .long r_193), (14, 6, a0_, .int 0), (14, 7, a0_, .int r_133), (14, 9, a0_, .int v77_3), (14, 10, a0_, .int y_14), (14, 5, a0_, .int x_7), (14, 8, a0_, .int j31_1)]) rfl dX14_scan_216 (fun f H locs hM_210 g => ?_)
                                  refine lv_goto (tgt := 324) hx hb dX14_scan_219 (by decide) ?_
                                  subst hQ
                                  exact W.vret hx hb hr (fun t ht hW => ⟨⟨_, rfl, ⟨y_14, (bd_sub b_15 (by decide)), (g.fcts [5] rfl)⟩, q3_of g hK ht hW⟩, g.2.2.1.F ht⟩) g.2.2.1.2.2 dX14_scan_324
                            · have fc_188 := nle_f c_188
                              refine lv_iload_n hx hb dX14_scan_172 rfl (lv_at hl 0 rfl) ?_
                              refine lv_goto (tgt := 180) hx hb dX14_scan_173 (by decide) ?_
                              refine g_calll (va_runV (As := [.int j31_1, .int v77_3]) (rest := [.ref a0_]) ⟨hx, hb, hml, hown, hts⟩ (r_X14_letters l dC dI L kd tys f H.size g.2.2.2.1 a0_ ma0_ ka0_ j31_1 (bd_sub b_12 (by decide)) v77_3 (bd_sub bv77_3 (by decide))) (cwV 2 hts (gV_ t_2381 t_2383 t_95 t_198 t_2384) rfl rfl rfl (by decide +kernel) ⟨(Nat.le_of_ble_eq_true rfl), (Nat.le_of_ble_eq_true rfl)⟩) (pre3V g hK ma0_ ka0_ (by decide) (q := (RX14, TX14, 67)) rfl) rfl rfl hl.1 rfl (lv_room (Nat.le_of_ble_eq_true rfl)) dX14_scan_180 ⟨(Nat.le_of_ble_eq_true rfl), (Nat.le_of_ble_eq_true rfl)⟩) g hK (by decide) (by decide) (fx' := [(14, 6, a0_, .int 0), (14, 7, a0_, .int r_133), (14, 9, a0_, .int v77_3), (14, 10, a0_, .int y_14), (14, 5, a0_, .int x_7), (14, 8, a0_, .int j31_1)]) rfl (fun r_211 fr_211 H locs hp hMr_211 g => ?_)
                              refine g_put (C := RX14) (T := TX14) (N := 67) hx hb hts (mc_ inX14) tyX14 tyX14_ok nmX14 hown hK g ma0_ ka0_ (by decide) rfl 12 (by decide) (hts _ (List.mem_cons_of_mem _ t_2158)) (fun _ h9 => h9) rfl rfl okV_l rfl rfl (by decide) (Or.inr (Or.inl (by decide))) (fx' := [(14, 6, a0_, .int 0), (14, 7, a0_, .int r_133), (14, 9, a0_, .int v77_3), (14, 10, a0_, .int y_14), (14, 5, a0_, .int x_7), (14, 8, a0_, .int j31_1)]) rfl dX14_scan_183 (fun f H locs hM_212 g => ?_)
                              refine lv_aload_n hx hb dX14_scan_186 rfl (lv_at hl 3 rfl) ?_
                              refine lv_iload_n hx hb dX14_scan_187 rfl (lv_at hl 0 rfl) ?_
                              refine lv_iload_n hx hb dX14_scan_188 rfl (lv_at hl 2 rfl) ?_
                              refine lv_bipush (v := 6) hx hb dX14_scan_189 (by decide) ?_
                              refine lv_iadd hx hb dX14_scan_191 ?_
                              refine lv_topi (fun y_213 ey_213 => ?_)
                              obtain rfl : y_186 = y_213 := ey_186.trans ey_213.symm
                              refine lv_icmp_le (tgt := 215) hx hb dX14_scan_192 (by decide) (fun c_214 => ?_) (fun c_214 => ?_)
                              · have fc_214 := le_f c_214
                                refine lv_lconst (v := 0) hx hb dX14_scan_215 (by decide) ?_
                                refine g_put (C := RX14) (T := TX14) (N := 67) hx hb hts (mc_ inX14) tyX14 tyX14_ok nmX14 hown hK g ma0_ ka0_ (by decide) rfl 13 (by decide) (hts _ (List.mem_cons_of_mem _ t_2159)) (fun _ h9 => h9) rfl rfl okV_l rfl rfl (by decide) (Or.inr (Or.inl (by decide))) (fx' := [(14, 12, a0_, .long r_211), (14, 6, a0_, .int 0), (14, 7, a0_, .int r_133), (14, 9, a0_, .int v77_3), (14, 10, a0_, .int y_14), (14, 5, a0_, .int x_7), (14, 8, a0_, .int j31_1)]) rfl dX14_scan_216 (fun f H locs hM_215 g => ?_)
                                refine lv_goto (tgt := 324) hx hb dX14_scan_219 (by decide) ?_
                                subst hQ
                                exact W.vret hx hb hr (fun t ht hW => ⟨⟨_, rfl, ⟨y_14, (bd_sub b_15 (by decide)), (g.fcts [5] rfl)⟩, q3_of g hK ht hW⟩, g.2.2.1.F ht⟩) g.2.2.1.2.2 dX14_scan_324
                              · have fc_214 := nle_f c_214
                                have b_216 : bd 6 3999 y_186 := ltL fc_214 b_187 bv77_3 (by decide)
                                have b_217 : bd 0 3993 j31_1 := add_inv ty_186 b_216 b_12 kb_6 (by decide)
                                have b_218 : bd 7 4000 v77_3 := ltR fc_214 b_187 bv77_3 (by decide)
                                refine lv_iload_n hx hb dX14_scan_195 rfl (lv_at hl 0 rfl) ?_
                                refine lv_iload_n hx hb dX14_scan_196 rfl (lv_at hl 2 rfl) ?_
                                refine lv_bipush (v := 12) hx hb dX14_scan_197 (by decide) ?_
                                refine lv_iadd hx hb dX14_scan_199 ?_
                                refine lv_topi (fun y_219 ey_219 => ?_)
                                have ty_219 := add_bd ey_219 b_217 kb_12 (by decide)
                                have b_220 : bd 12 4005 y_219 := add_rg ty_219 b_217 kb_12 (by decide)
                                refine lv_icmp_gt (tgt := 215) hx hb dX14_scan_200 (by decide) (fun c_221 => ?_) (fun c_221 => ?_)
                                · have fc_221 := lt_f c_221
                                  have b_222 : bd 12 3999 y_219 := ltL fc_221 b_220 b_218 (by decide)
                                  have b_223 : bd 0 3987 j31_1 := add_inv ty_219 b_222 b_217 kb_12 (by decide)
                                  have b_224 : bd 13 4000 v77_3 := ltR fc_221 b_220 b_218 (by decide)
                                  refine lv_lconst (v := 0) hx hb dX14_scan_215 (by decide) ?_
                                  refine g_put (C := RX14) (T := TX14) (N := 67) hx hb hts (mc_ inX14) tyX14 tyX14_ok nmX14 hown hK g ma0_ ka0_ (by decide) rfl 13 (by decide) (hts _ (List.mem_cons_of_mem _ t_2159)) (fun _ h9 => h9) rfl rfl okV_l rfl rfl (by decide) (Or.inr (Or.inl (by decide))) (fx' := [(14, 12, a0_, .long r_211), (14, 6, a0_, .int 0), (14, 7, a0_, .int r_133), (14, 9, a0_, .int v77_3), (14, 10, a0_, .int y_14), (14, 5, a0_, .int x_7), (14, 8, a0_, .int j31_1)]) rfl dX14_scan_216 (fun f H locs hM_225 g => ?_)
                                  refine lv_goto (tgt := 324) hx hb dX14_scan_219 (by decide) ?_
                                  subst hQ
                                  exact W.vret hx hb hr (fun t ht hW => ⟨⟨_, rfl, ⟨y_14, (bd_sub b_15 (by decide)), (g.fcts [5] rfl)⟩, q3_of g hK ht hW⟩, g.2.2.1.F ht⟩) g.2.2.1.2.2 dX14_scan_324
                                · have fc_221 := nlt_f c_221
                                  refine lv_aload_n hx hb dX14_scan_203 rfl (lv_at hl 3 rfl) ?_
                                  refine lv_iload_n hx hb dX14_scan_204 rfl (lv_at hl 2 rfl) ?_
                                  refine lv_bipush (v := 6) hx hb dX14_scan_205 (by decide) ?_
                                  refine lv_iadd hx hb dX14_scan_207 ?_
                                  refine lv_topi (fun y_226 ey_226 => ?_)
                                  obtain rfl : y_186 = y_226 := ey_186.trans ey_226.symm
                                  refine lv_iload_n hx hb dX14_scan_208 rfl (lv_at hl 0 rfl) ?_
                                  refine g_calll (va_runV (As := [.int y_186, .int v77_3]) (rest := [.ref a0_]) ⟨hx, hb, hml, hown, hts⟩ (r_X14_letters l dC dI L kd tys f H.size g.2.2.2.1 a0_ ma0_ ka0_ y_186 (bd_sub b_216 (by decide)) v77_3 (bd_sub b_218 (by decide))) (cwV 2 hts (gV_ t_2381 t_2383 t_95 t_198 t_2384) rfl rfl rfl (by decide +kernel) ⟨(Nat.le_of_ble_eq_true rfl), (Nat.le_of_ble_eq_true rfl)⟩) (pre3V g hK ma0_ ka0_ (by decide) (q := (RX14, TX14, 67)) rfl) rfl rfl hl.1 rfl (lv_room (Nat.le_of_ble_eq_true rfl)) dX14_scan_209 ⟨(Nat.le_of_ble_eq_true rfl), (Nat.le_of_ble_eq_true rfl)⟩) g hK (by decide) (by decide) (fx' := [(14, 12, a0_, .long r_211), (14, 6, a0_, .int 0), (14, 7, a0_, .int r_133), (14, 9, a0_, .int v77_3), (14, 10, a0_, .int y_14), (14, 5, a0_, .int x_7), (14, 8, a0_, .int j31_1)]) rfl (fun r_227 fr_227 H locs hp hMr_227 g => ?_)
                                  refine lv_goto (tgt := 216) hx hb dX14_scan_212 (by decide) ?_
                                  refine g_put (C := RX14) (T := TX14) (N := 67) hx hb hts (mc_ inX14) tyX14 tyX14_ok nmX14 hown hK g ma0_ ka0_ (by decide) rfl 13 (by decide) (hts _ (List.mem_cons_of_mem _ t_2159)) (fun _ h9 => h9) rfl rfl okV_l rfl rfl (by decide) (Or.inr (Or.inl (by decide))) (fx' := [(14, 12, a0_, .long r_211), (14, 6, a0_, .int 0), (14, 7, a0_, .int r_133), (14, 9, a0_, .int v77_3), (14, 10, a0_, .int y_14), (14, 5, a0_, .int x_7), (14, 8, a0_, .int j31_1)]) rfl dX14_scan_216 (fun f H locs hM_228 g => ?_)
                                  refine lv_goto (tgt := 324) hx hb dX14_scan_219 (by decide) ?_
                                  subst hQ
                                  exact W.vret hx hb hr (fun t ht hW => ⟨⟨_, rfl, ⟨y_14, (bd_sub b_15 (by decide)), (g.fcts [5] rfl)⟩, q3_of g hK ht hW⟩, g.2.2.1.F ht⟩) g.2.2.1.2.2 dX14_scan_324
                        · have fc_135 := neq_f c_135
                          refine lv_iconst (v := 2) hx hb dX14_scan_141 (by decide) ?_
                          refine lv_goto (tgt := 158) hx hb dX14_scan_142 (by decide) ?_
                          have kb_2 : bd 2 2 (2 : Int32) := ⟨by decide, by decide⟩
                          refine g_put (C := RX14) (T := TX14) (N := 67) hx hb hts (mc_ inX14) tyX14 tyX14_ok nmX14 hown hK g ma0_ ka0_ (by decide) rfl 6 (by decide) (hts _ (List.mem_cons_of_mem _ t_2152)) (fun _ h9 => h9) rfl rfl (okV_i (bd_sub kb_2 (by decide))) rfl rfl (by decide) (Or.inr (Or.inl (by decide))) (fx' := [(14, 7, a0_, .int r_133), (14, 9, a0_, .int v77_3), (14, 10, a0_, .int y_14), (14, 5, a0_, .int x_7), (14, 8, a0_, .int j31_1)]) rfl dX14_scan_158 (fun f H locs hM_229 g => ?_)
                          refine lv_aload_n hx hb dX14_scan_161 rfl (lv_at hl 3 rfl) ?_
                          refine lv_aload_n hx hb dX14_scan_162 rfl (lv_at hl 3 rfl) ?_
                          refine lv_iload_n hx hb dX14_scan_163 rfl (lv_at hl 2 rfl) ?_
                          refine lv_iload_n hx hb dX14_scan_164 rfl (lv_at hl 0 rfl) ?_
                          refine lv_iload_n hx hb dX14_scan_165 rfl (lv_at hl 2 rfl) ?_
                          refine lv_bipush (v := 6) hx hb dX14_scan_166 (by decide) ?_
                          have kb_6 : bd 6 6 (6 : Int32) := ⟨by decide, by decide⟩
                          refine lv_iadd hx hb dX14_scan_168 ?_
                          refine lv_topi (fun y_230 ey_230 => ?_)
                          have ty_230 := add_bd ey_230 b_12 kb_6 (by decide)
                          have b_231 : bd 6 4005 y_230 := add_rg ty_230 b_12 kb_6 (by decide)
                          refine lv_icmp_ge (tgt := 176) hx hb dX14_scan_169 (by decide) (fun c_232 => ?_) (fun c_232 => ?_)
                          · have fc_232 := le_f c_232
                            have b_233 : bd 6 4000 y_230 := leL fc_232 b_231 bv77_3 (by decide)
                            have b_234 : bd 0 3994 j31_1 := add_inv ty_230 b_233 b_12 kb_6 (by decide)
                            have b_235 : bd 6 4000 v77_3 := leR fc_232 b_231 bv77_3 (by decide)
                            refine lv_iload_n hx hb dX14_scan_176 rfl (lv_at hl 2 rfl) ?_
                            refine lv_bipush (v := 6) hx hb dX14_scan_177 (by decide) ?_
                            refine lv_iadd hx hb dX14_scan_179 ?_
                            refine lv_topi (fun y_236 ey_236 => ?_)
                            obtain rfl : y_230 = y_236 := ey_230.trans ey_236.symm
                            refine g_calll (va_runV (As := [.int j31_1, .int y_230]) (rest := [.ref a0_]) ⟨hx, hb, hml, hown, hts⟩ (r_X14_letters l dC dI L kd tys f H.size g.2.2.2.1 a0_ ma0_ ka0_ j31_1 (bd_sub b_234 (by decide)) y_230 (bd_sub b_233 (by decide))) (cwV 2 hts (gV_ t_2381 t_2383 t_95 t_198 t_2384) rfl rfl rfl (by decide +kernel) ⟨(Nat.le_of_ble_eq_true rfl), (Nat.le_of_ble_eq_true rfl)⟩) (pre3V g hK ma0_ ka0_ (by decide) (q := (RX14, TX14, 67)) rfl) rfl rfl hl.1 rfl (lv_room (Nat.le_of_ble_eq_true rfl)) dX14_scan_180 ⟨(Nat.le_of_ble_eq_true rfl), (Nat.le_of_ble_eq_true rfl)⟩) g hK (by decide) (by decide) (fx' := [(14, 6, a0_, .int 2), (14, 7, a0_, .int r_133), (14, 9, a0_, .int v77_3), (14, 10, a0_, .int y_14), (14, 5, a0_, .int x_7), (14, 8, a0_, .int j31_1)]) rfl (fun r_237 fr_237 H locs hp hMr_237 g => ?_)
                            refine g_put (C := RX14) (T := TX14) (N := 67) hx hb hts (mc_ inX14) tyX14 tyX14_ok nmX14 hown hK g ma0_ ka0_ (by decide) rfl 12 (by decide) (hts _ (List.mem_cons_of_mem _ t_2158)) (fun _ h9 => h9) rfl rfl okV_l rfl rfl (by decide) (Or.inr (Or.inl (by decide))) (fx' := [(14, 6, a0_, .int 2), (14, 7, a0_, .int r_133), (14, 9, a0_, .int v77_3), (14, 10, a0_, .int y_14), (14, 5, a0_, .int x_7), (14, 8, a0_, .int j31_1)]) rfl dX14_scan_183 (fun f H locs hM_238 g => ?_)
                            refine lv_aload_n hx hb dX14_scan_186 rfl (lv_at hl 3 rfl) ?_
                            refine lv_iload_n hx hb dX14_scan_187 rfl (lv_at hl 0 rfl) ?_
                            refine lv_iload_n hx hb dX14_scan_188 rfl (lv_at hl 2 rfl) ?_
                            refine lv_bipush (v := 6) hx hb dX14_scan_189 (by decide) ?_
                            refine lv_iadd hx hb dX14_scan_191 ?_
                            refine lv_topi (fun y_239 ey_239 => ?_)
                            obtain rfl : y_230 = y_239 := ey_230.trans ey_239.symm
                            refine lv_icmp_le (tgt := 215) hx hb dX14_scan_192 (by decide) (fun c_240 => ?_) (fun c_240 => ?_)
                            · have fc_240 := le_f c_240
                              refine lv_lconst (v := 0) hx hb dX14_scan_215 (by decide) ?_
                              refine g_put (C := RX14) (T := TX14) (N := 67) hx hb hts (mc_ inX14) tyX14 tyX14_ok nmX14 hown hK g ma0_ ka0_ (by decide) rfl 13 (by decide) (hts _ (List.mem_cons_of_mem _ t_2159)) (fun _ h9 => h9) rfl rfl okV_l rfl rfl (by decide) (Or.inr (Or.inl (by decide))) (fx' := [(14, 12, a0_, .long r_237), (14, 6, a0_, .int 2), (14, 7, a0_, .int r_133), (14, 9, a0_, .int v77_3), (14, 10, a0_, .int y_14), (14, 5, a0_, .int x_7), (14, 8, a0_, .int j31_1)]) rfl dX14_scan_216 (fun f H locs hM_241 g => ?_)
                              refine lv_goto (tgt := 324) hx hb dX14_scan_219 (by decide) ?_
                              subst hQ
                              exact W.vret hx hb hr (fun t ht hW => ⟨⟨_, rfl, ⟨y_14, (bd_sub b_15 (by decide)), (g.fcts [5] rfl)⟩, q3_of g hK ht hW⟩, g.2.2.1.F ht⟩) g.2.2.1.2.2 dX14_scan_324
                            · have fc_240 := nle_f c_240
                              have b_242 : bd 6 3999 y_230 := ltL fc_240 b_233 b_235 (by decide)
                              have b_243 : bd 0 3993 j31_1 := add_inv ty_230 b_242 b_234 kb_6 (by decide)
                              have b_244 : bd 7 4000 v77_3 := ltR fc_240 b_233 b_235 (by decide)
                              refine lv_iload_n hx hb dX14_scan_195 rfl (lv_at hl 0 rfl) ?_
                              refine lv_iload_n hx hb dX14_scan_196 rfl (lv_at hl 2 rfl) ?_
                              refine lv_bipush (v := 12) hx hb dX14_scan_197 (by decide) ?_
                              have kb_12 : bd 12 12 (12 : Int32) := ⟨by decide, by decide⟩
                              refine lv_iadd hx hb dX14_scan_199 ?_
                              refine lv_topi (fun y_245 ey_245 => ?_)
                              have ty_245 := add_bd ey_245 b_243 kb_12 (by decide)
                              have b_246 : bd 12 4005 y_245 := add_rg ty_245 b_243 kb_12 (by decide)
                              refine lv_icmp_gt (tgt := 215) hx hb dX14_scan_200 (by decide) (fun c_247 => ?_) (fun c_247 => ?_)
                              · have fc_247 := lt_f c_247
                                have b_248 : bd 12 3999 y_245 := ltL fc_247 b_246 b_244 (by decide)
                                have b_249 : bd 0 3987 j31_1 := add_inv ty_245 b_248 b_243 kb_12 (by decide)
                                have b_250 : bd 13 4000 v77_3 := ltR fc_247 b_246 b_244 (by decide)
                                refine lv_lconst (v := 0) hx hb dX14_scan_215 (by decide) ?_
                                refine g_put (C := RX14) (T := TX14) (N := 67) hx hb hts (mc_ inX14) tyX14 tyX14_ok nmX14 hown hK g ma0_ ka0_ (by decide) rfl 13 (by decide) (hts _ (List.mem_cons_of_mem _ t_2159)) (fun _ h9 => h9) rfl rfl okV_l rfl rfl (by decide) (Or.inr (Or.inl (by decide))) (fx' := [(14, 12, a0_, .long r_237), (14, 6, a0_, .int 2), (14, 7, a0_, .int r_133), (14, 9, a0_, .int v77_3), (14, 10, a0_, .int y_14), (14, 5, a0_, .int x_7), (14, 8, a0_, .int j31_1)]) rfl dX14_scan_216 (fun f H locs hM_251 g => ?_)
                                refine lv_goto (tgt := 324) hx hb dX14_scan_219 (by decide) ?_
                                subst hQ
                                exact W.vret hx hb hr (fun t ht hW => ⟨⟨_, rfl, ⟨y_14, (bd_sub b_15 (by decide)), (g.fcts [5] rfl)⟩, q3_of g hK ht hW⟩, g.2.2.1.F ht⟩) g.2.2.1.2.2 dX14_scan_324
                              · have fc_247 := nlt_f c_247
                                refine lv_aload_n hx hb dX14_scan_203 rfl (lv_at hl 3 rfl) ?_
                                refine lv_iload_n hx hb dX14_scan_204 rfl (lv_at hl 2 rfl) ?_
                                refine lv_bipush (v := 6) hx hb dX14_scan_205 (by decide) ?_
                                refine lv_iadd hx hb dX14_scan_207 ?_
                                refine lv_topi (fun y_252 ey_252 => ?_)
                                obtain rfl : y_230 = y_252 := ey_230.trans ey_252.symm
                                refine lv_iload_n hx hb dX14_scan_208 rfl (lv_at hl 0 rfl) ?_
                                refine g_calll (va_runV (As := [.int y_230, .int v77_3]) (rest := [.ref a0_]) ⟨hx, hb, hml, hown, hts⟩ (r_X14_letters l dC dI L kd tys f H.size g.2.2.2.1 a0_ ma0_ ka0_ y_230 (bd_sub b_242 (by decide)) v77_3 (bd_sub b_244 (by decide))) (cwV 2 hts (gV_ t_2381 t_2383 t_95 t_198 t_2384) rfl rfl rfl (by decide +kernel) ⟨(Nat.le_of_ble_eq_true rfl), (Nat.le_of_ble_eq_true rfl)⟩) (pre3V g hK ma0_ ka0_ (by decide) (q := (RX14, TX14, 67)) rfl) rfl rfl hl.1 rfl (lv_room (Nat.le_of_ble_eq_true rfl)) dX14_scan_209 ⟨(Nat.le_of_ble_eq_true rfl), (Nat.le_of_ble_eq_true rfl)⟩) g hK (by decide) (by decide) (fx' := [(14, 12, a0_, .long r_237), (14, 6, a0_, .int 2), (14, 7, a0_, .int r_133), (14, 9, a0_, .int v77_3), (14, 10, a0_, .int y_14), (14, 5, a0_, .int x_7), (14, 8, a0_, .int j31_1)]) rfl (fun r_253 fr_253 H locs hp hMr_253 g => ?_)
                                refine lv_goto (tgt := 216) hx hb dX14_scan_212 (by decide) ?_
                                refine g_put (C := RX14) (T := TX14) (N := 67) hx hb hts (mc_ inX14) tyX14 tyX14_ok nmX14 hown hK g ma0_ ka0_ (by decide) rfl 13 (by decide) (hts _ (List.mem_cons_of_mem _ t_2159)) (fun _ h9 => h9) rfl rfl okV_l rfl rfl (by decide) (Or.inr (Or.inl (by decide))) (fx' := [(14, 12, a0_, .long r_237), (14, 6, a0_, .int 2), (14, 7, a0_, .int r_133), (14, 9, a0_, .int v77_3), (14, 10, a0_, .int y_14), (14, 5, a0_, .int x_7), (14, 8, a0_, .int j31_1)]) rfl dX14_scan_216 (fun f H locs hM_254 g => ?_)
                                refine lv_goto (tgt := 324) hx hb dX14_scan_219 (by decide) ?_
                                subst hQ
                                exact W.vret hx hb hr (fun t ht hW => ⟨⟨_, rfl, ⟨y_14, (bd_sub b_15 (by decide)), (g.fcts [5] rfl)⟩, q3_of g hK ht hW⟩, g.2.2.1.F ht⟩) g.2.2.1.2.2 dX14_scan_324
                          · have fc_232 := nle_f c_232
                            refine lv_iload_n hx hb dX14_scan_172 rfl (lv_at hl 0 rfl) ?_
                            refine lv_goto (tgt := 180) hx hb dX14_scan_173 (by decide) ?_
                            refine g_calll (va_runV (As := [.int j31_1, .int v77_3]) (rest := [.ref a0_]) ⟨hx, hb, hml, hown, hts⟩ (r_X14_letters l dC dI L kd tys f H.size g.2.2.2.1 a0_ ma0_ ka0_ j31_1 (bd_sub b_12 (by decide)) v77_3 (bd_sub bv77_3 (by decide))) (cwV 2 hts (gV_ t_2381 t_2383 t_95 t_198 t_2384) rfl rfl rfl (by decide +kernel) ⟨(Nat.le_of_ble_eq_true rfl), (Nat.le_of_ble_eq_true rfl)⟩) (pre3V g hK ma0_ ka0_ (by decide) (q := (RX14, TX14, 67)) rfl) rfl rfl hl.1 rfl (lv_room (Nat.le_of_ble_eq_true rfl)) dX14_scan_180 ⟨(Nat.le_of_ble_eq_true rfl), (Nat.le_of_ble_eq_true rfl)⟩) g hK (by decide) (by decide) (fx' := [(14, 6, a0_, .int 2), (14, 7, a0_, .int r_133), (14, 9, a0_, .int v77_3), (14, 10, a0_, .int y_14), (14, 5, a0_, .int x_7), (14, 8, a0_, .int j31_1)]) rfl (fun r_255 fr_255 H locs hp hMr_255 g => ?_)
                            refine g_put (C := RX14) (T := TX14) (N := 67) hx hb hts (mc_ inX14) tyX14 tyX14_ok nmX14 hown hK g ma0_ ka0_ (by decide) rfl 12 (by decide) (hts _ (List.mem_cons_of_mem _ t_2158)) (fun _ h9 => h9) rfl rfl okV_l rfl rfl (by decide) (Or.inr (Or.inl (by decide))) (fx' := [(14, 6, a0_, .int 2), (14, 7, a0_, .int r_133), (14, 9, a0_, .int v77_3), (14, 10, a0_, .int y_14), (14, 5, a0_, .int x_7), (14, 8, a0_, .int j31_1)]) rfl dX14_scan_183 (fun f H locs hM_256 g => ?_)
                            refine lv_aload_n hx hb dX14_scan_186 rfl (lv_at hl 3 rfl) ?_
                            refine lv_iload_n hx hb dX14_scan_187 rfl (lv_at hl 0 rfl) ?_
                            refine lv_iload_n hx hb dX14_scan_188 rfl (lv_at hl 2 rfl) ?_
                            refine lv_bipush (v := 6) hx hb dX14_scan_189 (by decide) ?_
                            refine lv_iadd hx hb dX14_scan_191 ?_
                            refine lv_topi (fun y_257 ey_257 => ?_)
                            obtain rfl : y_230 = y_257 := ey_230.trans ey_257.symm
                            refine lv_icmp_le (tgt := 215) hx hb dX14_scan_192 (by decide) (fun c_258 => ?_) (fun c_258 => ?_)
                            · have fc_258 := le_f c_258
                              refine lv_lconst (v := 0) hx hb dX14_scan_215 (by decide) ?_
                              refine g_put (C := RX14) (T := TX14) (N := 67) hx hb hts (mc_ inX14) tyX14 tyX14_ok nmX14 hown hK g ma0_ ka0_ (by decide) rfl 13 (by decide) (hts _ (List.mem_cons_of_mem _ t_2159)) (fun _ h9 => h9) rfl rfl okV_l rfl rfl (by decide) (Or.inr (Or.inl (by decide))) (fx' := [(14, 12, a0_, .long r_255), (14, 6, a0_, .int 2), (14, 7, a0_, .int r_133), (14, 9, a0_, .int v77_3), (14, 10, a0_, .int y_14), (14, 5, a0_, .int x_7), (14, 8, a0_, .int j31_1)]) rfl dX14_scan_216 (fun f H locs hM_259 g => ?_)
                              refine lv_goto (tgt := 324) hx hb dX14_scan_219 (by decide) ?_
                              subst hQ
                              exact W.vret hx hb hr (fun t ht hW => ⟨⟨_, rfl, ⟨y_14, (bd_sub b_15 (by decide)), (g.fcts [5] rfl)⟩, q3_of g hK ht hW⟩, g.2.2.1.F ht⟩) g.2.2.1.2.2 dX14_scan_324
                            · have fc_258 := nle_f c_258
                              have b_260 : bd 6 3999 y_230 := ltL fc_258 b_231 bv77_3 (by decide)
                              have b_261 : bd 0 3993 j31_1 := add_inv ty_230 b_260 b_12 kb_6 (by decide)
                              have b_262 : bd 7 4000 v77_3 := ltR fc_258 b_231 bv77_3 (by decide)
                              refine lv_iload_n hx hb dX14_scan_195 rfl (lv_at hl 0 rfl) ?_
                              refine lv_iload_n hx hb dX14_scan_196 rfl (lv_at hl 2 rfl) ?_
                              refine lv_bipush (v := 12) hx hb dX14_scan_197 (by decide) ?_
                              have kb_12 : bd 12 12 (12 : Int32) := ⟨by decide, by decide⟩
                              refine lv_iadd hx hb dX14_scan_199 ?_
                              refine lv_topi (fun y_263 ey_263 => ?_)
                              have ty_263 := add_bd ey_263 b_261 kb_12 (by decide)
                              have b_264 : bd 12 4005 y_263 := add_rg ty_263 b_261 kb_12 (by decide)
                              refine lv_icmp_gt (tgt := 215) hx hb dX14_scan_200 (by decide) (fun c_265 => ?_) (fun c_265 => ?_)
                              · have fc_265 := lt_f c_265
                                have b_266 : bd 12 3999 y_263 := ltL fc_265 b_264 b_262 (by decide)
                                have b_267 : bd 0 3987 j31_1 := add_inv ty_263 b_266 b_261 kb_12 (by decide)
                                have b_268 : bd 13 4000 v77_3 := ltR fc_265 b_264 b_262 (by decide)
                                refine lv_lconst (v := 0) hx hb dX14_scan_215 (by decide) ?_
                                refine g_put (C := RX14) (T := TX14) (N := 67) hx hb hts (mc_ inX14) tyX14 tyX14_ok nmX14 hown hK g ma0_ ka0_ (by decide) rfl 13 (by decide) (hts _ (List.mem_cons_of_mem _ t_2159)) (fun _ h9 => h9) rfl rfl okV_l rfl rfl (by decide) (Or.inr (Or.inl (by decide))) (fx' := [(14, 12, a0_, .long r_255), (14, 6, a0_, .int 2), (14, 7, a0_, .int r_133), (14, 9, a0_, .int v77_3), (14, 10, a0_, .int y_14), (14, 5, a0_, .int x_7), (14, 8, a0_, .int j31_1)]) rfl dX14_scan_216 (fun f H locs hM_269 g => ?_)
                                refine lv_goto (tgt := 324) hx hb dX14_scan_219 (by decide) ?_
                                subst hQ
                                exact W.vret hx hb hr (fun t ht hW => ⟨⟨_, rfl, ⟨y_14, (bd_sub b_15 (by decide)), (g.fcts [5] rfl)⟩, q3_of g hK ht hW⟩, g.2.2.1.F ht⟩) g.2.2.1.2.2 dX14_scan_324
                              · have fc_265 := nlt_f c_265
                                refine lv_aload_n hx hb dX14_scan_203 rfl (lv_at hl 3 rfl) ?_
                                refine lv_iload_n hx hb dX14_scan_204 rfl (lv_at hl 2 rfl) ?_
                                refine lv_bipush (v := 6) hx hb dX14_scan_205 (by decide) ?_
                                refine lv_iadd hx hb dX14_scan_207 ?_
                                refine lv_topi (fun y_270 ey_270 => ?_)
                                obtain rfl : y_230 = y_270 := ey_230.trans ey_270.symm
                                refine lv_iload_n hx hb dX14_scan_208 rfl (lv_at hl 0 rfl) ?_
                                refine g_calll (va_runV (As := [.int y_230, .int v77_3]) (rest := [.ref a0_]) ⟨hx, hb, hml, hown, hts⟩ (r_X14_letters l dC dI L kd tys f H.size g.2.2.2.1 a0_ ma0_ ka0_ y_230 (bd_sub b_260 (by decide)) v77_3 (bd_sub b_262 (by decide))) (cwV 2 hts (gV_ t_2381 t_2383 t_95 t_198 t_2384) rfl rfl rfl (by decide +kernel) ⟨(Nat.le_of_ble_eq_true rfl), (Nat.le_of_ble_eq_true rfl)⟩) (pre3V g hK ma0_ ka0_ (by decide) (q := (RX14, TX14, 67)) rfl) rfl rfl hl.1 rfl (lv_room (Nat.le_of_ble_eq_true rfl)) dX14_scan_209 ⟨(Nat.le_of_ble_eq_true rfl), (Nat.le_of_ble_eq_true rfl)⟩) g hK (by decide) (by decide) (fx' := [(14, 12, a0_, .long r_255), (14, 6, a0_, .int 2), (14, 7, a0_, .int r_133), (14, 9, a0_, .int v77_3), (14, 10, a0_, .int y_14), (14, 5, a0_, .int x_7), (14, 8, a0_, .int j31_1)]) rfl (fun r_271 fr_271 H locs hp hMr_271 g => ?_)
                                refine lv_goto (tgt := 216) hx hb dX14_scan_212 (by decide) ?_
                                refine g_put (C := RX14) (T := TX14) (N := 67) hx hb hts (mc_ inX14) tyX14 tyX14_ok nmX14 hown hK g ma0_ ka0_ (by decide) rfl 13 (by decide) (hts _ (List.mem_cons_of_mem _ t_2159)) (fun _ h9 => h9) rfl rfl okV_l rfl rfl (by decide) (Or.inr (Or.inl (by decide))) (fx' := [(14, 12, a0_, .long r_255), (14, 6, a0_, .int 2), (14, 7, a0_, .int r_133), (14, 9, a0_, .int v77_3), (14, 10, a0_, .int y_14), (14, 5, a0_, .int x_7), (14, 8, a0_, .int j31_1)]) rfl dX14_scan_216 (fun f H locs hM_272 g => ?_)
                                refine lv_goto (tgt := 324) hx hb dX14_scan_219 (by decide) ?_
                                subst hQ
                                exact W.vret hx hb hr (fun t ht hW => ⟨⟨_, rfl, ⟨y_14, (bd_sub b_15 (by decide)), (g.fcts [5] rfl)⟩, q3_of g hK ht hW⟩, g.2.2.1.F ht⟩) g.2.2.1.2.2 dX14_scan_324
                      · have b_273 : bd 0 3999 v77_3 := eqX rfl bv77_3 h_126 (by decide)
                        have g := g.more hF_129
                        have e_274 := fx_same g 2 0 rfl rfl
                        have g := g.sub (fx' := [(14, 10, a0_, .int y_14), (14, 5, a0_, .int x_7), (14, 8, a0_, .int j31_1), (14, 9, a0_, .int g31_14_9_a0_)]) [1, 2, 3, 4] rfl
                        refine lv_bipush (v := 95) hx hb dX14_scan_104 (by decide) ?_
                        have kb_95 : bd 95 95 (95 : Int32) := ⟨by decide, by decide⟩
                        refine lv_icmp_ne (tgt := 115) hx hb dX14_scan_106 (by decide) (fun c_275 => ?_) (fun c_275 => ?_)
                        · have fc_275 := neq_f c_275
                          have join_276 : ∀ (g161_14_6_a0_ : Int32) (g161_14_7_a0_ : Int32) (f : Nat → va_E) (H : Heap) (locs : List Loc) (ls : Array Slot), bd 0 2 g161_14_6_a0_ → G3 (dC, dI) L kd tys s f0 [(14, 6), (14, 7), (14, 8), (14, 9), (14, 10), (14, 11), (14, 12), (14, 13)] [] f H locs [(14, 6, a0_, .int g161_14_6_a0_), (14, 7, a0_, .int g161_14_7_a0_), (14, 9, a0_, .int v77_3), (14, 10, a0_, .int y_14), (14, 5, a0_, .int x_7), (14, 8, a0_, .int j31_1)] → lv_has ls 4 [(3, .int v77_3), (2, .int r_3), (1, .int j31_1), (0, .ref a0_)] → W p l e ({ frames := 5, cells := 0, slots := 0, locals := 112 } : Room) s m [.ref a0_].toArray below meth c H locs 0 0 Q (F0 m 161 ls []) := by
                            intro g161_14_6_a0_ g161_14_7_a0_ f H locs ls bg161_14_6_a0_  g  hl
                            have join_277 : ∀ (g186_14_12_a0_ : Int64) (f : Nat → va_E) (H : Heap) (locs : List Loc) (ls : Array Slot), G3 (dC, dI) L kd tys s f0 [(14, 6), (14, 7), (14, 8), (14, 9), (14, 10), (14, 11), (14, 12), (14, 13)] [] f H locs [(14, 12, a0_, .long g186_14_12_a0_), (14, 6, a0_, .int g161_14_6_a0_), (14, 7, a0_, .int g161_14_7_a0_), (14, 9, a0_, .int v77_3), (14, 10, a0_, .int y_14), (14, 5, a0_, .int x_7), (14, 8, a0_, .int j31_1)] → lv_has ls 4 [(3, .int v77_3), (2, .int r_3), (1, .int j31_1), (0, .ref a0_)] → W p l e ({ frames := 5, cells := 0, slots := 0, locals := 112 } : Room) s m [.ref a0_].toArray below meth c H locs 0 0 Q (F0 m 186 ls []) := by
                              intro g186_14_12_a0_ f H locs ls  g  hl
                              refine lv_aload_n hx hb dX14_scan_186 rfl (lv_at hl 3 rfl) ?_
                              refine lv_iload_n hx hb dX14_scan_187 rfl (lv_at hl 0 rfl) ?_
                              refine lv_iload_n hx hb dX14_scan_188 rfl (lv_at hl 2 rfl) ?_
                              refine lv_bipush (v := 6) hx hb dX14_scan_189 (by decide) ?_
                              have kb_6 : bd 6 6 (6 : Int32) := ⟨by decide, by decide⟩
                              refine lv_iadd hx hb dX14_scan_191 ?_
                              refine lv_topi (fun y_278 ey_278 => ?_)
                              have ty_278 := add_bd ey_278 b_12 kb_6 (by decide)
                              have b_279 : bd 6 4005 y_278 := add_rg ty_278 b_12 kb_6 (by decide)
                              refine lv_icmp_le (tgt := 215) hx hb dX14_scan_192 (by decide) (fun c_280 => ?_) (fun c_280 => ?_)
                              · have fc_280 := le_f c_280
                                refine lv_lconst (v := 0) hx hb dX14_scan_215 (by decide) ?_
                                refine g_put (C := RX14) (T := TX14) (N := 67) hx hb hts (mc_ inX14) tyX14 tyX14_ok nmX14 hown hK g ma0_ ka0_ (by decide) rfl 13 (by decide) (hts _ (List.mem_cons_of_mem _ t_2159)) (fun _ h9 => h9) rfl rfl okV_l rfl rfl (by decide) (Or.inr (Or.inl (by decide))) (fx' := [(14, 12, a0_, .long g186_14_12_a0_), (14, 6, a0_, .int g161_14_6_a0_), (14, 7, a0_, .int g161_14_7_a0_), (14, 9, a0_, .int v77_3), (14, 10, a0_, .int y_14), (14, 5, a0_, .int x_7), (14, 8, a0_, .int j31_1)]) rfl dX14_scan_216 (fun f H locs hM_281 g => ?_)
                                refine lv_goto (tgt := 324) hx hb dX14_scan_219 (by decide) ?_
                                subst hQ
                                exact W.vret hx hb hr (fun t ht hW => ⟨⟨_, rfl, ⟨y_14, (bd_sub b_15 (by decide)), (g.fcts [5] rfl)⟩, q3_of g hK ht hW⟩, g.2.2.1.F ht⟩) g.2.2.1.2.2 dX14_scan_324
                              · have fc_280 := nle_f c_280
                                have b_282 : bd 6 3998 y_278 := ltL fc_280 b_279 b_273 (by decide)
                                have b_283 : bd 0 3992 j31_1 := add_inv ty_278 b_282 b_12 kb_6 (by decide)
                                have b_284 : bd 7 3999 v77_3 := ltR fc_280 b_279 b_273 (by decide)
                                refine lv_iload_n hx hb dX14_scan_195 rfl (lv_at hl 0 rfl) ?_
                                refine lv_iload_n hx hb dX14_scan_196 rfl (lv_at hl 2 rfl) ?_
                                refine lv_bipush (v := 12) hx hb dX14_scan_197 (by decide) ?_
                                have kb_12 : bd 12 12 (12 : Int32) := ⟨by decide, by decide⟩
                                refine lv_iadd hx hb dX14_scan_199 ?_
                                refine lv_topi (fun y_285 ey_285 => ?_)
                                have ty_285 := add_bd ey_285 b_283 kb_12 (by decide)
                                have b_286 : bd 12 4004 y_285 := add_rg ty_285 b_283 kb_12 (by decide)
                                refine lv_icmp_gt (tgt := 215) hx hb dX14_scan_200 (by decide) (fun c_287 => ?_) (fun c_287 => ?_)
                                · have fc_287 := lt_f c_287
                                  have b_288 : bd 12 3998 y_285 := ltL fc_287 b_286 b_284 (by decide)
                                  have b_289 : bd 0 3986 j31_1 := add_inv ty_285 b_288 b_283 kb_12 (by decide)
                                  have b_290 : bd 13 3999 v77_3 := ltR fc_287 b_286 b_284 (by decide)
                                  refine lv_lconst (v := 0) hx hb dX14_scan_215 (by decide) ?_
                                  refine g_put (C := RX14) (T := TX14) (N := 67) hx hb hts (mc_ inX14) tyX14 tyX14_ok nmX14 hown hK g ma0_ ka0_ (by decide) rfl 13 (by decide) (hts _ (List.mem_cons_of_mem _ t_2159)) (fun _ h9 => h9) rfl rfl okV_l rfl rfl (by decide) (Or.inr (Or.inl (by decide))) (fx' := [(14, 12, a0_, .long g186_14_12_a0_), (14, 6, a0_, .int g161_14_6_a0_), (14, 7, a0_, .int g161_14_7_a0_), (14, 9, a0_, .int v77_3), (14, 10, a0_, .int y_14), (14, 5, a0_, .int x_7), (14, 8, a0_, .int j31_1)]) rfl dX14_scan_216 (fun f H locs hM_291 g => ?_)
                                  refine lv_goto (tgt := 324) hx hb dX14_scan_219 (by decide) ?_
                                  subst hQ
                                  exact W.vret hx hb hr (fun t ht hW => ⟨⟨_, rfl, ⟨y_14, (bd_sub b_15 (by decide)), (g.fcts [5] rfl)⟩, q3_of g hK ht hW⟩, g.2.2.1.F ht⟩) g.2.2.1.2.2 dX14_scan_324
                                · have fc_287 := nlt_f c_287
                                  refine lv_aload_n hx hb dX14_scan_203 rfl (lv_at hl 3 rfl) ?_
                                  refine lv_iload_n hx hb dX14_scan_204 rfl (lv_at hl 2 rfl) ?_
                                  refine lv_bipush (v := 6) hx hb dX14_scan_205 (by decide) ?_
                                  refine lv_iadd hx hb dX14_scan_207 ?_
                                  refine lv_topi (fun y_292 ey_292 => ?_)
                                  obtain rfl : y_278 = y_292 := ey_278.trans ey_292.symm
                                  refine lv_iload_n hx hb dX14_scan_208 rfl (lv_at hl 0 rfl) ?_
                                  refine g_calll (va_runV (As := [.int y_278, .int v77_3]) (rest := [.ref a0_]) ⟨hx, hb, hml, hown, hts⟩ (r_X14_letters l dC dI L kd tys f H.size g.2.2.2.1 a0_ ma0_ ka0_ y_278 (bd_sub b_282 (by decide)) v77_3 (bd_sub b_284 (by decide))) (cwV 2 hts (gV_ t_2381 t_2383 t_95 t_198 t_2384) rfl rfl rfl (by decide +kernel) ⟨(Nat.le_of_ble_eq_true rfl), (Nat.le_of_ble_eq_true rfl)⟩) (pre3V g hK ma0_ ka0_ (by decide) (q := (RX14, TX14, 67)) rfl) rfl rfl hl.1 rfl (lv_room (Nat.le_of_ble_eq_true rfl)) dX14_scan_209 ⟨(Nat.le_of_ble_eq_true rfl), (Nat.le_of_ble_eq_true rfl)⟩) g hK (by decide) (by decide) (fx' := [(14, 12, a0_, .long g186_14_12_a0_), (14, 6, a0_, .int g161_14_6_a0_), (14, 7, a0_, .int g161_14_7_a0_), (14, 9, a0_, .int v77_3), (14, 10, a0_, .int y_14), (14, 5, a0_, .int x_7), (14, 8, a0_, .int j31_1)]) rfl (fun r_293 fr_293 H locs hp hMr_293 g => ?_)
                                  refine lv_goto (tgt := 216) hx hb dX14_scan_212 (by decide) ?_
                                  refine g_put (C := RX14) (T := TX14) (N := 67) hx hb hts (mc_ inX14) tyX14 tyX14_ok nmX14 hown hK g ma0_ ka0_ (by decide) rfl 13 (by decide) (hts _ (List.mem_cons_of_mem _ t_2159)) (fun _ h9 => h9) rfl rfl okV_l rfl rfl (by decide) (Or.inr (Or.inl (by decide))) (fx' := [(14, 12, a0_, .long g186_14_12_a0_), (14, 6, a0_, .int g161_14_6_a0_), (14, 7, a0_, .int g161_14_7_a0_), (14, 9, a0_, .int v77_3), (14, 10, a0_, .int y_14), (14, 5, a0_, .int x_7), (14, 8, a0_, .int j31_1)]) rfl dX14_scan_216 (fun f H locs hM_294 g => ?_)
                                  refine lv_goto (tgt := 324) hx hb dX14_scan_219 (by decide) ?_
                                  subst hQ
                                  exact W.vret hx hb hr (fun t ht hW => ⟨⟨_, rfl, ⟨y_14, (bd_sub b_15 (by decide)), (g.fcts [5] rfl)⟩, q3_of g hK ht hW⟩, g.2.2.1.F ht⟩) g.2.2.1.2.2 dX14_scan_324
                            refine lv_aload_n hx hb dX14_scan_161 rfl (lv_at hl 3 rfl) ?_
                            refine lv_aload_n hx hb dX14_scan_162 rfl (lv_at hl 3 rfl) ?_
                            refine lv_iload_n hx hb dX14_scan_163 rfl (lv_at hl 2 rfl) ?_
                            refine lv_iload_n hx hb dX14_scan_164 rfl (lv_at hl 0 rfl) ?_
                            refine lv_iload_n hx hb dX14_scan_165 rfl (lv_at hl 2 rfl) ?_
                            refine lv_bipush (v := 6) hx hb dX14_scan_166 (by decide) ?_
                            have kb_6 : bd 6 6 (6 : Int32) := ⟨by decide, by decide⟩
                            refine lv_iadd hx hb dX14_scan_168 ?_
                            refine lv_topi (fun y_295 ey_295 => ?_)
                            have ty_295 := add_bd ey_295 b_12 kb_6 (by decide)
                            have b_296 : bd 6 4005 y_295 := add_rg ty_295 b_12 kb_6 (by decide)
                            refine lv_icmp_ge (tgt := 176) hx hb dX14_scan_169 (by decide) (fun c_297 => ?_) (fun c_297 => ?_)
                            · have fc_297 := le_f c_297
                              have b_298 : bd 6 3999 y_295 := leL fc_297 b_296 b_273 (by decide)
                              have b_299 : bd 0 3993 j31_1 := add_inv ty_295 b_298 b_12 kb_6 (by decide)
                              have b_300 : bd 6 3999 v77_3 := leR fc_297 b_296 b_273 (by decide)
                              refine lv_iload_n hx hb dX14_scan_176 rfl (lv_at hl 2 rfl) ?_
                              refine lv_bipush (v := 6) hx hb dX14_scan_177 (by decide) ?_
                              refine lv_iadd hx hb dX14_scan_179 ?_
                              refine lv_topi (fun y_301 ey_301 => ?_)
                              obtain rfl : y_295 = y_301 := ey_295.trans ey_301.symm
                              refine g_calll (va_runV (As := [.int j31_1, .int y_295]) (rest := [.ref a0_]) ⟨hx, hb, hml, hown, hts⟩ (r_X14_letters l dC dI L kd tys f H.size g.2.2.2.1 a0_ ma0_ ka0_ j31_1 (bd_sub b_299 (by decide)) y_295 (bd_sub b_298 (by decide))) (cwV 2 hts (gV_ t_2381 t_2383 t_95 t_198 t_2384) rfl rfl rfl (by decide +kernel) ⟨(Nat.le_of_ble_eq_true rfl), (Nat.le_of_ble_eq_true rfl)⟩) (pre3V g hK ma0_ ka0_ (by decide) (q := (RX14, TX14, 67)) rfl) rfl rfl hl.1 rfl (lv_room (Nat.le_of_ble_eq_true rfl)) dX14_scan_180 ⟨(Nat.le_of_ble_eq_true rfl), (Nat.le_of_ble_eq_true rfl)⟩) g hK (by decide) (by decide) (fx' := [(14, 6, a0_, .int g161_14_6_a0_), (14, 7, a0_, .int g161_14_7_a0_), (14, 9, a0_, .int v77_3), (14, 10, a0_, .int y_14), (14, 5, a0_, .int x_7), (14, 8, a0_, .int j31_1)]) rfl (fun r_302 fr_302 H locs hp hMr_302 g => ?_)
                              refine g_put (C := RX14) (T := TX14) (N := 67) hx hb hts (mc_ inX14) tyX14 tyX14_ok nmX14 hown hK g ma0_ ka0_ (by decide) rfl 12 (by decide) (hts _ (List.mem_cons_of_mem _ t_2158)) (fun _ h9 => h9) rfl rfl okV_l rfl rfl (by decide) (Or.inr (Or.inl (by decide))) (fx' := [(14, 6, a0_, .int g161_14_6_a0_), (14, 7, a0_, .int g161_14_7_a0_), (14, 9, a0_, .int v77_3), (14, 10, a0_, .int y_14), (14, 5, a0_, .int x_7), (14, 8, a0_, .int j31_1)]) rfl dX14_scan_183 (fun f H locs hM_303 g => ?_)
                              have hl9 := lv_sub hl [0, 1, 2, 3] (by rfl : lv_pick [(3, .int v77_3), (2, .int r_3), (1, .int j31_1), (0, .ref a0_)] [0, 1, 2, 3] = [(3, .int v77_3), (2, .int r_3), (1, .int j31_1), (0, .ref a0_)])
                              have g9 := g.sub (fx' := [(14, 12, a0_, .long r_302), (14, 6, a0_, .int g161_14_6_a0_), (14, 7, a0_, .int g161_14_7_a0_), (14, 9, a0_, .int v77_3), (14, 10, a0_, .int y_14), (14, 5, a0_, .int x_7), (14, 8, a0_, .int j31_1)]) [0, 1, 2, 3, 4, 5, 6] rfl
                              exact join_277 r_302 _ _ _ _  g9  hl9
                            · have fc_297 := nle_f c_297
                              refine lv_iload_n hx hb dX14_scan_172 rfl (lv_at hl 0 rfl) ?_
                              refine lv_goto (tgt := 180) hx hb dX14_scan_173 (by decide) ?_
                              refine g_calll (va_runV (As := [.int j31_1, .int v77_3]) (rest := [.ref a0_]) ⟨hx, hb, hml, hown, hts⟩ (r_X14_letters l dC dI L kd tys f H.size g.2.2.2.1 a0_ ma0_ ka0_ j31_1 (bd_sub b_12 (by decide)) v77_3 (bd_sub b_273 (by decide))) (cwV 2 hts (gV_ t_2381 t_2383 t_95 t_198 t_2384) rfl rfl rfl (by decide +kernel) ⟨(Nat.le_of_ble_eq_true rfl), (Nat.le_of_ble_eq_true rfl)⟩) (pre3V g hK ma0_ ka0_ (by decide) (q := (RX14, TX14, 67)) rfl) rfl rfl hl.1 rfl (lv_room (Nat.le_of_ble_eq_true rfl)) dX14_scan_180 ⟨(Nat.le_of_ble_eq_true rfl), (Nat.le_of_ble_eq_true rfl)⟩) g hK (by decide) (by decide) (fx' := [(14, 6, a0_, .int g161_14_6_a0_), (14, 7, a0_, .int g161_14_7_a0_), (14, 9, a0_, .int v77_3), (14, 10, a0_, .int y_14), (14, 5, a0_, .int x_7), (14, 8, a0_, .int j31_1)]) rfl (fun r_304 fr_304 H locs hp hMr_304 g => ?_)
                              refine g_put (C := RX14) (T := TX14) (N := 67) hx hb hts (mc_ inX14) tyX14 tyX14_ok nmX14 hown hK g ma0_ ka0_ (by decide) rfl 12 (by decide) (hts _ (List.mem_cons_of_mem _ t_2158)) (fun _ h9 => h9) rfl rfl okV_l rfl rfl (by decide) (Or.inr (Or.inl (by decide))) (fx' := [(14, 6, a0_, .int g161_14_6_a0_), (14, 7, a0_, .int g161_14_7_a0_), (14, 9, a0_, .int v77_3), (14, 10, a0_, .int y_14), (14, 5, a0_, .int x_7), (14, 8, a0_, .int j31_1)]) rfl dX14_scan_183 (fun f H locs hM_305 g => ?_)
                              have hl9 := lv_sub hl [0, 1, 2, 3] (by rfl : lv_pick [(3, .int v77_3), (2, .int r_3), (1, .int j31_1), (0, .ref a0_)] [0, 1, 2, 3] = [(3, .int v77_3), (2, .int r_3), (1, .int j31_1), (0, .ref a0_)])
                              have g9 := g.sub (fx' := [(14, 12, a0_, .long r_304), (14, 6, a0_, .int g161_14_6_a0_), (14, 7, a0_, .int g161_14_7_a0_), (14, 9, a0_, .int v77_3), (14, 10, a0_, .int y_14), (14, 5, a0_, .int x_7), (14, 8, a0_, .int j31_1)]) [0, 1, 2, 3, 4, 5, 6] rfl
                              exact join_277 r_304 _ _ _ _  g9  hl9
                          refine lv_aload_n hx hb dX14_scan_115 rfl (lv_at hl 3 rfl) ?_
                          refine lv_iload_n hx hb dX14_scan_116 rfl (lv_at hl 0 rfl) ?_
                          refine g_put (C := RX14) (T := TX14) (N := 67) hx hb hts (mc_ inX14) tyX14 tyX14_ok nmX14 hown hK g ma0_ ka0_ (by decide) rfl 9 (by decide) (hts _ (List.mem_cons_of_mem _ t_2155)) (fun _ h9 => h9) rfl rfl (okV_i (bd_sub b_273 (by decide))) rfl rfl (by decide) (Or.inr (Or.inl (by decide))) (fx' := [(14, 10, a0_, .int y_14), (14, 5, a0_, .int x_7), (14, 8, a0_, .int j31_1)]) rfl dX14_scan_117 (fun f H locs hM_306 g => ?_)
                          refine lv_aload_n hx hb dX14_scan_120 rfl (lv_at hl 3 rfl) ?_
                          refine lv_aload_n hx hb dX14_scan_121 rfl (lv_at hl 3 rfl) ?_
                          refine lv_iload_n hx hb dX14_scan_122 rfl (lv_at hl 2 rfl) ?_
                          refine lv_iload_n hx hb dX14_scan_123 rfl (lv_at hl 0 rfl) ?_
                          refine lv_iload_n hx hb dX14_scan_124 rfl (lv_at hl 2 rfl) ?_
                          refine lv_isub hx hb dX14_scan_125 ?_
                          refine lv_topi (fun y_307 ey_307 => ?_)
                          have ty_307 := sub_bd ey_307 b_273 b_12 (by decide)
                          have b_308 : bd (-3999) 3999 y_307 := sub_rg ty_307 b_273 b_12 (by decide)
                          refine g_calli (va_runV (As := [.int j31_1, .int y_307]) (rest := [.ref a0_]) ⟨hx, hb, hml, hown, hts⟩ (r_X14_keyAt l dC dI L kd tys f H.size g.2.2.2.1 adK adV a0_ ma0_ ka0_ j31_1 b_12 y_307 (bd_sub b_308 (by decide))) (cwV 2 hts (gV_ t_2374 t_2376 t_94 t_198 t_2377) rfl rfl rfl (by decide +kernel) ⟨(Nat.le_of_ble_eq_true rfl), (Nat.le_of_ble_eq_true rfl)⟩) (pre3VA g hK hAm ma0_ ka0_ (by decide) (q := (RX14, TX14, 67)) rfl) rfl rfl hl.1 rfl (lv_room (Nat.le_of_ble_eq_true rfl)) dX14_scan_126 ⟨(Nat.le_of_ble_eq_true rfl), (Nat.le_of_ble_eq_true rfl)⟩) g hK (by decide) (by decide) (fx' := [(14, 9, a0_, .int v77_3), (14, 10, a0_, .int y_14), (14, 5, a0_, .int x_7), (14, 8, a0_, .int j31_1)]) rfl (fun r_309 fr_309 H locs hp hMr_309 g => ?_)
                          refine g_put (C := RX14) (T := TX14) (N := 67) hx hb hts (mc_ inX14) tyX14 tyX14_ok nmX14 hown hK g ma0_ ka0_ (by decide) rfl 7 (by decide) (hts _ (List.mem_cons_of_mem _ t_2153)) (fun _ h9 => h9) rfl rfl (okV_i (bdT r_309)) rfl rfl (by decide) (Or.inr (Or.inl (by decide))) (fx' := [(14, 9, a0_, .int v77_3), (14, 10, a0_, .int y_14), (14, 5, a0_, .int x_7), (14, 8, a0_, .int j31_1)]) rfl dX14_scan_129 (fun f H locs hM_310 g => ?_)
                          refine lv_aload_n hx hb dX14_scan_132 rfl (lv_at hl 3 rfl) ?_
                          refine lv_aload_n hx hb dX14_scan_133 rfl (lv_at hl 3 rfl) ?_
                          refine g_getk (C := RX14) (T := TX14) (N := 67) hx hb hts (mc_ inX14) hown hK g rfl 7 (by decide) rfl (hts _ (List.mem_cons_of_mem _ t_2153)) (fun _ h9 => h9) 0 rfl dX14_scan_134 ?_
                          refine lv_iconst (v := (-1)) hx hb dX14_scan_137 (by decide) ?_
                          refine lv_icmp_eq (tgt := 145) hx hb dX14_scan_138 (by decide) (fun c_311 => ?_) (fun c_311 => ?_)
                          · have fc_311 := eq_f c_311
                            have b_312 : bd (-1) (-1) r_309 := eqX fc_311 (bdT r_309) kb_m1 (by decide)
                            refine lv_iload_n hx hb dX14_scan_145 rfl (lv_at hl 0 rfl) ?_
                            refine lv_iload_n hx hb dX14_scan_146 rfl (lv_at hl 2 rfl) ?_
                            refine lv_isub hx hb dX14_scan_147 ?_
                            refine lv_topi (fun y_313 ey_313 => ?_)
                            obtain rfl : y_307 = y_313 := ey_307.trans ey_313.symm
                            refine lv_bipush (v := 12) hx hb dX14_scan_148 (by decide) ?_
                            have kb_12 : bd 12 12 (12 : Int32) := ⟨by decide, by decide⟩
                            refine lv_icmp_le (tgt := 157) hx hb dX14_scan_150 (by decide) (fun c_314 => ?_) (fun c_314 => ?_)
                            · have fc_314 := le_f c_314
                              have b_315 : bd (-3999) 12 y_307 := leL fc_314 b_308 kb_12 (by decide)
                              refine lv_iconst (v := 1) hx hb dX14_scan_157 (by decide) ?_
                              refine g_put (C := RX14) (T := TX14) (N := 67) hx hb hts (mc_ inX14) tyX14 tyX14_ok nmX14 hown hK g ma0_ ka0_ (by decide) rfl 6 (by decide) (hts _ (List.mem_cons_of_mem _ t_2152)) (fun _ h9 => h9) rfl rfl (okV_i (bd_sub kb_1 (by decide))) rfl rfl (by decide) (Or.inr (Or.inl (by decide))) (fx' := [(14, 7, a0_, .int r_309), (14, 9, a0_, .int v77_3), (14, 10, a0_, .int y_14), (14, 5, a0_, .int x_7), (14, 8, a0_, .int j31_1)]) rfl dX14_scan_158 (fun f H locs hM_316 g => ?_)
                              have hl9 := lv_sub hl [0, 1, 2, 3] (by rfl : lv_pick [(3, .int v77_3), (2, .int r_3), (1, .int j31_1), (0, .ref a0_)] [0, 1, 2, 3] = [(3, .int v77_3), (2, .int r_3), (1, .int j31_1), (0, .ref a0_)])
                              have g9 := g.sub (fx' := [(14, 6, a0_, .int 1), (14, 7, a0_, .int r_309), (14, 9, a0_, .int v77_3), (14, 10, a0_, .int y_14), (14, 5, a0_, .int x_7), (14, 8, a0_, .int j31_1)]) [0, 1, 2, 3, 4, 5] rfl
                              exact join_276 1 r_309 _ _ _ _ (bd_sub kb_1 (by decide)) g9  hl9
                            · have fc_314 := nle_f c_314
                              have b_317 : bd 13 3999 y_307 := ltR fc_314 kb_12 b_308 (by decide)
                              refine lv_iconst (v := 0) hx hb dX14_scan_153 (by decide) ?_
                              refine lv_goto (tgt := 158) hx hb dX14_scan_154 (by decide) ?_
                              have kb_0 : bd 0 0 (0 : Int32) := ⟨by decide, by decide⟩
                              refine g_put (C := RX14) (T := TX14) (N := 67) hx hb hts (mc_ inX14) tyX14 tyX14_ok nmX14 hown hK g ma0_ ka0_ (by decide) rfl 6 (by decide) (hts _ (List.mem_cons_of_mem _ t_2152)) (fun _ h9 => h9) rfl rfl (okV_i (bd_sub kb_0 (by decide))) rfl rfl (by decide) (Or.inr (Or.inl (by decide))) (fx' := [(14, 7, a0_, .int r_309), (14, 9, a0_, .int v77_3), (14, 10, a0_, .int y_14), (14, 5, a0_, .int x_7), (14, 8, a0_, .int j31_1)]) rfl dX14_scan_158 (fun f H locs hM_318 g => ?_)
                              have hl9 := lv_sub hl [0, 1, 2, 3] (by rfl : lv_pick [(3, .int v77_3), (2, .int r_3), (1, .int j31_1), (0, .ref a0_)] [0, 1, 2, 3] = [(3, .int v77_3), (2, .int r_3), (1, .int j31_1), (0, .ref a0_)])
                              have g9 := g.sub (fx' := [(14, 6, a0_, .int 0), (14, 7, a0_, .int r_309), (14, 9, a0_, .int v77_3), (14, 10, a0_, .int y_14), (14, 5, a0_, .int x_7), (14, 8, a0_, .int j31_1)]) [0, 1, 2, 3, 4, 5] rfl
                              exact join_276 0 r_309 _ _ _ _ (bd_sub kb_0 (by decide)) g9  hl9
                          · have fc_311 := neq_f c_311
                            refine lv_iconst (v := 2) hx hb dX14_scan_141 (by decide) ?_
                            refine lv_goto (tgt := 158) hx hb dX14_scan_142 (by decide) ?_
                            have kb_2 : bd 2 2 (2 : Int32) := ⟨by decide, by decide⟩
                            refine g_put (C := RX14) (T := TX14) (N := 67) hx hb hts (mc_ inX14) tyX14 tyX14_ok nmX14 hown hK g ma0_ ka0_ (by decide) rfl 6 (by decide) (hts _ (List.mem_cons_of_mem _ t_2152)) (fun _ h9 => h9) rfl rfl (okV_i (bd_sub kb_2 (by decide))) rfl rfl (by decide) (Or.inr (Or.inl (by decide))) (fx' := [(14, 7, a0_, .int r_309), (14, 9, a0_, .int v77_3), (14, 10, a0_, .int y_14), (14, 5, a0_, .int x_7), (14, 8, a0_, .int j31_1)]) rfl dX14_scan_158 (fun f H locs hM_319 g => ?_)
                            have hl9 := lv_sub hl [0, 1, 2, 3] (by rfl : lv_pick [(3, .int v77_3), (2, .int r_3), (1, .int j31_1), (0, .ref a0_)] [0, 1, 2, 3] = [(3, .int v77_3), (2, .int r_3), (1, .int j31_1), (0, .ref a0_)])
                            have g9 := g.sub (fx' := [(14, 6, a0_, .int 2), (14, 7, a0_, .int r_309), (14, 9, a0_, .int v77_3), (14, 10, a0_, .int y_14), (14, 5, a0_, .int x_7), (14, 8, a0_, .int j31_1)]) [0, 1, 2, 3, 4, 5] rfl
                            exact join_276 2 r_309 _ _ _ _ (bd_sub kb_2 (by decide)) g9  hl9
                        · have fc_275 := eq_f c_275
                          have b_320 : bd 95 95 r_123 := eqX fc_275 h_125 kb_95 (by decide)
                          obtain ⟨y_321, ey_321⟩ : ∃ z : Int32, z = v77_3 + 1 := ⟨_, rfl⟩
                          refine lv_iinc (v := y_321) (lv' := [(3, .int y_321), (2, .int r_3), (1, .int j31_1), (0, .ref a0_)]) hx hb dX14_scan_109 hl (k := 0) rfl (by rw [ey_321]; rfl) (by decide) rfl (fun ls hl => ?_)
                          have ty_321 := add_bd ey_321 b_273 kb_1 (by decide)
                          have b_322 : bd 1 4000 y_321 := add_rg ty_321 b_273 kb_1 (by decide)
                          refine lv_goto (tgt := 77) hx hb dX14_scan_112 (by decide) ?_
                          have hl9 := lv_sub hl [0, 1, 2, 3] (by rfl : lv_pick [(3, .int y_321), (2, .int r_3), (1, .int j31_1), (0, .ref a0_)] [0, 1, 2, 3] = [(3, .int y_321), (2, .int r_3), (1, .int j31_1), (0, .ref a0_)])
                          have g9 := g.sub (fx' := [(14, 10, a0_, .int y_14), (14, 5, a0_, .int x_7), (14, 8, a0_, .int j31_1), (14, 9, a0_, .int g31_14_9_a0_)]) [0, 1, 2, 3] rfl
                          exact ih77  y_321 (bd_sub b_322 (by decide)) (by have h9_0 := b_322; unfold bd at h9_0; have h9_1 := bv77_3; unfold bd at h9_1; have h9_2 := kb_1; unfold bd at h9_2; have h9_3 := kb_95; unfold bd at h9_3; have h9_4 := kb_m1; unfold bd at h9_4; omega) _ _ _ _ g9  hl9
                    · obtain rfl : r_119 = 1 := h_121
                      exact bd_no (eqX rfl h_122 kb_m1 (lo := 48) (hi := (-1)) (by decide)) (by decide)
                  · have b_323 : bd 0 3999 v77_3 := eqX rfl bv77_3 h_115 (by decide)
                    have g := g.more hF_118
                    have e_324 := fx_same g 2 0 rfl rfl
                    have g := g.sub (fx' := [(14, 10, a0_, .int y_14), (14, 5, a0_, .int x_7), (14, 8, a0_, .int j31_1), (14, 9, a0_, .int g31_14_9_a0_)]) [1, 2, 3, 4] rfl
                    refine g_calli (va_runS (As := [.int r_112]) (rest := []) ⟨hx, hb, hml, hown, hts⟩ (r_X14_isDigit l dC dI L kd tys fr_112 H.size g.2.2.2.1 r_112) (va_cwS 1 hts (gS_ t_2371 t_2372 t_198 t_2373) rfl rfl rfl (by decide +kernel) ⟨(Nat.le_of_ble_eq_true rfl), (Nat.le_of_ble_eq_true rfl)⟩) (pre3S g hK) rfl rfl hl.1 rfl (lv_room (Nat.le_of_ble_eq_true rfl)) dX14_scan_93 ⟨(Nat.le_of_ble_eq_true rfl), (Nat.le_of_ble_eq_true rfl)⟩) g hK (by decide) (by decide) (fx' := [(14, 10, a0_, .int y_14), (14, 5, a0_, .int x_7), (14, 8, a0_, .int j31_1), (14, 9, a0_, .int g31_14_9_a0_)]) rfl (fun r_325 fr_325 H locs hp hMr_325 g => ?_)
                    rcases hp with ⟨h_326, -⟩ | ⟨h_327, h_328, -⟩
                    · obtain rfl : r_325 = 0 := h_326
                      refine lv_if_ne (tgt := 109) hx hb dX14_scan_96 (by decide) (fun c_ => absurd c_ (by decide)) (fun c_ => ?_)
                      refine lv_aload_n hx hb dX14_scan_99 rfl (lv_at hl 3 rfl) ?_
                      refine lv_iload_n hx hb dX14_scan_100 rfl (lv_at hl 0 rfl) ?_
                      refine g_calli (va_runV (As := [.int v77_3]) (rest := []) ⟨hx, hb, hml, hown, hts⟩ (r_X14_see l dC dI L kd tys fr_325 H.size g.2.2.2.1 a0_ ma0_ ka0_ v77_3 (bd_sub b_323 (by decide))) (cwV 1 hts (gV_ t_2364 t_2366 t_93 t_198 t_2367) rfl rfl rfl (by decide +kernel) ⟨(Nat.le_of_ble_eq_true rfl), (Nat.le_of_ble_eq_true rfl)⟩) (pre3V g hK ma0_ ka0_ (by decide) (q := (RX14, TX14, 67)) rfl) rfl rfl hl.1 rfl (lv_room (Nat.le_of_ble_eq_true rfl)) dX14_scan_101 ⟨(Nat.le_of_ble_eq_true rfl), (Nat.le_of_ble_eq_true rfl)⟩) g hK (by decide) (by decide) (fx' := [(14, 10, a0_, .int y_14), (14, 5, a0_, .int x_7), (14, 8, a0_, .int j31_1), (14, 9, a0_, .int g31_14_9_a0_)]) rfl (fun r_329 fr_329 H locs hp hMr_329 g => ?_)
                      rcases hp with ⟨h_330, -⟩ | ⟨h_331, h_332, x_333, h_334, hF_335⟩
                      · obtain rfl : r_329 = (-1) := h_330
                        refine lv_bipush (v := 95) hx hb dX14_scan_104 (by decide) ?_
                        refine lv_icmp_ne (tgt := 115) hx hb dX14_scan_106 (by decide) (fun c_ => ?_) (fun c_ => absurd c_ (by decide))
                        refine lv_aload_n hx hb dX14_scan_115 rfl (lv_at hl 3 rfl) ?_
                        refine lv_iload_n hx hb dX14_scan_116 rfl (lv_at hl 0 rfl) ?_
                        refine g_put (C := RX14) (T := TX14) (N := 67) hx hb hts (mc_ inX14) tyX14 tyX14_ok nmX14 hown hK g ma0_ ka0_ (by decide) rfl 9 (by decide) (hts _ (List.mem_cons_of_mem _ t_2155)) (fun _ h9 => h9) rfl rfl (okV_i (bd_sub b_323 (by decide))) rfl rfl (by decide) (Or.inr (Or.inl (by decide))) (fx' := [(14, 10, a0_, .int y_14), (14, 5, a0_, .int x_7), (14, 8, a0_, .int j31_1)]) rfl dX14_scan_117 (fun f H locs hM_336 g => ?_)
                        refine lv_aload_n hx hb dX14_scan_120 rfl (lv_at hl 3 rfl) ?_
                        refine lv_aload_n hx hb dX14_scan_121 rfl (lv_at hl 3 rfl) ?_
                        refine lv_iload_n hx hb dX14_scan_122 rfl (lv_at hl 2 rfl) ?_
                        refine lv_iload_n hx hb dX14_scan_123 rfl (lv_at hl 0 rfl) ?_
                        refine lv_iload_n hx hb dX14_scan_124 rfl (lv_at hl 2 rfl) ?_
                        refine lv_isub hx hb dX14_scan_125 ?_
                        refine lv_topi (fun y_337 ey_337 => ?_)
                        have ty_337 := sub_bd ey_337 b_323 b_12 (by decide)
                        have b_338 : bd (-3999) 3999 y_337 := sub_rg ty_337 b_323 b_12 (by decide)
                        refine g_calli (va_runV (As := [.int j31_1, .int y_337]) (rest := [.ref a0_]) ⟨hx, hb, hml, hown, hts⟩ (r_X14_keyAt l dC dI L kd tys f H.size g.2.2.2.1 adK adV a0_ ma0_ ka0_ j31_1 b_12 y_337 (bd_sub b_338 (by decide))) (cwV 2 hts (gV_ t_2374 t_2376 t_94 t_198 t_2377) rfl rfl rfl (by decide +kernel) ⟨(Nat.le_of_ble_eq_true rfl), (Nat.le_of_ble_eq_true rfl)⟩) (pre3VA g hK hAm ma0_ ka0_ (by decide) (q := (RX14, TX14, 67)) rfl) rfl rfl hl.1 rfl (lv_room (Nat.le_of_ble_eq_true rfl)) dX14_scan_126 ⟨(Nat.le_of_ble_eq_true rfl), (Nat.le_of_ble_eq_true rfl)⟩) g hK (by decide) (by decide) (fx' := [(14, 9, a0_, .int v77_3), (14, 10, a0_, .int y_14), (14, 5, a0_, .int x_7), (14, 8, a0_, .int j31_1)]) rfl (fun r_339 fr_339 H locs hp hMr_339 g => ?_)
                        refine g_put (C := RX14) (T := TX14) (N := 67) hx hb hts (mc_ inX14) tyX14 tyX14_ok nmX14 hown hK g ma0_ ka0_ (by decide) rfl 7 (by decide) (hts _ (List.mem_cons_of_mem _ t_2153)) (fun _ h9 => h9) rfl rfl (okV_i (bdT r_339)) rfl rfl (by decide) (Or.inr (Or.inl (by decide))) (fx' := [(14, 9, a0_, .int v77_3), (14, 10, a0_, .int y_14), (14, 5, a0_, .int x_7), (14, 8, a0_, .int j31_1)]) rfl dX14_scan_129 (fun f H locs hM_340 g => ?_)
                        refine lv_aload_n hx hb dX14_scan_132 rfl (lv_at hl 3 rfl) ?_
                        refine lv_aload_n hx hb dX14_scan_133 rfl (lv_at hl 3 rfl) ?_
                        refine g_getk (C := RX14) (T := TX14) (N := 67) hx hb hts (mc_ inX14) hown hK g rfl 7 (by decide) rfl (hts _ (List.mem_cons_of_mem _ t_2153)) (fun _ h9 => h9) 0 rfl dX14_scan_134 ?_
                        refine lv_iconst (v := (-1)) hx hb dX14_scan_137 (by decide) ?_
                        refine lv_icmp_eq (tgt := 145) hx hb dX14_scan_138 (by decide) (fun c_341 => ?_) (fun c_341 => ?_)
                        · have fc_341 := eq_f c_341
                          have b_342 : bd (-1) (-1) r_339 := eqX fc_341 (bdT r_339) kb_m1 (by decide)
                          refine lv_iload_n hx hb dX14_scan_145 rfl (lv_at hl 0 rfl) ?_
                          refine lv_iload_n hx hb dX14_scan_146 rfl (lv_at hl 2 rfl) ?_
                          refine lv_isub hx hb dX14_scan_147 ?_
                          refine lv_topi (fun y_343 ey_343 => ?_)
                          obtain rfl : y_337 = y_343 := ey_337.trans ey_343.symm
                          refine lv_bipush (v := 12) hx hb dX14_scan_148 (by decide) ?_
                          have kb_12 : bd 12 12 (12 : Int32) := ⟨by decide, by decide⟩
                          refine lv_icmp_le (tgt := 157) hx hb dX14_scan_150 (by decide) (fun c_344 => ?_) (fun c_344 => ?_)
                          · have fc_344 := le_f c_344
                            have b_345 : bd (-3999) 12 y_337 := leL fc_344 b_338 kb_12 (by decide)
                            refine lv_iconst (v := 1) hx hb dX14_scan_157 (by decide) ?_
                            refine g_put (C := RX14) (T := TX14) (N := 67) hx hb hts (mc_ inX14) tyX14 tyX14_ok nmX14 hown hK g ma0_ ka0_ (by decide) rfl 6 (by decide) (hts _ (List.mem_cons_of_mem _ t_2152)) (fun _ h9 => h9) rfl rfl (okV_i (bd_sub kb_1 (by decide))) rfl rfl (by decide) (Or.inr (Or.inl (by decide))) (fx' := [(14, 7, a0_, .int r_339), (14, 9, a0_, .int v77_3), (14, 10, a0_, .int y_14), (14, 5, a0_, .int x_7), (14, 8, a0_, .int j31_1)]) rfl dX14_scan_158 (fun f H locs hM_346 g => ?_)
                            refine lv_aload_n hx hb dX14_scan_161 rfl (lv_at hl 3 rfl) ?_
                            refine lv_aload_n hx hb dX14_scan_162 rfl (lv_at hl 3 rfl) ?_
                            refine lv_iload_n hx hb dX14_scan_163 rfl (lv_at hl 2 rfl) ?_
                            refine lv_iload_n hx hb dX14_scan_164 rfl (lv_at hl 0 rfl) ?_
                            refine lv_iload_n hx hb dX14_scan_165 rfl (lv_at hl 2 rfl) ?_
                            refine lv_bipush (v := 6) hx hb dX14_scan_166 (by decide) ?_
                            have kb_6 : bd 6 6 (6 : Int32) := ⟨by decide, by decide⟩
                            refine lv_iadd hx hb dX14_scan_168 ?_
                            refine lv_topi (fun y_347 ey_347 => ?_)
                            have ty_347 := add_bd ey_347 b_12 kb_6 (by decide)
                            have b_348 : bd 6 4005 y_347 := add_rg ty_347 b_12 kb_6 (by decide)
                            refine lv_icmp_ge (tgt := 176) hx hb dX14_scan_169 (by decide) (fun c_349 => ?_) (fun c_349 => ?_)
                            · have fc_349 := le_f c_349
                              have b_350 : bd 6 3999 y_347 := leL fc_349 b_348 b_323 (by decide)
                              have b_351 : bd 0 3993 j31_1 := add_inv ty_347 b_350 b_12 kb_6 (by decide)
                              have b_352 : bd 6 3999 v77_3 := leR fc_349 b_348 b_323 (by decide)
                              refine lv_iload_n hx hb dX14_scan_176 rfl (lv_at hl 2 rfl) ?_
                              refine lv_bipush (v := 6) hx hb dX14_scan_177 (by decide) ?_
                              refine lv_iadd hx hb dX14_scan_179 ?_
                              refine lv_topi (fun y_353 ey_353 => ?_)
                              obtain rfl : y_347 = y_353 := ey_347.trans ey_353.symm
                              refine g_calll (va_runV (As := [.int j31_1, .int y_347]) (rest := [.ref a0_]) ⟨hx, hb, hml, hown, hts⟩ (r_X14_letters l dC dI L kd tys f H.size g.2.2.2.1 a0_ ma0_ ka0_ j31_1 (bd_sub b_351 (by decide)) y_347 (bd_sub b_350 (by decide))) (cwV 2 hts (gV_ t_2381 t_2383 t_95 t_198 t_2384) rfl rfl rfl (by decide +kernel) ⟨(Nat.le_of_ble_eq_true rfl), (Nat.le_of_ble_eq_true rfl)⟩) (pre3V g hK ma0_ ka0_ (by decide) (q := (RX14, TX14, 67)) rfl) rfl rfl hl.1 rfl (lv_room (Nat.le_of_ble_eq_true rfl)) dX14_scan_180 ⟨(Nat.le_of_ble_eq_true rfl), (Nat.le_of_ble_eq_true rfl)⟩) g hK (by decide) (by decide) (fx' := [(14, 6, a0_, .int 1), (14, 7, a0_, .int r_339), (14, 9, a0_, .int v77_3), (14, 10, a0_, .int y_14), (14, 5, a0_, .int x_7), (14, 8, a0_, .int j31_1)]) rfl (fun r_354 fr_354 H locs hp hMr_354 g => ?_)
                              refine g_put (C := RX14) (T := TX14) (N := 67) hx hb hts (mc_ inX14) tyX14 tyX14_ok nmX14 hown hK g ma0_ ka0_ (by decide) rfl 12 (by decide) (hts _ (List.mem_cons_of_mem _ t_2158)) (fun _ h9 => h9) rfl rfl okV_l rfl rfl (by decide) (Or.inr (Or.inl (by decide))) (fx' := [(14, 6, a0_, .int 1), (14, 7, a0_, .int r_339), (14, 9, a0_, .int v77_3), (14, 10, a0_, .int y_14), (14, 5, a0_, .int x_7), (14, 8, a0_, .int j31_1)]) rfl dX14_scan_183 (fun f H locs hM_355 g => ?_)
                              refine lv_aload_n hx hb dX14_scan_186 rfl (lv_at hl 3 rfl) ?_
                              refine lv_iload_n hx hb dX14_scan_187 rfl (lv_at hl 0 rfl) ?_
                              refine lv_iload_n hx hb dX14_scan_188 rfl (lv_at hl 2 rfl) ?_
                              refine lv_bipush (v := 6) hx hb dX14_scan_189 (by decide) ?_
                              refine lv_iadd hx hb dX14_scan_191 ?_
                              refine lv_topi (fun y_356 ey_356 => ?_)
                              obtain rfl : y_347 = y_356 := ey_347.trans ey_356.symm
                              refine lv_icmp_le (tgt := 215) hx hb dX14_scan_192 (by decide) (fun c_357 => ?_) (fun c_357 => ?_)
                              · have fc_357 := le_f c_357
                                refine lv_lconst (v := 0) hx hb dX14_scan_215 (by decide) ?_
                                refine g_put (C := RX14) (T := TX14) (N := 67) hx hb hts (mc_ inX14) tyX14 tyX14_ok nmX14 hown hK g ma0_ ka0_ (by decide) rfl 13 (by decide) (hts _ (List.mem_cons_of_mem _ t_2159)) (fun _ h9 => h9) rfl rfl okV_l rfl rfl (by decide) (Or.inr (Or.inl (by decide))) (fx' := [(14, 12, a0_, .long r_354), (14, 6, a0_, .int 1), (14, 7, a0_, .int r_339), (14, 9, a0_, .int v77_3), (14, 10, a0_, .int y_14), (14, 5, a0_, .int x_7), (14, 8, a0_, .int j31_1)]) rfl dX14_scan_216 (fun f H locs hM_358 g => ?_)
                                refine lv_goto (tgt := 324) hx hb dX14_scan_219 (by decide) ?_
                                subst hQ
                                exact W.vret hx hb hr (fun t ht hW => ⟨⟨_, rfl, ⟨y_14, (bd_sub b_15 (by decide)), (g.fcts [5] rfl)⟩, q3_of g hK ht hW⟩, g.2.2.1.F ht⟩) g.2.2.1.2.2 dX14_scan_324
                              · have fc_357 := nle_f c_357
                                have b_359 : bd 6 3998 y_347 := ltL fc_357 b_350 b_352 (by decide)
                                have b_360 : bd 0 3992 j31_1 := add_inv ty_347 b_359 b_351 kb_6 (by decide)
                                have b_361 : bd 7 3999 v77_3 := ltR fc_357 b_350 b_352 (by decide)
                                refine lv_iload_n hx hb dX14_scan_195 rfl (lv_at hl 0 rfl) ?_
                                refine lv_iload_n hx hb dX14_scan_196 rfl (lv_at hl 2 rfl) ?_
                                refine lv_bipush (v := 12) hx hb dX14_scan_197 (by decide) ?_
                                refine lv_iadd hx hb dX14_scan_199 ?_
                                refine lv_topi (fun y_362 ey_362 => ?_)
                                have ty_362 := add_bd ey_362 b_360 kb_12 (by decide)
                                have b_363 : bd 12 4004 y_362 := add_rg ty_362 b_360 kb_12 (by decide)
                                refine lv_icmp_gt (tgt := 215) hx hb dX14_scan_200 (by decide) (fun c_364 => ?_) (fun c_364 => ?_)
                                · have fc_364 := lt_f c_364
                                  have b_365 : bd 12 3998 y_362 := ltL fc_364 b_363 b_361 (by decide)
                                  have b_366 : bd 0 3986 j31_1 := add_inv ty_362 b_365 b_360 kb_12 (by decide)
                                  have b_367 : bd 13 3999 v77_3 := ltR fc_364 b_363 b_361 (by decide)
                                  refine lv_lconst (v := 0) hx hb dX14_scan_215 (by decide) ?_
                                  refine g_put (C := RX14) (T := TX14) (N := 67) hx hb hts (mc_ inX14) tyX14 tyX14_ok nmX14 hown hK g ma0_ ka0_ (by decide) rfl 13 (by decide) (hts _ (List.mem_cons_of_mem _ t_2159)) (fun _ h9 => h9) rfl rfl okV_l rfl rfl (by decide) (Or.inr (Or.inl (by decide))) (fx' := [(14, 12, a0_, .long r_354), (14, 6, a0_, .int 1), (14, 7, a0_, .int r_339), (14, 9, a0_, .int v77_3), (14, 10, a0_, .int y_14), (14, 5, a0_, .int x_7), (14, 8, a0_, .int j31_1)]) rfl dX14_scan_216 (fun f H locs hM_368 g => ?_)
                                  refine lv_goto (tgt := 324) hx hb dX14_scan_219 (by decide) ?_
                                  subst hQ
                                  exact W.vret hx hb hr (fun t ht hW => ⟨⟨_, rfl, ⟨y_14, (bd_sub b_15 (by decide)), (g.fcts [5] rfl)⟩, q3_of g hK ht hW⟩, g.2.2.1.F ht⟩) g.2.2.1.2.2 dX14_scan_324
                                · have fc_364 := nlt_f c_364
                                  refine lv_aload_n hx hb dX14_scan_203 rfl (lv_at hl 3 rfl) ?_
                                  refine lv_iload_n hx hb dX14_scan_204 rfl (lv_at hl 2 rfl) ?_
                                  refine lv_bipush (v := 6) hx hb dX14_scan_205 (by decide) ?_
                                  refine lv_iadd hx hb dX14_scan_207 ?_
                                  refine lv_topi (fun y_369 ey_369 => ?_)
                                  obtain rfl : y_347 = y_369 := ey_347.trans ey_369.symm
                                  refine lv_iload_n hx hb dX14_scan_208 rfl (lv_at hl 0 rfl) ?_
                                  refine g_calll (va_runV (As := [.int y_347, .int v77_3]) (rest := [.ref a0_]) ⟨hx, hb, hml, hown, hts⟩ (r_X14_letters l dC dI L kd tys f H.size g.2.2.2.1 a0_ ma0_ ka0_ y_347 (bd_sub b_359 (by decide)) v77_3 (bd_sub b_361 (by decide))) (cwV 2 hts (gV_ t_2381 t_2383 t_95 t_198 t_2384) rfl rfl rfl (by decide +kernel) ⟨(Nat.le_of_ble_eq_true rfl), (Nat.le_of_ble_eq_true rfl)⟩) (pre3V g hK ma0_ ka0_ (by decide) (q := (RX14, TX14, 67)) rfl) rfl rfl hl.1 rfl (lv_room (Nat.le_of_ble_eq_true rfl)) dX14_scan_209 ⟨(Nat.le_of_ble_eq_true rfl), (Nat.le_of_ble_eq_true rfl)⟩) g hK (by decide) (by decide) (fx' := [(14, 12, a0_, .long r_354), (14, 6, a0_, .int 1), (14, 7, a0_, .int r_339), (14, 9, a0_, .int v77_3), (14, 10, a0_, .int y_14), (14, 5, a0_, .int x_7), (14, 8, a0_, .int j31_1)]) rfl (fun r_370 fr_370 H locs hp hMr_370 g => ?_)
                                  refine lv_goto (tgt := 216) hx hb dX14_scan_212 (by decide) ?_
                                  refine g_put (C := RX14) (T := TX14) (N := 67) hx hb hts (mc_ inX14) tyX14 tyX14_ok nmX14 hown hK g ma0_ ka0_ (by decide) rfl 13 (by decide) (hts _ (List.mem_cons_of_mem _ t_2159)) (fun _ h9 => h9) rfl rfl okV_l rfl rfl (by decide) (Or.inr (Or.inl (by decide))) (fx' := [(14, 12, a0_, .long r_354), (14, 6, a0_, .int 1), (14, 7, a0_, .int r_339), (14, 9, a0_, .int v77_3), (14, 10, a0_, .int y_14), (14, 5, a0_, .int x_7), (14, 8, a0_, .int j31_1)]) rfl dX14_scan_216 (fun f H locs hM_371 g => ?_)
                                  refine lv_goto (tgt := 324) hx hb dX14_scan_219 (by decide) ?_
                                  subst hQ
                                  exact W.vret hx hb hr (fun t ht hW => ⟨⟨_, rfl, ⟨y_14, (bd_sub b_15 (by decide)), (g.fcts [5] rfl)⟩, q3_of g hK ht hW⟩, g.2.2.1.F ht⟩) g.2.2.1.2.2 dX14_scan_324
                            · have fc_349 := nle_f c_349
                              refine lv_iload_n hx hb dX14_scan_172 rfl (lv_at hl 0 rfl) ?_
                              refine lv_goto (tgt := 180) hx hb dX14_scan_173 (by decide) ?_
                              refine g_calll (va_runV (As := [.int j31_1, .int v77_3]) (rest := [.ref a0_]) ⟨hx, hb, hml, hown, hts⟩ (r_X14_letters l dC dI L kd tys f H.size g.2.2.2.1 a0_ ma0_ ka0_ j31_1 (bd_sub b_12 (by decide)) v77_3 (bd_sub b_323 (by decide))) (cwV 2 hts (gV_ t_2381 t_2383 t_95 t_198 t_2384) rfl rfl rfl (by decide +kernel) ⟨(Nat.le_of_ble_eq_true rfl), (Nat.le_of_ble_eq_true rfl)⟩) (pre3V g hK ma0_ ka0_ (by decide) (q := (RX14, TX14, 67)) rfl) rfl rfl hl.1 rfl (lv_room (Nat.le_of_ble_eq_true rfl)) dX14_scan_180 ⟨(Nat.le_of_ble_eq_true rfl), (Nat.le_of_ble_eq_true rfl)⟩) g hK (by decide) (by decide) (fx' := [(14, 6, a0_, .int 1), (14, 7, a0_, .int r_339), (14, 9, a0_, .int v77_3), (14, 10, a0_, .int y_14), (14, 5, a0_, .int x_7), (14, 8, a0_, .int j31_1)]) rfl (fun r_372 fr_372 H locs hp hMr_372 g => ?_)
                              refine g_put (C := RX14) (T := TX14) (N := 67) hx hb hts (mc_ inX14) tyX14 tyX14_ok nmX14 hown hK g ma0_ ka0_ (by decide) rfl 12 (by decide) (hts _ (List.mem_cons_of_mem _ t_2158)) (fun _ h9 => h9) rfl rfl okV_l rfl rfl (by decide) (Or.inr (Or.inl (by decide))) (fx' := [(14, 6, a0_, .int 1), (14, 7, a0_, .int r_339), (14, 9, a0_, .int v77_3), (14, 10, a0_, .int y_14), (14, 5, a0_, .int x_7), (14, 8, a0_, .int j31_1)]) rfl dX14_scan_183 (fun f H locs hM_373 g => ?_)
                              refine lv_aload_n hx hb dX14_scan_186 rfl (lv_at hl 3 rfl) ?_
                              refine lv_iload_n hx hb dX14_scan_187 rfl (lv_at hl 0 rfl) ?_
                              refine lv_iload_n hx hb dX14_scan_188 rfl (lv_at hl 2 rfl) ?_
                              refine lv_bipush (v := 6) hx hb dX14_scan_189 (by decide) ?_
                              refine lv_iadd hx hb dX14_scan_191 ?_
                              refine lv_topi (fun y_374 ey_374 => ?_)
                              obtain rfl : y_347 = y_374 := ey_347.trans ey_374.symm
                              refine lv_icmp_le (tgt := 215) hx hb dX14_scan_192 (by decide) (fun c_375 => ?_) (fun c_375 => ?_)
                              · have fc_375 := le_f c_375
                                refine lv_lconst (v := 0) hx hb dX14_scan_215 (by decide) ?_
                                refine g_put (C := RX14) (T := TX14) (N := 67) hx hb hts (mc_ inX14) tyX14 tyX14_ok nmX14 hown hK g ma0_ ka0_ (by decide) rfl 13 (by decide) (hts _ (List.mem_cons_of_mem _ t_2159)) (fun _ h9 => h9) rfl rfl okV_l rfl rfl (by decide) (Or.inr (Or.inl (by decide))) (fx' := [(14, 12, a0_, .long r_372), (14, 6, a0_, .int 1), (14, 7, a0_, .int r_339), (14, 9, a0_, .int v77_3), (14, 10, a0_, .int y_14), (14, 5, a0_, .int x_7), (14, 8, a0_, .int j31_1)]) rfl dX14_scan_216 (fun f H locs hM_376 g => ?_)
                                refine lv_goto (tgt := 324) hx hb dX14_scan_219 (by decide) ?_
                                subst hQ
                                exact W.vret hx hb hr (fun t ht hW => ⟨⟨_, rfl, ⟨y_14, (bd_sub b_15 (by decide)), (g.fcts [5] rfl)⟩, q3_of g hK ht hW⟩, g.2.2.1.F ht⟩) g.2.2.1.2.2 dX14_scan_324
                              · have fc_375 := nle_f c_375
                                have b_377 : bd 6 3998 y_347 := ltL fc_375 b_348 b_323 (by decide)
                                have b_378 : bd 0 3992 j31_1 := add_inv ty_347 b_377 b_12 kb_6 (by decide)
                                have b_379 : bd 7 3999 v77_3 := ltR fc_375 b_348 b_323 (by decide)
                                refine lv_iload_n hx hb dX14_scan_195 rfl (lv_at hl 0 rfl) ?_
                                refine lv_iload_n hx hb dX14_scan_196 rfl (lv_at hl 2 rfl) ?_
                                refine lv_bipush (v := 12) hx hb dX14_scan_197 (by decide) ?_
                                refine lv_iadd hx hb dX14_scan_199 ?_
                                refine lv_topi (fun y_380 ey_380 => ?_)
                                have ty_380 := add_bd ey_380 b_378 kb_12 (by decide)
                                have b_381 : bd 12 4004 y_380 := add_rg ty_380 b_378 kb_12 (by decide)
                                refine lv_icmp_gt (tgt := 215) hx hb dX14_scan_200 (by decide) (fun c_382 => ?_) (fun c_382 => ?_)
                                · have fc_382 := lt_f c_382
                                  have b_383 : bd 12 3998 y_380 := ltL fc_382 b_381 b_379 (by decide)
                                  have b_384 : bd 0 3986 j31_1 := add_inv ty_380 b_383 b_378 kb_12 (by decide)
                                  have b_385 : bd 13 3999 v77_3 := ltR fc_382 b_381 b_379 (by decide)
                                  refine lv_lconst (v := 0) hx hb dX14_scan_215 (by decide) ?_
                                  refine g_put (C := RX14) (T := TX14) (N := 67) hx hb hts (mc_ inX14) tyX14 tyX14_ok nmX14 hown hK g ma0_ ka0_ (by decide) rfl 13 (by decide) (hts _ (List.mem_cons_of_mem _ t_2159)) (fun _ h9 => h9) rfl rfl okV_l rfl rfl (by decide) (Or.inr (Or.inl (by decide))) (fx' := [(14, 12, a0_, .long r_372), (14, 6, a0_, .int 1), (14, 7, a0_, .int r_339), (14, 9, a0_, .int v77_3), (14, 10, a0_, .int y_14), (14, 5, a0_, .int x_7), (14, 8, a0_, .int j31_1)]) rfl dX14_scan_216 (fun f H locs hM_386 g => ?_)
                                  refine lv_goto (tgt := 324) hx hb dX14_scan_219 (by decide) ?_
                                  subst hQ
                                  exact W.vret hx hb hr (fun t ht hW => ⟨⟨_, rfl, ⟨y_14, (bd_sub b_15 (by decide)), (g.fcts [5] rfl)⟩, q3_of g hK ht hW⟩, g.2.2.1.F ht⟩) g.2.2.1.2.2 dX14_scan_324
                                · have fc_382 := nlt_f c_382
                                  refine lv_aload_n hx hb dX14_scan_203 rfl (lv_at hl 3 rfl) ?_
                                  refine lv_iload_n hx hb dX14_scan_204 rfl (lv_at hl 2 rfl) ?_
                                  refine lv_bipush (v := 6) hx hb dX14_scan_205 (by decide) ?_
                                  refine lv_iadd hx hb dX14_scan_207 ?_
                                  refine lv_topi (fun y_387 ey_387 => ?_)
                                  obtain rfl : y_347 = y_387 := ey_347.trans ey_387.symm
                                  refine lv_iload_n hx hb dX14_scan_208 rfl (lv_at hl 0 rfl) ?_
                                  refine g_calll (va_runV (As := [.int y_347, .int v77_3]) (rest := [.ref a0_]) ⟨hx, hb, hml, hown, hts⟩ (r_X14_letters l dC dI L kd tys f H.size g.2.2.2.1 a0_ ma0_ ka0_ y_347 (bd_sub b_377 (by decide)) v77_3 (bd_sub b_379 (by decide))) (cwV 2 hts (gV_ t_2381 t_2383 t_95 t_198 t_2384) rfl rfl rfl (by decide +kernel) ⟨(Nat.le_of_ble_eq_true rfl), (Nat.le_of_ble_eq_true rfl)⟩) (pre3V g hK ma0_ ka0_ (by decide) (q := (RX14, TX14, 67)) rfl) rfl rfl hl.1 rfl (lv_room (Nat.le_of_ble_eq_true rfl)) dX14_scan_209 ⟨(Nat.le_of_ble_eq_true rfl), (Nat.le_of_ble_eq_true rfl)⟩) g hK (by decide) (by decide) (fx' := [(14, 12, a0_, .long r_372), (14, 6, a0_, .int 1), (14, 7, a0_, .int r_339), (14, 9, a0_, .int v77_3), (14, 10, a0_, .int y_14), (14, 5, a0_, .int x_7), (14, 8, a0_, .int j31_1)]) rfl (fun r_388 fr_388 H locs hp hMr_388 g => ?_)
                                  refine lv_goto (tgt := 216) hx hb dX14_scan_212 (by decide) ?_
                                  refine g_put (C := RX14) (T := TX14) (N := 67) hx hb hts (mc_ inX14) tyX14 tyX14_ok nmX14 hown hK g ma0_ ka0_ (by decide) rfl 13 (by decide) (hts _ (List.mem_cons_of_mem _ t_2159)) (fun _ h9 => h9) rfl rfl okV_l rfl rfl (by decide) (Or.inr (Or.inl (by decide))) (fx' := [(14, 12, a0_, .long r_372), (14, 6, a0_, .int 1), (14, 7, a0_, .int r_339), (14, 9, a0_, .int v77_3), (14, 10, a0_, .int y_14), (14, 5, a0_, .int x_7), (14, 8, a0_, .int j31_1)]) rfl dX14_scan_216 (fun f H locs hM_389 g => ?_)
                                  refine lv_goto (tgt := 324) hx hb dX14_scan_219 (by decide) ?_
                                  subst hQ
                                  exact W.vret hx hb hr (fun t ht hW => ⟨⟨_, rfl, ⟨y_14, (bd_sub b_15 (by decide)), (g.fcts [5] rfl)⟩, q3_of g hK ht hW⟩, g.2.2.1.F ht⟩) g.2.2.1.2.2 dX14_scan_324
                          · have fc_344 := nle_f c_344
                            have b_390 : bd 13 3999 y_337 := ltR fc_344 kb_12 b_338 (by decide)
                            refine lv_iconst (v := 0) hx hb dX14_scan_153 (by decide) ?_
                            refine lv_goto (tgt := 158) hx hb dX14_scan_154 (by decide) ?_
                            have kb_0 : bd 0 0 (0 : Int32) := ⟨by decide, by decide⟩
                            refine g_put (C := RX14) (T := TX14) (N := 67) hx hb hts (mc_ inX14) tyX14 tyX14_ok nmX14 hown hK g ma0_ ka0_ (by decide) rfl 6 (by decide) (hts _ (List.mem_cons_of_mem _ t_2152)) (fun _ h9 => h9) rfl rfl (okV_i (bd_sub kb_0 (by decide))) rfl rfl (by decide) (Or.inr (Or.inl (by decide))) (fx' := [(14, 7, a0_, .int r_339), (14, 9, a0_, .int v77_3), (14, 10, a0_, .int y_14), (14, 5, a0_, .int x_7), (14, 8, a0_, .int j31_1)]) rfl dX14_scan_158 (fun f H locs hM_391 g => ?_)
                            refine lv_aload_n hx hb dX14_scan_161 rfl (lv_at hl 3 rfl) ?_
                            refine lv_aload_n hx hb dX14_scan_162 rfl (lv_at hl 3 rfl) ?_
                            refine lv_iload_n hx hb dX14_scan_163 rfl (lv_at hl 2 rfl) ?_
                            refine lv_iload_n hx hb dX14_scan_164 rfl (lv_at hl 0 rfl) ?_
                            refine lv_iload_n hx hb dX14_scan_165 rfl (lv_at hl 2 rfl) ?_
                            refine lv_bipush (v := 6) hx hb dX14_scan_166 (by decide) ?_
                            have kb_6 : bd 6 6 (6 : Int32) := ⟨by decide, by decide⟩
                            refine lv_iadd hx hb dX14_scan_168 ?_
                            refine lv_topi (fun y_392 ey_392 => ?_)
                            have ty_392 := add_bd ey_392 b_12 kb_6 (by decide)
                            have b_393 : bd 6 4005 y_392 := add_rg ty_392 b_12 kb_6 (by decide)
                            refine lv_icmp_ge (tgt := 176) hx hb dX14_scan_169 (by decide) (fun c_394 => ?_) (fun c_394 => ?_)
                            · have fc_394 := le_f c_394
                              have b_395 : bd 6 3999 y_392 := leL fc_394 b_393 b_323 (by decide)
                              have b_396 : bd 0 3993 j31_1 := add_inv ty_392 b_395 b_12 kb_6 (by decide)
                              have b_397 : bd 6 3999 v77_3 := leR fc_394 b_393 b_323 (by decide)
                              refine lv_iload_n hx hb dX14_scan_176 rfl (lv_at hl 2 rfl) ?_
                              refine lv_bipush (v := 6) hx hb dX14_scan_177 (by decide) ?_
                              refine lv_iadd hx hb dX14_scan_179 ?_
                              refine lv_topi (fun y_398 ey_398 => ?_)
                              obtain rfl : y_392 = y_398 := ey_392.trans ey_398.symm
                              refine g_calll (va_runV (As := [.int j31_1, .int y_392]) (rest := [.ref a0_]) ⟨hx, hb, hml, hown, hts⟩ (r_X14_letters l dC dI L kd tys f H.size g.2.2.2.1 a0_ ma0_ ka0_ j31_1 (bd_sub b_396 (by decide)) y_392 (bd_sub b_395 (by decide))) (cwV 2 hts (gV_ t_2381 t_2383 t_95 t_198 t_2384) rfl rfl rfl (by decide +kernel) ⟨(Nat.le_of_ble_eq_true rfl), (Nat.le_of_ble_eq_true rfl)⟩) (pre3V g hK ma0_ ka0_ (by decide) (q := (RX14, TX14, 67)) rfl) rfl rfl hl.1 rfl (lv_room (Nat.le_of_ble_eq_true rfl)) dX14_scan_180 ⟨(Nat.le_of_ble_eq_true rfl), (Nat.le_of_ble_eq_true rfl)⟩) g hK (by decide) (by decide) (fx' := [(14, 6, a0_, .int 0), (14, 7, a0_, .int r_339), (14, 9, a0_, .int v77_3), (14, 10, a0_, .int y_14), (14, 5, a0_, .int x_7), (14, 8, a0_, .int j31_1)]) rfl (fun r_399 fr_399 H locs hp hMr_399 g => ?_)
                              refine g_put (C := RX14) (T := TX14) (N := 67) hx hb hts (mc_ inX14) tyX14 tyX14_ok nmX14 hown hK g ma0_ ka0_ (by decide) rfl 12 (by decide) (hts _ (List.mem_cons_of_mem _ t_2158)) (fun _ h9 => h9) rfl rfl okV_l rfl rfl (by decide) (Or.inr (Or.inl (by decide))) (fx' := [(14, 6, a0_, .int 0), (14, 7, a0_, .int r_339), (14, 9, a0_, .int v77_3), (14, 10, a0_, .int y_14), (14, 5, a0_, .int x_7), (14, 8, a0_, .int j31_1)]) rfl dX14_scan_183 (fun f H locs hM_400 g => ?_)
                              refine lv_aload_n hx hb dX14_scan_186 rfl (lv_at hl 3 rfl) ?_
                              refine lv_iload_n hx hb dX14_scan_187 rfl (lv_at hl 0 rfl) ?_
                              refine lv_iload_n hx hb dX14_scan_188 rfl (lv_at hl 2 rfl) ?_
                              refine lv_bipush (v := 6) hx hb dX14_scan_189 (by decide) ?_
                              refine lv_iadd hx hb dX14_scan_191 ?_
                              refine lv_topi (fun y_401 ey_401 => ?_)
                              obtain rfl : y_392 = y_401 := ey_392.trans ey_401.symm
                              refine lv_icmp_le (tgt := 215) hx hb dX14_scan_192 (by decide) (fun c_402 => ?_) (fun c_402 => ?_)
                              · have fc_402 := le_f c_402
                                refine lv_lconst (v := 0) hx hb dX14_scan_215 (by decide) ?_
                                refine g_put (C := RX14) (T := TX14) (N := 67) hx hb hts (mc_ inX14) tyX14 tyX14_ok nmX14 hown hK g ma0_ ka0_ (by decide) rfl 13 (by decide) (hts _ (List.mem_cons_of_mem _ t_2159)) (fun _ h9 => h9) rfl rfl okV_l rfl rfl (by decide) (Or.inr (Or.inl (by decide))) (fx' := [(14, 12, a0_, .long r_399), (14, 6, a0_, .int 0), (14, 7, a0_, .int r_339), (14, 9, a0_, .int v77_3), (14, 10, a0_, .int y_14), (14, 5, a0_, .int x_7), (14, 8, a0_, .int j31_1)]) rfl dX14_scan_216 (fun f H locs hM_403 g => ?_)
                                refine lv_goto (tgt := 324) hx hb dX14_scan_219 (by decide) ?_
                                subst hQ
                                exact W.vret hx hb hr (fun t ht hW => ⟨⟨_, rfl, ⟨y_14, (bd_sub b_15 (by decide)), (g.fcts [5] rfl)⟩, q3_of g hK ht hW⟩, g.2.2.1.F ht⟩) g.2.2.1.2.2 dX14_scan_324
                              · have fc_402 := nle_f c_402
                                have b_404 : bd 6 3998 y_392 := ltL fc_402 b_395 b_397 (by decide)
                                have b_405 : bd 0 3992 j31_1 := add_inv ty_392 b_404 b_396 kb_6 (by decide)
                                have b_406 : bd 7 3999 v77_3 := ltR fc_402 b_395 b_397 (by decide)
                                refine lv_iload_n hx hb dX14_scan_195 rfl (lv_at hl 0 rfl) ?_
                                refine lv_iload_n hx hb dX14_scan_196 rfl (lv_at hl 2 rfl) ?_
                                refine lv_bipush (v := 12) hx hb dX14_scan_197 (by decide) ?_
                                refine lv_iadd hx hb dX14_scan_199 ?_
                                refine lv_topi (fun y_407 ey_407 => ?_)
                                have ty_407 := add_bd ey_407 b_405 kb_12 (by decide)
                                have b_408 : bd 12 4004 y_407 := add_rg ty_407 b_405 kb_12 (by decide)
                                refine lv_icmp_gt (tgt := 215) hx hb dX14_scan_200 (by decide) (fun c_409 => ?_) (fun c_409 => ?_)
                                · have fc_409 := lt_f c_409
                                  have b_410 : bd 12 3998 y_407 := ltL fc_409 b_408 b_406 (by decide)
                                  have b_411 : bd 0 3986 j31_1 := add_inv ty_407 b_410 b_405 kb_12 (by decide)
                                  have b_412 : bd 13 3999 v77_3 := ltR fc_409 b_408 b_406 (by decide)
                                  refine lv_lconst (v := 0) hx hb dX14_scan_215 (by decide) ?_
                                  refine g_put (C := RX14) (T := TX14) (N := 67) hx hb hts (mc_ inX14) tyX14 tyX14_ok nmX14 hown hK g ma0_ ka0_ (by decide) rfl 13 (by decide) (hts _ (List.mem_cons_of_mem _ t_2159)) (fun _ h9 => h9) rfl rfl okV_l rfl rfl (by decide) (Or.inr (Or.inl (by decide))) (fx' := [(14, 12, a0_, .long r_399), (14, 6, a0_, .int 0), (14, 7, a0_, .int r_339), (14, 9, a0_, .int v77_3), (14, 10, a0_, .int y_14), (14, 5, a0_, .int x_7), (14, 8, a0_, .int j31_1)]) rfl dX14_scan_216 (fun f H locs hM_413 g => ?_)
                                  refine lv_goto (tgt := 324) hx hb dX14_scan_219 (by decide) ?_
                                  subst hQ
                                  exact W.vret hx hb hr (fun t ht hW => ⟨⟨_, rfl, ⟨y_14, (bd_sub b_15 (by decide)), (g.fcts [5] rfl)⟩, q3_of g hK ht hW⟩, g.2.2.1.F ht⟩) g.2.2.1.2.2 dX14_scan_324
                                · have fc_409 := nlt_f c_409
                                  refine lv_aload_n hx hb dX14_scan_203 rfl (lv_at hl 3 rfl) ?_
                                  refine lv_iload_n hx hb dX14_scan_204 rfl (lv_at hl 2 rfl) ?_
                                  refine lv_bipush (v := 6) hx hb dX14_scan_205 (by decide) ?_
                                  refine lv_iadd hx hb dX14_scan_207 ?_
                                  refine lv_topi (fun y_414 ey_414 => ?_)
                                  obtain rfl : y_392 = y_414 := ey_392.trans ey_414.symm
                                  refine lv_iload_n hx hb dX14_scan_208 rfl (lv_at hl 0 rfl) ?_
                                  refine g_calll (va_runV (As := [.int y_392, .int v77_3]) (rest := [.ref a0_]) ⟨hx, hb, hml, hown, hts⟩ (r_X14_letters l dC dI L kd tys f H.size g.2.2.2.1 a0_ ma0_ ka0_ y_392 (bd_sub b_404 (by decide)) v77_3 (bd_sub b_406 (by decide))) (cwV 2 hts (gV_ t_2381 t_2383 t_95 t_198 t_2384) rfl rfl rfl (by decide +kernel) ⟨(Nat.le_of_ble_eq_true rfl), (Nat.le_of_ble_eq_true rfl)⟩) (pre3V g hK ma0_ ka0_ (by decide) (q := (RX14, TX14, 67)) rfl) rfl rfl hl.1 rfl (lv_room (Nat.le_of_ble_eq_true rfl)) dX14_scan_209 ⟨(Nat.le_of_ble_eq_true rfl), (Nat.le_of_ble_eq_true rfl)⟩) g hK (by decide) (by decide) (fx' := [(14, 12, a0_, .long r_399), (14, 6, a0_, .int 0), (14, 7, a0_, .int r_339), (14, 9, a0_, .int v77_3), (14, 10, a0_, .int y_14), (14, 5, a0_, .int x_7), (14, 8, a0_, .int j31_1)]) rfl (fun r_415 fr_415 H locs hp hMr_415 g => ?_)
                                  refine lv_goto (tgt := 216) hx hb dX14_scan_212 (by decide) ?_
                                  refine g_put (C := RX14) (T := TX14) (N := 67) hx hb hts (mc_ inX14) tyX14 tyX14_ok nmX14 hown hK g ma0_ ka0_ (by decide) rfl 13 (by decide) (hts _ (List.mem_cons_of_mem _ t_2159)) (fun _ h9 => h9) rfl rfl okV_l rfl rfl (by decide) (Or.inr (Or.inl (by decide))) (fx' := [(14, 12, a0_, .long r_399), (14, 6, a0_, .int 0), (14, 7, a0_, .int r_339), (14, 9, a0_, .int v77_3), (14, 10, a0_, .int y_14), (14, 5, a0_, .int x_7), (14, 8, a0_, .int j31_1)]) rfl dX14_scan_216 (fun f H locs hM_416 g => ?_)
                                  refine lv_goto (tgt := 324) hx hb dX14_scan_219 (by decide) ?_
                                  subst hQ
                                  exact W.vret hx hb hr (fun t ht hW => ⟨⟨_, rfl, ⟨y_14, (bd_sub b_15 (by decide)), (g.fcts [5] rfl)⟩, q3_of g hK ht hW⟩, g.2.2.1.F ht⟩) g.2.2.1.2.2 dX14_scan_324
                            · have fc_394 := nle_f c_394
                              refine lv_iload_n hx hb dX14_scan_172 rfl (lv_at hl 0 rfl) ?_
                              refine lv_goto (tgt := 180) hx hb dX14_scan_173 (by decide) ?_
                              refine g_calll (va_runV (As := [.int j31_1, .int v77_3]) (rest := [.ref a0_]) ⟨hx, hb, hml, hown, hts⟩ (r_X14_letters l dC dI L kd tys f H.size g.2.2.2.1 a0_ ma0_ ka0_ j31_1 (bd_sub b_12 (by decide)) v77_3 (bd_sub b_323 (by decide))) (cwV 2 hts (gV_ t_2381 t_2383 t_95 t_198 t_2384) rfl rfl rfl (by decide +kernel) ⟨(Nat.le_of_ble_eq_true rfl), (Nat.le_of_ble_eq_true rfl)⟩) (pre3V g hK ma0_ ka0_ (by decide) (q := (RX14, TX14, 67)) rfl) rfl rfl hl.1 rfl (lv_room (Nat.le_of_ble_eq_true rfl)) dX14_scan_180 ⟨(Nat.le_of_ble_eq_true rfl), (Nat.le_of_ble_eq_true rfl)⟩) g hK (by decide) (by decide) (fx' := [(14, 6, a0_, .int 0), (14, 7, a0_, .int r_339), (14, 9, a0_, .int v77_3), (14, 10, a0_, .int y_14), (14, 5, a0_, .int x_7), (14, 8, a0_, .int j31_1)]) rfl (fun r_417 fr_417 H locs hp hMr_417 g => ?_)
                              refine g_put (C := RX14) (T := TX14) (N := 67) hx hb hts (mc_ inX14) tyX14 tyX14_ok nmX14 hown hK g ma0_ ka0_ (by decide) rfl 12 (by decide) (hts _ (List.mem_cons_of_mem _ t_2158)) (fun _ h9 => h9) rfl rfl okV_l rfl rfl (by decide) (Or.inr (Or.inl (by decide))) (fx' := [(14, 6, a0_, .int 0), (14, 7, a0_, .int r_339), (14, 9, a0_, .int v77_3), (14, 10, a0_, .int y_14), (14, 5, a0_, .int x_7), (14, 8, a0_, .int j31_1)]) rfl dX14_scan_183 (fun f H locs hM_418 g => ?_)
                              refine lv_aload_n hx hb dX14_scan_186 rfl (lv_at hl 3 rfl) ?_
                              refine lv_iload_n hx hb dX14_scan_187 rfl (lv_at hl 0 rfl) ?_
                              refine lv_iload_n hx hb dX14_scan_188 rfl (lv_at hl 2 rfl) ?_
                              refine lv_bipush (v := 6) hx hb dX14_scan_189 (by decide) ?_
                              refine lv_iadd hx hb dX14_scan_191 ?_
                              refine lv_topi (fun y_419 ey_419 => ?_)
                              obtain rfl : y_392 = y_419 := ey_392.trans ey_419.symm
                              refine lv_icmp_le (tgt := 215) hx hb dX14_scan_192 (by decide) (fun c_420 => ?_) (fun c_420 => ?_)
                              · have fc_420 := le_f c_420
                                refine lv_lconst (v := 0) hx hb dX14_scan_215 (by decide) ?_
                                refine g_put (C := RX14) (T := TX14) (N := 67) hx hb hts (mc_ inX14) tyX14 tyX14_ok nmX14 hown hK g ma0_ ka0_ (by decide) rfl 13 (by decide) (hts _ (List.mem_cons_of_mem _ t_2159)) (fun _ h9 => h9) rfl rfl okV_l rfl rfl (by decide) (Or.inr (Or.inl (by decide))) (fx' := [(14, 12, a0_, .long r_417), (14, 6, a0_, .int 0), (14, 7, a0_, .int r_339), (14, 9, a0_, .int v77_3), (14, 10, a0_, .int y_14), (14, 5, a0_, .int x_7), (14, 8, a0_, .int j31_1)]) rfl dX14_scan_216 (fun f H locs hM_421 g => ?_)
                                refine lv_goto (tgt := 324) hx hb dX14_scan_219 (by decide) ?_
                                subst hQ
                                exact W.vret hx hb hr (fun t ht hW => ⟨⟨_, rfl, ⟨y_14, (bd_sub b_15 (by decide)), (g.fcts [5] rfl)⟩, q3_of g hK ht hW⟩, g.2.2.1.F ht⟩) g.2.2.1.2.2 dX14_scan_324
                              · have fc_420 := nle_f c_420
                                have b_422 : bd 6 3998 y_392 := ltL fc_420 b_393 b_323 (by decide)
                                have b_423 : bd 0 3992 j31_1 := add_inv ty_392 b_422 b_12 kb_6 (by decide)
                                have b_424 : bd 7 3999 v77_3 := ltR fc_420 b_393 b_323 (by decide)
                                refine lv_iload_n hx hb dX14_scan_195 rfl (lv_at hl 0 rfl) ?_
                                refine lv_iload_n hx hb dX14_scan_196 rfl (lv_at hl 2 rfl) ?_
                                refine lv_bipush (v := 12) hx hb dX14_scan_197 (by decide) ?_
                                refine lv_iadd hx hb dX14_scan_199 ?_
                                refine lv_topi (fun y_425 ey_425 => ?_)
                                have ty_425 := add_bd ey_425 b_423 kb_12 (by decide)
                                have b_426 : bd 12 4004 y_425 := add_rg ty_425 b_423 kb_12 (by decide)
                                refine lv_icmp_gt (tgt := 215) hx hb dX14_scan_200 (by decide) (fun c_427 => ?_) (fun c_427 => ?_)
                                · have fc_427 := lt_f c_427
                                  have b_428 : bd 12 3998 y_425 := ltL fc_427 b_426 b_424 (by decide)
                                  have b_429 : bd 0 3986 j31_1 := add_inv ty_425 b_428 b_423 kb_12 (by decide)
                                  have b_430 : bd 13 3999 v77_3 := ltR fc_427 b_426 b_424 (by decide)
                                  refine lv_lconst (v := 0) hx hb dX14_scan_215 (by decide) ?_
                                  refine g_put (C := RX14) (T := TX14) (N := 67) hx hb hts (mc_ inX14) tyX14 tyX14_ok nmX14 hown hK g ma0_ ka0_ (by decide) rfl 13 (by decide) (hts _ (List.mem_cons_of_mem _ t_2159)) (fun _ h9 => h9) rfl rfl okV_l rfl rfl (by decide) (Or.inr (Or.inl (by decide))) (fx' := [(14, 12, a0_, .long r_417), (14, 6, a0_, .int 0), (14, 7, a0_, .int r_339), (14, 9, a0_, .int v77_3), (14, 10, a0_, .int y_14), (14, 5, a0_, .int x_7), (14, 8, a0_, .int j31_1)]) rfl dX14_scan_216 (fun f H locs hM_431 g => ?_)
                                  refine lv_goto (tgt := 324) hx hb dX14_scan_219 (by decide) ?_
                                  subst hQ
                                  exact W.vret hx hb hr (fun t ht hW => ⟨⟨_, rfl, ⟨y_14, (bd_sub b_15 (by decide)), (g.fcts [5] rfl)⟩, q3_of g hK ht hW⟩, g.2.2.1.F ht⟩) g.2.2.1.2.2 dX14_scan_324
                                · have fc_427 := nlt_f c_427
                                  refine lv_aload_n hx hb dX14_scan_203 rfl (lv_at hl 3 rfl) ?_
                                  refine lv_iload_n hx hb dX14_scan_204 rfl (lv_at hl 2 rfl) ?_
                                  refine lv_bipush (v := 6) hx hb dX14_scan_205 (by decide) ?_
                                  refine lv_iadd hx hb dX14_scan_207 ?_
                                  refine lv_topi (fun y_432 ey_432 => ?_)
                                  obtain rfl : y_392 = y_432 := ey_392.trans ey_432.symm
                                  refine lv_iload_n hx hb dX14_scan_208 rfl (lv_at hl 0 rfl) ?_
                                  refine g_calll (va_runV (As := [.int y_392, .int v77_3]) (rest := [.ref a0_]) ⟨hx, hb, hml, hown, hts⟩ (r_X14_letters l dC dI L kd tys f H.size g.2.2.2.1 a0_ ma0_ ka0_ y_392 (bd_sub b_422 (by decide)) v77_3 (bd_sub b_424 (by decide))) (cwV 2 hts (gV_ t_2381 t_2383 t_95 t_198 t_2384) rfl rfl rfl (by decide +kernel) ⟨(Nat.le_of_ble_eq_true rfl), (Nat.le_of_ble_eq_true rfl)⟩) (pre3V g hK ma0_ ka0_ (by decide) (q := (RX14, TX14, 67)) rfl) rfl rfl hl.1 rfl (lv_room (Nat.le_of_ble_eq_true rfl)) dX14_scan_209 ⟨(Nat.le_of_ble_eq_true rfl), (Nat.le_of_ble_eq_true rfl)⟩) g hK (by decide) (by decide) (fx' := [(14, 12, a0_, .long r_417), (14, 6, a0_, .int 0), (14, 7, a0_, .int r_339), (14, 9, a0_, .int v77_3), (14, 10, a0_, .int y_14), (14, 5, a0_, .int x_7), (14, 8, a0_, .int j31_1)]) rfl (fun r_433 fr_433 H locs hp hMr_433 g => ?_)
                                  refine lv_goto (tgt := 216) hx hb dX14_scan_212 (by decide) ?_
                                  refine g_put (C := RX14) (T := TX14) (N := 67) hx hb hts (mc_ inX14) tyX14 tyX14_ok nmX14 hown hK g ma0_ ka0_ (by decide) rfl 13 (by decide) (hts _ (List.mem_cons_of_mem _ t_2159)) (fun _ h9 => h9) rfl rfl okV_l rfl rfl (by decide) (Or.inr (Or.inl (by decide))) (fx' := [(14, 12, a0_, .long r_417), (14, 6, a0_, .int 0), (14, 7, a0_, .int r_339), (14, 9, a0_, .int v77_3), (14, 10, a0_, .int y_14), (14, 5, a0_, .int x_7), (14, 8, a0_, .int j31_1)]) rfl dX14_scan_216 (fun f H locs hM_434 g => ?_)
                                  refine lv_goto (tgt := 324) hx hb dX14_scan_219 (by decide) ?_
                                  subst hQ
                                  exact W.vret hx hb hr (fun t ht hW => ⟨⟨_, rfl, ⟨y_14, (bd_sub b_15 (by decide)), (g.fcts [5] rfl)⟩, q3_of g hK ht hW⟩, g.2.2.1.F ht⟩) g.2.2.1.2.2 dX14_scan_324
                        · have fc_341 := neq_f c_341
                          refine lv_iconst (v := 2) hx hb dX14_scan_141 (by decide) ?_
                          refine lv_goto (tgt := 158) hx hb dX14_scan_142 (by decide) ?_
                          have kb_2 : bd 2 2 (2 : Int32) := ⟨by decide, by decide⟩
                          refine g_put (C := RX14) (T := TX14) (N := 67) hx hb hts (mc_ inX14) tyX14 tyX14_ok nmX14 hown hK g ma0_ ka0_ (by decide) rfl 6 (by decide) (hts _ (List.mem_cons_of_mem _ t_2152)) (fun _ h9 => h9) rfl rfl (okV_i (bd_sub kb_2 (by decide))) rfl rfl (by decide) (Or.inr (Or.inl (by decide))) (fx' := [(14, 7, a0_, .int r_339), (14, 9, a0_, .int v77_3), (14, 10, a0_, .int y_14), (14, 5, a0_, .int x_7), (14, 8, a0_, .int j31_1)]) rfl dX14_scan_158 (fun f H locs hM_435 g => ?_)
                          refine lv_aload_n hx hb dX14_scan_161 rfl (lv_at hl 3 rfl) ?_
                          refine lv_aload_n hx hb dX14_scan_162 rfl (lv_at hl 3 rfl) ?_
                          refine lv_iload_n hx hb dX14_scan_163 rfl (lv_at hl 2 rfl) ?_
                          refine lv_iload_n hx hb dX14_scan_164 rfl (lv_at hl 0 rfl) ?_
                          refine lv_iload_n hx hb dX14_scan_165 rfl (lv_at hl 2 rfl) ?_
                          refine lv_bipush (v := 6) hx hb dX14_scan_166 (by decide) ?_
                          have kb_6 : bd 6 6 (6 : Int32) := ⟨by decide, by decide⟩
                          refine lv_iadd hx hb dX14_scan_168 ?_
                          refine lv_topi (fun y_436 ey_436 => ?_)
                          have ty_436 := add_bd ey_436 b_12 kb_6 (by decide)
                          have b_437 : bd 6 4005 y_436 := add_rg ty_436 b_12 kb_6 (by decide)
                          refine lv_icmp_ge (tgt := 176) hx hb dX14_scan_169 (by decide) (fun c_438 => ?_) (fun c_438 => ?_)
                          · have fc_438 := le_f c_438
                            have b_439 : bd 6 3999 y_436 := leL fc_438 b_437 b_323 (by decide)
                            have b_440 : bd 0 3993 j31_1 := add_inv ty_436 b_439 b_12 kb_6 (by decide)
                            have b_441 : bd 6 3999 v77_3 := leR fc_438 b_437 b_323 (by decide)
                            refine lv_iload_n hx hb dX14_scan_176 rfl (lv_at hl 2 rfl) ?_
                            refine lv_bipush (v := 6) hx hb dX14_scan_177 (by decide) ?_
                            refine lv_iadd hx hb dX14_scan_179 ?_
                            refine lv_topi (fun y_442 ey_442 => ?_)
                            obtain rfl : y_436 = y_442 := ey_436.trans ey_442.symm
                            refine g_calll (va_runV (As := [.int j31_1, .int y_436]) (rest := [.ref a0_]) ⟨hx, hb, hml, hown, hts⟩ (r_X14_letters l dC dI L kd tys f H.size g.2.2.2.1 a0_ ma0_ ka0_ j31_1 (bd_sub b_440 (by decide)) y_436 (bd_sub b_439 (by decide))) (cwV 2 hts (gV_ t_2381 t_2383 t_95 t_198 t_2384) rfl rfl rfl (by decide +kernel) ⟨(Nat.le_of_ble_eq_true rfl), (Nat.le_of_ble_eq_true rfl)⟩) (pre3V g hK ma0_ ka0_ (by decide) (q := (RX14, TX14, 67)) rfl) rfl rfl hl.1 rfl (lv_room (Nat.le_of_ble_eq_true rfl)) dX14_scan_180 ⟨(Nat.le_of_ble_eq_true rfl), (Nat.le_of_ble_eq_true rfl)⟩) g hK (by decide) (by decide) (fx' := [(14, 6, a0_, .int 2), (14, 7, a0_, .int r_339), (14, 9, a0_, .int v77_3), (14, 10, a0_, .int y_14), (14, 5, a0_, .int x_7), (14, 8, a0_, .int j31_1)]) rfl (fun r_443 fr_443 H locs hp hMr_443 g => ?_)
                            refine g_put (C := RX14) (T := TX14) (N := 67) hx hb hts (mc_ inX14) tyX14 tyX14_ok nmX14 hown hK g ma0_ ka0_ (by decide) rfl 12 (by decide) (hts _ (List.mem_cons_of_mem _ t_2158)) (fun _ h9 => h9) rfl rfl okV_l rfl rfl (by decide) (Or.inr (Or.inl (by decide))) (fx' := [(14, 6, a0_, .int 2), (14, 7, a0_, .int r_339), (14, 9, a0_, .int v77_3), (14, 10, a0_, .int y_14), (14, 5, a0_, .int x_7), (14, 8, a0_, .int j31_1)]) rfl dX14_scan_183 (fun f H locs hM_444 g => ?_)
                            refine lv_aload_n hx hb dX14_scan_186 rfl (lv_at hl 3 rfl) ?_
                            refine lv_iload_n hx hb dX14_scan_187 rfl (lv_at hl 0 rfl) ?_
                            refine lv_iload_n hx hb dX14_scan_188 rfl (lv_at hl 2 rfl) ?_
                            refine lv_bipush (v := 6) hx hb dX14_scan_189 (by decide) ?_
                            refine lv_iadd hx hb dX14_scan_191 ?_
                            refine lv_topi (fun y_445 ey_445 => ?_)
                            obtain rfl : y_436 = y_445 := ey_436.trans ey_445.symm
                            refine lv_icmp_le (tgt := 215) hx hb dX14_scan_192 (by decide) (fun c_446 => ?_) (fun c_446 => ?_)
                            · have fc_446 := le_f c_446
                              refine lv_lconst (v := 0) hx hb dX14_scan_215 (by decide) ?_
                              refine g_put (C := RX14) (T := TX14) (N := 67) hx hb hts (mc_ inX14) tyX14 tyX14_ok nmX14 hown hK g ma0_ ka0_ (by decide) rfl 13 (by decide) (hts _ (List.mem_cons_of_mem _ t_2159)) (fun _ h9 => h9) rfl rfl okV_l rfl rfl (by decide) (Or.inr (Or.inl (by decide))) (fx' := [(14, 12, a0_, .long r_443), (14, 6, a0_, .int 2), (14, 7, a0_, .int r_339), (14, 9, a0_, .int v77_3), (14, 10, a0_, .int y_14), (14, 5, a0_, .int x_7), (14, 8, a0_, .int j31_1)]) rfl dX14_scan_216 (fun f H locs hM_447 g => ?_)
                              refine lv_goto (tgt := 324) hx hb dX14_scan_219 (by decide) ?_
                              subst hQ
                              exact W.vret hx hb hr (fun t ht hW => ⟨⟨_, rfl, ⟨y_14, (bd_sub b_15 (by decide)), (g.fcts [5] rfl)⟩, q3_of g hK ht hW⟩, g.2.2.1.F ht⟩) g.2.2.1.2.2 dX14_scan_324
                            · have fc_446 := nle_f c_446
                              have b_448 : bd 6 3998 y_436 := ltL fc_446 b_439 b_441 (by decide)
                              have b_449 : bd 0 3992 j31_1 := add_inv ty_436 b_448 b_440 kb_6 (by decide)
                              have b_450 : bd 7 3999 v77_3 := ltR fc_446 b_439 b_441 (by decide)
                              refine lv_iload_n hx hb dX14_scan_195 rfl (lv_at hl 0 rfl) ?_
                              refine lv_iload_n hx hb dX14_scan_196 rfl (lv_at hl 2 rfl) ?_
                              refine lv_bipush (v := 12) hx hb dX14_scan_197 (by decide) ?_
                              have kb_12 : bd 12 12 (12 : Int32) := ⟨by decide, by decide⟩
                              refine lv_iadd hx hb dX14_scan_199 ?_
                              refine lv_topi (fun y_451 ey_451 => ?_)
                              have ty_451 := add_bd ey_451 b_449 kb_12 (by decide)
                              have b_452 : bd 12 4004 y_451 := add_rg ty_451 b_449 kb_12 (by decide)
                              refine lv_icmp_gt (tgt := 215) hx hb dX14_scan_200 (by decide) (fun c_453 => ?_) (fun c_453 => ?_)
                              · have fc_453 := lt_f c_453
                                have b_454 : bd 12 3998 y_451 := ltL fc_453 b_452 b_450 (by decide)
                                have b_455 : bd 0 3986 j31_1 := add_inv ty_451 b_454 b_449 kb_12 (by decide)
                                have b_456 : bd 13 3999 v77_3 := ltR fc_453 b_452 b_450 (by decide)
                                refine lv_lconst (v := 0) hx hb dX14_scan_215 (by decide) ?_
                                refine g_put (C := RX14) (T := TX14) (N := 67) hx hb hts (mc_ inX14) tyX14 tyX14_ok nmX14 hown hK g ma0_ ka0_ (by decide) rfl 13 (by decide) (hts _ (List.mem_cons_of_mem _ t_2159)) (fun _ h9 => h9) rfl rfl okV_l rfl rfl (by decide) (Or.inr (Or.inl (by decide))) (fx' := [(14, 12, a0_, .long r_443), (14, 6, a0_, .int 2), (14, 7, a0_, .int r_339), (14, 9, a0_, .int v77_3), (14, 10, a0_, .int y_14), (14, 5, a0_, .int x_7), (14, 8, a0_, .int j31_1)]) rfl dX14_scan_216 (fun f H locs hM_457 g => ?_)
                                refine lv_goto (tgt := 324) hx hb dX14_scan_219 (by decide) ?_
                                subst hQ
                                exact W.vret hx hb hr (fun t ht hW => ⟨⟨_, rfl, ⟨y_14, (bd_sub b_15 (by decide)), (g.fcts [5] rfl)⟩, q3_of g hK ht hW⟩, g.2.2.1.F ht⟩) g.2.2.1.2.2 dX14_scan_324
                              · have fc_453 := nlt_f c_453
                                refine lv_aload_n hx hb dX14_scan_203 rfl (lv_at hl 3 rfl) ?_
                                refine lv_iload_n hx hb dX14_scan_204 rfl (lv_at hl 2 rfl) ?_
                                refine lv_bipush (v := 6) hx hb dX14_scan_205 (by decide) ?_
                                refine lv_iadd hx hb dX14_scan_207 ?_
                                refine lv_topi (fun y_458 ey_458 => ?_)
                                obtain rfl : y_436 = y_458 := ey_436.trans ey_458.symm
                                refine lv_iload_n hx hb dX14_scan_208 rfl (lv_at hl 0 rfl) ?_
                                refine g_calll (va_runV (As := [.int y_436, .int v77_3]) (rest := [.ref a0_]) ⟨hx, hb, hml, hown, hts⟩ (r_X14_letters l dC dI L kd tys f H.size g.2.2.2.1 a0_ ma0_ ka0_ y_436 (bd_sub b_448 (by decide)) v77_3 (bd_sub b_450 (by decide))) (cwV 2 hts (gV_ t_2381 t_2383 t_95 t_198 t_2384) rfl rfl rfl (by decide +kernel) ⟨(Nat.le_of_ble_eq_true rfl), (Nat.le_of_ble_eq_true rfl)⟩) (pre3V g hK ma0_ ka0_ (by decide) (q := (RX14, TX14, 67)) rfl) rfl rfl hl.1 rfl (lv_room (Nat.le_of_ble_eq_true rfl)) dX14_scan_209 ⟨(Nat.le_of_ble_eq_true rfl), (Nat.le_of_ble_eq_true rfl)⟩) g hK (by decide) (by decide) (fx' := [(14, 12, a0_, .long r_443), (14, 6, a0_, .int 2), (14, 7, a0_, .int r_339), (14, 9, a0_, .int v77_3), (14, 10, a0_, .int y_14), (14, 5, a0_, .int x_7), (14, 8, a0_, .int j31_1)]) rfl (fun r_459 fr_459 H locs hp hMr_459 g => ?_)
                                refine lv_goto (tgt := 216) hx hb dX14_scan_212 (by decide) ?_
                                refine g_put (C := RX14) (T := TX14) (N := 67) hx hb hts (mc_ inX14) tyX14 tyX14_ok nmX14 hown hK g ma0_ ka0_ (by decide) rfl 13 (by decide) (hts _ (List.mem_cons_of_mem _ t_2159)) (fun _ h9 => h9) rfl rfl okV_l rfl rfl (by decide) (Or.inr (Or.inl (by decide))) (fx' := [(14, 12, a0_, .long r_443), (14, 6, a0_, .int 2), (14, 7, a0_, .int r_339), (14, 9, a0_, .int v77_3), (14, 10, a0_, .int y_14), (14, 5, a0_, .int x_7), (14, 8, a0_, .int j31_1)]) rfl dX14_scan_216 (fun f H locs hM_460 g => ?_)
                                refine lv_goto (tgt := 324) hx hb dX14_scan_219 (by decide) ?_
                                subst hQ
                                exact W.vret hx hb hr (fun t ht hW => ⟨⟨_, rfl, ⟨y_14, (bd_sub b_15 (by decide)), (g.fcts [5] rfl)⟩, q3_of g hK ht hW⟩, g.2.2.1.F ht⟩) g.2.2.1.2.2 dX14_scan_324
                          · have fc_438 := nle_f c_438
                            refine lv_iload_n hx hb dX14_scan_172 rfl (lv_at hl 0 rfl) ?_
                            refine lv_goto (tgt := 180) hx hb dX14_scan_173 (by decide) ?_
                            refine g_calll (va_runV (As := [.int j31_1, .int v77_3]) (rest := [.ref a0_]) ⟨hx, hb, hml, hown, hts⟩ (r_X14_letters l dC dI L kd tys f H.size g.2.2.2.1 a0_ ma0_ ka0_ j31_1 (bd_sub b_12 (by decide)) v77_3 (bd_sub b_323 (by decide))) (cwV 2 hts (gV_ t_2381 t_2383 t_95 t_198 t_2384) rfl rfl rfl (by decide +kernel) ⟨(Nat.le_of_ble_eq_true rfl), (Nat.le_of_ble_eq_true rfl)⟩) (pre3V g hK ma0_ ka0_ (by decide) (q := (RX14, TX14, 67)) rfl) rfl rfl hl.1 rfl (lv_room (Nat.le_of_ble_eq_true rfl)) dX14_scan_180 ⟨(Nat.le_of_ble_eq_true rfl), (Nat.le_of_ble_eq_true rfl)⟩) g hK (by decide) (by decide) (fx' := [(14, 6, a0_, .int 2), (14, 7, a0_, .int r_339), (14, 9, a0_, .int v77_3), (14, 10, a0_, .int y_14), (14, 5, a0_, .int x_7), (14, 8, a0_, .int j31_1)]) rfl (fun r_461 fr_461 H locs hp hMr_461 g => ?_)
                            refine g_put (C := RX14) (T := TX14) (N := 67) hx hb hts (mc_ inX14) tyX14 tyX14_ok nmX14 hown hK g ma0_ ka0_ (by decide) rfl 12 (by decide) (hts _ (List.mem_cons_of_mem _ t_2158)) (fun _ h9 => h9) rfl rfl okV_l rfl rfl (by decide) (Or.inr (Or.inl (by decide))) (fx' := [(14, 6, a0_, .int 2), (14, 7, a0_, .int r_339), (14, 9, a0_, .int v77_3), (14, 10, a0_, .int y_14), (14, 5, a0_, .int x_7), (14, 8, a0_, .int j31_1)]) rfl dX14_scan_183 (fun f H locs hM_462 g => ?_)
                            refine lv_aload_n hx hb dX14_scan_186 rfl (lv_at hl 3 rfl) ?_
                            refine lv_iload_n hx hb dX14_scan_187 rfl (lv_at hl 0 rfl) ?_
                            refine lv_iload_n hx hb dX14_scan_188 rfl (lv_at hl 2 rfl) ?_
                            refine lv_bipush (v := 6) hx hb dX14_scan_189 (by decide) ?_
                            refine lv_iadd hx hb dX14_scan_191 ?_
                            refine lv_topi (fun y_463 ey_463 => ?_)
                            obtain rfl : y_436 = y_463 := ey_436.trans ey_463.symm
                            refine lv_icmp_le (tgt := 215) hx hb dX14_scan_192 (by decide) (fun c_464 => ?_) (fun c_464 => ?_)
                            · have fc_464 := le_f c_464
                              refine lv_lconst (v := 0) hx hb dX14_scan_215 (by decide) ?_
                              refine g_put (C := RX14) (T := TX14) (N := 67) hx hb hts (mc_ inX14) tyX14 tyX14_ok nmX14 hown hK g ma0_ ka0_ (by decide) rfl 13 (by decide) (hts _ (List.mem_cons_of_mem _ t_2159)) (fun _ h9 => h9) rfl rfl okV_l rfl rfl (by decide) (Or.inr (Or.inl (by decide))) (fx' := [(14, 12, a0_, .long r_461), (14, 6, a0_, .int 2), (14, 7, a0_, .int r_339), (14, 9, a0_, .int v77_3), (14, 10, a0_, .int y_14), (14, 5, a0_, .int x_7), (14, 8, a0_, .int j31_1)]) rfl dX14_scan_216 (fun f H locs hM_465 g => ?_)
                              refine lv_goto (tgt := 324) hx hb dX14_scan_219 (by decide) ?_
                              subst hQ
                              exact W.vret hx hb hr (fun t ht hW => ⟨⟨_, rfl, ⟨y_14, (bd_sub b_15 (by decide)), (g.fcts [5] rfl)⟩, q3_of g hK ht hW⟩, g.2.2.1.F ht⟩) g.2.2.1.2.2 dX14_scan_324
                            · have fc_464 := nle_f c_464
                              have b_466 : bd 6 3998 y_436 := ltL fc_464 b_437 b_323 (by decide)
                              have b_467 : bd 0 3992 j31_1 := add_inv ty_436 b_466 b_12 kb_6 (by decide)
                              have b_468 : bd 7 3999 v77_3 := ltR fc_464 b_437 b_323 (by decide)
                              refine lv_iload_n hx hb dX14_scan_195 rfl (lv_at hl 0 rfl) ?_
                              refine lv_iload_n hx hb dX14_scan_196 rfl (lv_at hl 2 rfl) ?_
                              refine lv_bipush (v := 12) hx hb dX14_scan_197 (by decide) ?_
                              have kb_12 : bd 12 12 (12 : Int32) := ⟨by decide, by decide⟩
                              refine lv_iadd hx hb dX14_scan_199 ?_
                              refine lv_topi (fun y_469 ey_469 => ?_)
                              have ty_469 := add_bd ey_469 b_467 kb_12 (by decide)
                              have b_470 : bd 12 4004 y_469 := add_rg ty_469 b_467 kb_12 (by decide)
                              refine lv_icmp_gt (tgt := 215) hx hb dX14_scan_200 (by decide) (fun c_471 => ?_) (fun c_471 => ?_)
                              · have fc_471 := lt_f c_471
                                have b_472 : bd 12 3998 y_469 := ltL fc_471 b_470 b_468 (by decide)
                                have b_473 : bd 0 3986 j31_1 := add_inv ty_469 b_472 b_467 kb_12 (by decide)
                                have b_474 : bd 13 3999 v77_3 := ltR fc_471 b_470 b_468 (by decide)
                                refine lv_lconst (v := 0) hx hb dX14_scan_215 (by decide) ?_
                                refine g_put (C := RX14) (T := TX14) (N := 67) hx hb hts (mc_ inX14) tyX14 tyX14_ok nmX14 hown hK g ma0_ ka0_ (by decide) rfl 13 (by decide) (hts _ (List.mem_cons_of_mem _ t_2159)) (fun _ h9 => h9) rfl rfl okV_l rfl rfl (by decide) (Or.inr (Or.inl (by decide))) (fx' := [(14, 12, a0_, .long r_461), (14, 6, a0_, .int 2), (14, 7, a0_, .int r_339), (14, 9, a0_, .int v77_3), (14, 10, a0_, .int y_14), (14, 5, a0_, .int x_7), (14, 8, a0_, .int j31_1)]) rfl dX14_scan_216 (fun f H locs hM_475 g => ?_)
                                refine lv_goto (tgt := 324) hx hb dX14_scan_219 (by decide) ?_
                                subst hQ
                                exact W.vret hx hb hr (fun t ht hW => ⟨⟨_, rfl, ⟨y_14, (bd_sub b_15 (by decide)), (g.fcts [5] rfl)⟩, q3_of g hK ht hW⟩, g.2.2.1.F ht⟩) g.2.2.1.2.2 dX14_scan_324
                              · have fc_471 := nlt_f c_471
                                refine lv_aload_n hx hb dX14_scan_203 rfl (lv_at hl 3 rfl) ?_
                                refine lv_iload_n hx hb dX14_scan_204 rfl (lv_at hl 2 rfl) ?_
                                refine lv_bipush (v := 6) hx hb dX14_scan_205 (by decide) ?_
                                refine lv_iadd hx hb dX14_scan_207 ?_
                                refine lv_topi (fun y_476 ey_476 => ?_)
                                obtain rfl : y_436 = y_476 := ey_436.trans ey_476.symm
                                refine lv_iload_n hx hb dX14_scan_208 rfl (lv_at hl 0 rfl) ?_
                                refine g_calll (va_runV (As := [.int y_436, .int v77_3]) (rest := [.ref a0_]) ⟨hx, hb, hml, hown, hts⟩ (r_X14_letters l dC dI L kd tys f H.size g.2.2.2.1 a0_ ma0_ ka0_ y_436 (bd_sub b_466 (by decide)) v77_3 (bd_sub b_468 (by decide))) (cwV 2 hts (gV_ t_2381 t_2383 t_95 t_198 t_2384) rfl rfl rfl (by decide +kernel) ⟨(Nat.le_of_ble_eq_true rfl), (Nat.le_of_ble_eq_true rfl)⟩) (pre3V g hK ma0_ ka0_ (by decide) (q := (RX14, TX14, 67)) rfl) rfl rfl hl.1 rfl (lv_room (Nat.le_of_ble_eq_true rfl)) dX14_scan_209 ⟨(Nat.le_of_ble_eq_true rfl), (Nat.le_of_ble_eq_true rfl)⟩) g hK (by decide) (by decide) (fx' := [(14, 12, a0_, .long r_461), (14, 6, a0_, .int 2), (14, 7, a0_, .int r_339), (14, 9, a0_, .int v77_3), (14, 10, a0_, .int y_14), (14, 5, a0_, .int x_7), (14, 8, a0_, .int j31_1)]) rfl (fun r_477 fr_477 H locs hp hMr_477 g => ?_)
                                refine lv_goto (tgt := 216) hx hb dX14_scan_212 (by decide) ?_
                                refine g_put (C := RX14) (T := TX14) (N := 67) hx hb hts (mc_ inX14) tyX14 tyX14_ok nmX14 hown hK g ma0_ ka0_ (by decide) rfl 13 (by decide) (hts _ (List.mem_cons_of_mem _ t_2159)) (fun _ h9 => h9) rfl rfl okV_l rfl rfl (by decide) (Or.inr (Or.inl (by decide))) (fx' := [(14, 12, a0_, .long r_461), (14, 6, a0_, .int 2), (14, 7, a0_, .int r_339), (14, 9, a0_, .int v77_3), (14, 10, a0_, .int y_14), (14, 5, a0_, .int x_7), (14, 8, a0_, .int j31_1)]) rfl dX14_scan_216 (fun f H locs hM_478 g => ?_)
                                refine lv_goto (tgt := 324) hx hb dX14_scan_219 (by decide) ?_
                                subst hQ
                                exact W.vret hx hb hr (fun t ht hW => ⟨⟨_, rfl, ⟨y_14, (bd_sub b_15 (by decide)), (g.fcts [5] rfl)⟩, q3_of g hK ht hW⟩, g.2.2.1.F ht⟩) g.2.2.1.2.2 dX14_scan_324
                      · have g := g.more hF_335
                        have e_479 := fx_same g 2 0 rfl rfl
                        have g := g.sub (fx' := [(14, 10, a0_, .int y_14), (14, 5, a0_, .int x_7), (14, 8, a0_, .int j31_1), (14, 9, a0_, .int g31_14_9_a0_)]) [1, 2, 3, 4] rfl
                        refine lv_bipush (v := 95) hx hb dX14_scan_104 (by decide) ?_
                        have kb_95 : bd 95 95 (95 : Int32) := ⟨by decide, by decide⟩
                        refine lv_icmp_ne (tgt := 115) hx hb dX14_scan_106 (by decide) (fun c_480 => ?_) (fun c_480 => ?_)
                        · have fc_480 := neq_f c_480
                          have join_481 : ∀ (g161_14_6_a0_ : Int32) (g161_14_7_a0_ : Int32) (f : Nat → va_E) (H : Heap) (locs : List Loc) (ls : Array Slot), bd 0 2 g161_14_6_a0_ → G3 (dC, dI) L kd tys s f0 [(14, 6), (14, 7), (14, 8), (14, 9), (14, 10), (14, 11), (14, 12), (14, 13)] [] f H locs [(14, 6, a0_, .int g161_14_6_a0_), (14, 7, a0_, .int g161_14_7_a0_), (14, 9, a0_, .int v77_3), (14, 10, a0_, .int y_14), (14, 5, a0_, .int x_7), (14, 8, a0_, .int j31_1)] → lv_has ls 4 [(3, .int v77_3), (2, .int r_3), (1, .int j31_1), (0, .ref a0_)] → W p l e ({ frames := 5, cells := 0, slots := 0, locals := 112 } : Room) s m [.ref a0_].toArray below meth c H locs 0 0 Q (F0 m 161 ls []) := by
                            intro g161_14_6_a0_ g161_14_7_a0_ f H locs ls bg161_14_6_a0_  g  hl
                            have join_482 : ∀ (g186_14_12_a0_ : Int64) (f : Nat → va_E) (H : Heap) (locs : List Loc) (ls : Array Slot), G3 (dC, dI) L kd tys s f0 [(14, 6), (14, 7), (14, 8), (14, 9), (14, 10), (14, 11), (14, 12), (14, 13)] [] f H locs [(14, 12, a0_, .long g186_14_12_a0_), (14, 6, a0_, .int g161_14_6_a0_), (14, 7, a0_, .int g161_14_7_a0_), (14, 9, a0_, .int v77_3), (14, 10, a0_, .int y_14), (14, 5, a0_, .int x_7), (14, 8, a0_, .int j31_1)] → lv_has ls 4 [(3, .int v77_3), (2, .int r_3), (1, .int j31_1), (0, .ref a0_)] → W p l e ({ frames := 5, cells := 0, slots := 0, locals := 112 } : Room) s m [.ref a0_].toArray below meth c H locs 0 0 Q (F0 m 186 ls []) := by
                              intro g186_14_12_a0_ f H locs ls  g  hl
                              refine lv_aload_n hx hb dX14_scan_186 rfl (lv_at hl 3 rfl) ?_
                              refine lv_iload_n hx hb dX14_scan_187 rfl (lv_at hl 0 rfl) ?_
                              refine lv_iload_n hx hb dX14_scan_188 rfl (lv_at hl 2 rfl) ?_
                              refine lv_bipush (v := 6) hx hb dX14_scan_189 (by decide) ?_
                              have kb_6 : bd 6 6 (6 : Int32) := ⟨by decide, by decide⟩
                              refine lv_iadd hx hb dX14_scan_191 ?_
                              refine lv_topi (fun y_483 ey_483 => ?_)
                              have ty_483 := add_bd ey_483 b_12 kb_6 (by decide)
                              have b_484 : bd 6 4005 y_483 := add_rg ty_483 b_12 kb_6 (by decide)
                              refine lv_icmp_le (tgt := 215) hx hb dX14_scan_192 (by decide) (fun c_485 => ?_) (fun c_485 => ?_)
                              · have fc_485 := le_f c_485
                                refine lv_lconst (v := 0) hx hb dX14_scan_215 (by decide) ?_
                                refine g_put (C := RX14) (T := TX14) (N := 67) hx hb hts (mc_ inX14) tyX14 tyX14_ok nmX14 hown hK g ma0_ ka0_ (by decide) rfl 13 (by decide) (hts _ (List.mem_cons_of_mem _ t_2159)) (fun _ h9 => h9) rfl rfl okV_l rfl rfl (by decide) (Or.inr (Or.inl (by decide))) (fx' := [(14, 12, a0_, .long g186_14_12_a0_), (14, 6, a0_, .int g161_14_6_a0_), (14, 7, a0_, .int g161_14_7_a0_), (14, 9, a0_, .int v77_3), (14, 10, a0_, .int y_14), (14, 5, a0_, .int x_7), (14, 8, a0_, .int j31_1)]) rfl dX14_scan_216 (fun f H locs hM_486 g => ?_)
                                refine lv_goto (tgt := 324) hx hb dX14_scan_219 (by decide) ?_
                                subst hQ
                                exact W.vret hx hb hr (fun t ht hW => ⟨⟨_, rfl, ⟨y_14, (bd_sub b_15 (by decide)), (g.fcts [5] rfl)⟩, q3_of g hK ht hW⟩, g.2.2.1.F ht⟩) g.2.2.1.2.2 dX14_scan_324
                              · have fc_485 := nle_f c_485
                                have b_487 : bd 6 3998 y_483 := ltL fc_485 b_484 b_323 (by decide)
                                have b_488 : bd 0 3992 j31_1 := add_inv ty_483 b_487 b_12 kb_6 (by decide)
                                have b_489 : bd 7 3999 v77_3 := ltR fc_485 b_484 b_323 (by decide)
                                refine lv_iload_n hx hb dX14_scan_195 rfl (lv_at hl 0 rfl) ?_
                                refine lv_iload_n hx hb dX14_scan_196 rfl (lv_at hl 2 rfl) ?_
                                refine lv_bipush (v := 12) hx hb dX14_scan_197 (by decide) ?_
                                have kb_12 : bd 12 12 (12 : Int32) := ⟨by decide, by decide⟩
                                refine lv_iadd hx hb dX14_scan_199 ?_
                                refine lv_topi (fun y_490 ey_490 => ?_)
                                have ty_490 := add_bd ey_490 b_488 kb_12 (by decide)
                                have b_491 : bd 12 4004 y_490 := add_rg ty_490 b_488 kb_12 (by decide)
                                refine lv_icmp_gt (tgt := 215) hx hb dX14_scan_200 (by decide) (fun c_492 => ?_) (fun c_492 => ?_)
                                · have fc_492 := lt_f c_492
                                  have b_493 : bd 12 3998 y_490 := ltL fc_492 b_491 b_489 (by decide)
                                  have b_494 : bd 0 3986 j31_1 := add_inv ty_490 b_493 b_488 kb_12 (by decide)
                                  have b_495 : bd 13 3999 v77_3 := ltR fc_492 b_491 b_489 (by decide)
                                  refine lv_lconst (v := 0) hx hb dX14_scan_215 (by decide) ?_
                                  refine g_put (C := RX14) (T := TX14) (N := 67) hx hb hts (mc_ inX14) tyX14 tyX14_ok nmX14 hown hK g ma0_ ka0_ (by decide) rfl 13 (by decide) (hts _ (List.mem_cons_of_mem _ t_2159)) (fun _ h9 => h9) rfl rfl okV_l rfl rfl (by decide) (Or.inr (Or.inl (by decide))) (fx' := [(14, 12, a0_, .long g186_14_12_a0_), (14, 6, a0_, .int g161_14_6_a0_), (14, 7, a0_, .int g161_14_7_a0_), (14, 9, a0_, .int v77_3), (14, 10, a0_, .int y_14), (14, 5, a0_, .int x_7), (14, 8, a0_, .int j31_1)]) rfl dX14_scan_216 (fun f H locs hM_496 g => ?_)
                                  refine lv_goto (tgt := 324) hx hb dX14_scan_219 (by decide) ?_
                                  subst hQ
                                  exact W.vret hx hb hr (fun t ht hW => ⟨⟨_, rfl, ⟨y_14, (bd_sub b_15 (by decide)), (g.fcts [5] rfl)⟩, q3_of g hK ht hW⟩, g.2.2.1.F ht⟩) g.2.2.1.2.2 dX14_scan_324
                                · have fc_492 := nlt_f c_492
                                  refine lv_aload_n hx hb dX14_scan_203 rfl (lv_at hl 3 rfl) ?_
                                  refine lv_iload_n hx hb dX14_scan_204 rfl (lv_at hl 2 rfl) ?_
                                  refine lv_bipush (v := 6) hx hb dX14_scan_205 (by decide) ?_
                                  refine lv_iadd hx hb dX14_scan_207 ?_
                                  refine lv_topi (fun y_497 ey_497 => ?_)
                                  obtain rfl : y_483 = y_497 := ey_483.trans ey_497.symm
                                  refine lv_iload_n hx hb dX14_scan_208 rfl (lv_at hl 0 rfl) ?_
                                  refine g_calll (va_runV (As := [.int y_483, .int v77_3]) (rest := [.ref a0_]) ⟨hx, hb, hml, hown, hts⟩ (r_X14_letters l dC dI L kd tys f H.size g.2.2.2.1 a0_ ma0_ ka0_ y_483 (bd_sub b_487 (by decide)) v77_3 (bd_sub b_489 (by decide))) (cwV 2 hts (gV_ t_2381 t_2383 t_95 t_198 t_2384) rfl rfl rfl (by decide +kernel) ⟨(Nat.le_of_ble_eq_true rfl), (Nat.le_of_ble_eq_true rfl)⟩) (pre3V g hK ma0_ ka0_ (by decide) (q := (RX14, TX14, 67)) rfl) rfl rfl hl.1 rfl (lv_room (Nat.le_of_ble_eq_true rfl)) dX14_scan_209 ⟨(Nat.le_of_ble_eq_true rfl), (Nat.le_of_ble_eq_true rfl)⟩) g hK (by decide) (by decide) (fx' := [(14, 12, a0_, .long g186_14_12_a0_), (14, 6, a0_, .int g161_14_6_a0_), (14, 7, a0_, .int g161_14_7_a0_), (14, 9, a0_, .int v77_3), (14, 10, a0_, .int y_14), (14, 5, a0_, .int x_7), (14, 8, a0_, .int j31_1)]) rfl (fun r_498 fr_498 H locs hp hMr_498 g => ?_)
                                  refine lv_goto (tgt := 216) hx hb dX14_scan_212 (by decide) ?_
                                  refine g_put (C := RX14) (T := TX14) (N := 67) hx hb hts (mc_ inX14) tyX14 tyX14_ok nmX14 hown hK g ma0_ ka0_ (by decide) rfl 13 (by decide) (hts _ (List.mem_cons_of_mem _ t_2159)) (fun _ h9 => h9) rfl rfl okV_l rfl rfl (by decide) (Or.inr (Or.inl (by decide))) (fx' := [(14, 12, a0_, .long g186_14_12_a0_), (14, 6, a0_, .int g161_14_6_a0_), (14, 7, a0_, .int g161_14_7_a0_), (14, 9, a0_, .int v77_3), (14, 10, a0_, .int y_14), (14, 5, a0_, .int x_7), (14, 8, a0_, .int j31_1)]) rfl dX14_scan_216 (fun f H locs hM_499 g => ?_)
                                  refine lv_goto (tgt := 324) hx hb dX14_scan_219 (by decide) ?_
                                  subst hQ
                                  exact W.vret hx hb hr (fun t ht hW => ⟨⟨_, rfl, ⟨y_14, (bd_sub b_15 (by decide)), (g.fcts [5] rfl)⟩, q3_of g hK ht hW⟩, g.2.2.1.F ht⟩) g.2.2.1.2.2 dX14_scan_324
                            refine lv_aload_n hx hb dX14_scan_161 rfl (lv_at hl 3 rfl) ?_
                            refine lv_aload_n hx hb dX14_scan_162 rfl (lv_at hl 3 rfl) ?_
                            refine lv_iload_n hx hb dX14_scan_163 rfl (lv_at hl 2 rfl) ?_
                            refine lv_iload_n hx hb dX14_scan_164 rfl (lv_at hl 0 rfl) ?_
                            refine lv_iload_n hx hb dX14_scan_165 rfl (lv_at hl 2 rfl) ?_
                            refine lv_bipush (v := 6) hx hb dX14_scan_166 (by decide) ?_
                            have kb_6 : bd 6 6 (6 : Int32) := ⟨by decide, by decide⟩
                            refine lv_iadd hx hb dX14_scan_168 ?_
                            refine lv_topi (fun y_500 ey_500 => ?_)
                            have ty_500 := add_bd ey_500 b_12 kb_6 (by decide)
                            have b_501 : bd 6 4005 y_500 := add_rg ty_500 b_12 kb_6 (by decide)
                            refine lv_icmp_ge (tgt := 176) hx hb dX14_scan_169 (by decide) (fun c_502 => ?_) (fun c_502 => ?_)
                            · have fc_502 := le_f c_502
                              have b_503 : bd 6 3999 y_500 := leL fc_502 b_501 b_323 (by decide)
                              have b_504 : bd 0 3993 j31_1 := add_inv ty_500 b_503 b_12 kb_6 (by decide)
                              have b_505 : bd 6 3999 v77_3 := leR fc_502 b_501 b_323 (by decide)
                              refine lv_iload_n hx hb dX14_scan_176 rfl (lv_at hl 2 rfl) ?_
                              refine lv_bipush (v := 6) hx hb dX14_scan_177 (by decide) ?_
                              refine lv_iadd hx hb dX14_scan_179 ?_
                              refine lv_topi (fun y_506 ey_506 => ?_)
                              obtain rfl : y_500 = y_506 := ey_500.trans ey_506.symm
                              refine g_calll (va_runV (As := [.int j31_1, .int y_500]) (rest := [.ref a0_]) ⟨hx, hb, hml, hown, hts⟩ (r_X14_letters l dC dI L kd tys f H.size g.2.2.2.1 a0_ ma0_ ka0_ j31_1 (bd_sub b_504 (by decide)) y_500 (bd_sub b_503 (by decide))) (cwV 2 hts (gV_ t_2381 t_2383 t_95 t_198 t_2384) rfl rfl rfl (by decide +kernel) ⟨(Nat.le_of_ble_eq_true rfl), (Nat.le_of_ble_eq_true rfl)⟩) (pre3V g hK ma0_ ka0_ (by decide) (q := (RX14, TX14, 67)) rfl) rfl rfl hl.1 rfl (lv_room (Nat.le_of_ble_eq_true rfl)) dX14_scan_180 ⟨(Nat.le_of_ble_eq_true rfl), (Nat.le_of_ble_eq_true rfl)⟩) g hK (by decide) (by decide) (fx' := [(14, 6, a0_, .int g161_14_6_a0_), (14, 7, a0_, .int g161_14_7_a0_), (14, 9, a0_, .int v77_3), (14, 10, a0_, .int y_14), (14, 5, a0_, .int x_7), (14, 8, a0_, .int j31_1)]) rfl (fun r_507 fr_507 H locs hp hMr_507 g => ?_)
                              refine g_put (C := RX14) (T := TX14) (N := 67) hx hb hts (mc_ inX14) tyX14 tyX14_ok nmX14 hown hK g ma0_ ka0_ (by decide) rfl 12 (by decide) (hts _ (List.mem_cons_of_mem _ t_2158)) (fun _ h9 => h9) rfl rfl okV_l rfl rfl (by decide) (Or.inr (Or.inl (by decide))) (fx' := [(14, 6, a0_, .int g161_14_6_a0_), (14, 7, a0_, .int g161_14_7_a0_), (14, 9, a0_, .int v77_3), (14, 10, a0_, .int y_14), (14, 5, a0_, .int x_7), (14, 8, a0_, .int j31_1)]) rfl dX14_scan_183 (fun f H locs hM_508 g => ?_)
                              have hl9 := lv_sub hl [0, 1, 2, 3] (by rfl : lv_pick [(3, .int v77_3), (2, .int r_3), (1, .int j31_1), (0, .ref a0_)] [0, 1, 2, 3] = [(3, .int v77_3), (2, .int r_3), (1, .int j31_1), (0, .ref a0_)])
                              have g9 := g.sub (fx' := [(14, 12, a0_, .long r_507), (14, 6, a0_, .int g161_14_6_a0_), (14, 7, a0_, .int g161_14_7_a0_), (14, 9, a0_, .int v77_3), (14, 10, a0_, .int y_14), (14, 5, a0_, .int x_7), (14, 8, a0_, .int j31_1)]) [0, 1, 2, 3, 4, 5, 6] rfl
                              exact join_482 r_507 _ _ _ _  g9  hl9
                            · have fc_502 := nle_f c_502
                              refine lv_iload_n hx hb dX14_scan_172 rfl (lv_at hl 0 rfl) ?_
                              refine lv_goto (tgt := 180) hx hb dX14_scan_173 (by decide) ?_
                              refine g_calll (va_runV (As := [.int j31_1, .int v77_3]) (rest := [.ref a0_]) ⟨hx, hb, hml, hown, hts⟩ (r_X14_letters l dC dI L kd tys f H.size g.2.2.2.1 a0_ ma0_ ka0_ j31_1 (bd_sub b_12 (by decide)) v77_3 (bd_sub b_323 (by decide))) (cwV 2 hts (gV_ t_2381 t_2383 t_95 t_198 t_2384) rfl rfl rfl (by decide +kernel) ⟨(Nat.le_of_ble_eq_true rfl), (Nat.le_of_ble_eq_true rfl)⟩) (pre3V g hK ma0_ ka0_ (by decide) (q := (RX14, TX14, 67)) rfl) rfl rfl hl.1 rfl (lv_room (Nat.le_of_ble_eq_true rfl)) dX14_scan_180 ⟨(Nat.le_of_ble_eq_true rfl), (Nat.le_of_ble_eq_true rfl)⟩) g hK (by decide) (by decide) (fx' := [(14, 6, a0_, .int g161_14_6_a0_), (14, 7, a0_, .int g161_14_7_a0_), (14, 9, a0_, .int v77_3), (14, 10, a0_, .int y_14), (14, 5, a0_, .int x_7), (14, 8, a0_, .int j31_1)]) rfl (fun r_509 fr_509 H locs hp hMr_509 g => ?_)
                              refine g_put (C := RX14) (T := TX14) (N := 67) hx hb hts (mc_ inX14) tyX14 tyX14_ok nmX14 hown hK g ma0_ ka0_ (by decide) rfl 12 (by decide) (hts _ (List.mem_cons_of_mem _ t_2158)) (fun _ h9 => h9) rfl rfl okV_l rfl rfl (by decide) (Or.inr (Or.inl (by decide))) (fx' := [(14, 6, a0_, .int g161_14_6_a0_), (14, 7, a0_, .int g161_14_7_a0_), (14, 9, a0_, .int v77_3), (14, 10, a0_, .int y_14), (14, 5, a0_, .int x_7), (14, 8, a0_, .int j31_1)]) rfl dX14_scan_183 (fun f H locs hM_510 g => ?_)
                              have hl9 := lv_sub hl [0, 1, 2, 3] (by rfl : lv_pick [(3, .int v77_3), (2, .int r_3), (1, .int j31_1), (0, .ref a0_)] [0, 1, 2, 3] = [(3, .int v77_3), (2, .int r_3), (1, .int j31_1), (0, .ref a0_)])
                              have g9 := g.sub (fx' := [(14, 12, a0_, .long r_509), (14, 6, a0_, .int g161_14_6_a0_), (14, 7, a0_, .int g161_14_7_a0_), (14, 9, a0_, .int v77_3), (14, 10, a0_, .int y_14), (14, 5, a0_, .int x_7), (14, 8, a0_, .int j31_1)]) [0, 1, 2, 3, 4, 5, 6] rfl
                              exact join_482 r_509 _ _ _ _  g9  hl9
                          refine lv_aload_n hx hb dX14_scan_115 rfl (lv_at hl 3 rfl) ?_
                          refine lv_iload_n hx hb dX14_scan_116 rfl (lv_at hl 0 rfl) ?_
                          refine g_put (C := RX14) (T := TX14) (N := 67) hx hb hts (mc_ inX14) tyX14 tyX14_ok nmX14 hown hK g ma0_ ka0_ (by decide) rfl 9 (by decide) (hts _ (List.mem_cons_of_mem _ t_2155)) (fun _ h9 => h9) rfl rfl (okV_i (bd_sub b_323 (by decide))) rfl rfl (by decide) (Or.inr (Or.inl (by decide))) (fx' := [(14, 10, a0_, .int y_14), (14, 5, a0_, .int x_7), (14, 8, a0_, .int j31_1)]) rfl dX14_scan_117 (fun f H locs hM_511 g => ?_)
                          refine lv_aload_n hx hb dX14_scan_120 rfl (lv_at hl 3 rfl) ?_
                          refine lv_aload_n hx hb dX14_scan_121 rfl (lv_at hl 3 rfl) ?_
                          refine lv_iload_n hx hb dX14_scan_122 rfl (lv_at hl 2 rfl) ?_
                          refine lv_iload_n hx hb dX14_scan_123 rfl (lv_at hl 0 rfl) ?_
                          refine lv_iload_n hx hb dX14_scan_124 rfl (lv_at hl 2 rfl) ?_
                          refine lv_isub hx hb dX14_scan_125 ?_
                          refine lv_topi (fun y_512 ey_512 => ?_)
                          have ty_512 := sub_bd ey_512 b_323 b_12 (by decide)
                          have b_513 : bd (-3999) 3999 y_512 := sub_rg ty_512 b_323 b_12 (by decide)
                          refine g_calli (va_runV (As := [.int j31_1, .int y_512]) (rest := [.ref a0_]) ⟨hx, hb, hml, hown, hts⟩ (r_X14_keyAt l dC dI L kd tys f H.size g.2.2.2.1 adK adV a0_ ma0_ ka0_ j31_1 b_12 y_512 (bd_sub b_513 (by decide))) (cwV 2 hts (gV_ t_2374 t_2376 t_94 t_198 t_2377) rfl rfl rfl (by decide +kernel) ⟨(Nat.le_of_ble_eq_true rfl), (Nat.le_of_ble_eq_true rfl)⟩) (pre3VA g hK hAm ma0_ ka0_ (by decide) (q := (RX14, TX14, 67)) rfl) rfl rfl hl.1 rfl (lv_room (Nat.le_of_ble_eq_true rfl)) dX14_scan_126 ⟨(Nat.le_of_ble_eq_true rfl), (Nat.le_of_ble_eq_true rfl)⟩) g hK (by decide) (by decide) (fx' := [(14, 9, a0_, .int v77_3), (14, 10, a0_, .int y_14), (14, 5, a0_, .int x_7), (14, 8, a0_, .int j31_1)]) rfl (fun r_514 fr_514 H locs hp hMr_514 g => ?_)
                          refine g_put (C := RX14) (T := TX14) (N := 67) hx hb hts (mc_ inX14) tyX14 tyX14_ok nmX14 hown hK g ma0_ ka0_ (by decide) rfl 7 (by decide) (hts _ (List.mem_cons_of_mem _ t_2153)) (fun _ h9 => h9) rfl rfl (okV_i (bdT r_514)) rfl rfl (by decide) (Or.inr (Or.inl (by decide))) (fx' := [(14, 9, a0_, .int v77_3), (14, 10, a0_, .int y_14), (14, 5, a0_, .int x_7), (14, 8, a0_, .int j31_1)]) rfl dX14_scan_129 (fun f H locs hM_515 g => ?_)
                          refine lv_aload_n hx hb dX14_scan_132 rfl (lv_at hl 3 rfl) ?_
                          refine lv_aload_n hx hb dX14_scan_133 rfl (lv_at hl 3 rfl) ?_
                          refine g_getk (C := RX14) (T := TX14) (N := 67) hx hb hts (mc_ inX14) hown hK g rfl 7 (by decide) rfl (hts _ (List.mem_cons_of_mem _ t_2153)) (fun _ h9 => h9) 0 rfl dX14_scan_134 ?_
                          refine lv_iconst (v := (-1)) hx hb dX14_scan_137 (by decide) ?_
                          refine lv_icmp_eq (tgt := 145) hx hb dX14_scan_138 (by decide) (fun c_516 => ?_) (fun c_516 => ?_)
                          · have fc_516 := eq_f c_516
                            have b_517 : bd (-1) (-1) r_514 := eqX fc_516 (bdT r_514) kb_m1 (by decide)
                            refine lv_iload_n hx hb dX14_scan_145 rfl (lv_at hl 0 rfl) ?_
                            refine lv_iload_n hx hb dX14_scan_146 rfl (lv_at hl 2 rfl) ?_
                            refine lv_isub hx hb dX14_scan_147 ?_
                            refine lv_topi (fun y_518 ey_518 => ?_)
                            obtain rfl : y_512 = y_518 := ey_512.trans ey_518.symm
                            refine lv_bipush (v := 12) hx hb dX14_scan_148 (by decide) ?_
                            have kb_12 : bd 12 12 (12 : Int32) := ⟨by decide, by decide⟩
                            refine lv_icmp_le (tgt := 157) hx hb dX14_scan_150 (by decide) (fun c_519 => ?_) (fun c_519 => ?_)
                            · have fc_519 := le_f c_519
                              have b_520 : bd (-3999) 12 y_512 := leL fc_519 b_513 kb_12 (by decide)
                              refine lv_iconst (v := 1) hx hb dX14_scan_157 (by decide) ?_
                              refine g_put (C := RX14) (T := TX14) (N := 67) hx hb hts (mc_ inX14) tyX14 tyX14_ok nmX14 hown hK g ma0_ ka0_ (by decide) rfl 6 (by decide) (hts _ (List.mem_cons_of_mem _ t_2152)) (fun _ h9 => h9) rfl rfl (okV_i (bd_sub kb_1 (by decide))) rfl rfl (by decide) (Or.inr (Or.inl (by decide))) (fx' := [(14, 7, a0_, .int r_514), (14, 9, a0_, .int v77_3), (14, 10, a0_, .int y_14), (14, 5, a0_, .int x_7), (14, 8, a0_, .int j31_1)]) rfl dX14_scan_158 (fun f H locs hM_521 g => ?_)
                              have hl9 := lv_sub hl [0, 1, 2, 3] (by rfl : lv_pick [(3, .int v77_3), (2, .int r_3), (1, .int j31_1), (0, .ref a0_)] [0, 1, 2, 3] = [(3, .int v77_3), (2, .int r_3), (1, .int j31_1), (0, .ref a0_)])
                              have g9 := g.sub (fx' := [(14, 6, a0_, .int 1), (14, 7, a0_, .int r_514), (14, 9, a0_, .int v77_3), (14, 10, a0_, .int y_14), (14, 5, a0_, .int x_7), (14, 8, a0_, .int j31_1)]) [0, 1, 2, 3, 4, 5] rfl
                              exact join_481 1 r_514 _ _ _ _ (bd_sub kb_1 (by decide)) g9  hl9
                            · have fc_519 := nle_f c_519
                              have b_522 : bd 13 3999 y_512 := ltR fc_519 kb_12 b_513 (by decide)
                              refine lv_iconst (v := 0) hx hb dX14_scan_153 (by decide) ?_
                              refine lv_goto (tgt := 158) hx hb dX14_scan_154 (by decide) ?_
                              have kb_0 : bd 0 0 (0 : Int32) := ⟨by decide, by decide⟩
                              refine g_put (C := RX14) (T := TX14) (N := 67) hx hb hts (mc_ inX14) tyX14 tyX14_ok nmX14 hown hK g ma0_ ka0_ (by decide) rfl 6 (by decide) (hts _ (List.mem_cons_of_mem _ t_2152)) (fun _ h9 => h9) rfl rfl (okV_i (bd_sub kb_0 (by decide))) rfl rfl (by decide) (Or.inr (Or.inl (by decide))) (fx' := [(14, 7, a0_, .int r_514), (14, 9, a0_, .int v77_3), (14, 10, a0_, .int y_14), (14, 5, a0_, .int x_7), (14, 8, a0_, .int j31_1)]) rfl dX14_scan_158 (fun f H locs hM_523 g => ?_)
                              have hl9 := lv_sub hl [0, 1, 2, 3] (by rfl : lv_pick [(3, .int v77_3), (2, .int r_3), (1, .int j31_1), (0, .ref a0_)] [0, 1, 2, 3] = [(3, .int v77_3), (2, .int r_3), (1, .int j31_1), (0, .ref a0_)])
                              have g9 := g.sub (fx' := [(14, 6, a0_, .int 0), (14, 7, a0_, .int r_514), (14, 9, a0_, .int v77_3), (14, 10, a0_, .int y_14), (14, 5, a0_, .int x_7), (14, 8, a0_, .int j31_1)]) [0, 1, 2, 3, 4, 5] rfl
                              exact join_481 0 r_514 _ _ _ _ (bd_sub kb_0 (by decide)) g9  hl9
                          · have fc_516 := neq_f c_516
                            refine lv_iconst (v := 2) hx hb dX14_scan_141 (by decide) ?_
                            refine lv_goto (tgt := 158) hx hb dX14_scan_142 (by decide) ?_
                            have kb_2 : bd 2 2 (2 : Int32) := ⟨by decide, by decide⟩
                            refine g_put (C := RX14) (T := TX14) (N := 67) hx hb hts (mc_ inX14) tyX14 tyX14_ok nmX14 hown hK g ma0_ ka0_ (by decide) rfl 6 (by decide) (hts _ (List.mem_cons_of_mem _ t_2152)) (fun _ h9 => h9) rfl rfl (okV_i (bd_sub kb_2 (by decide))) rfl rfl (by decide) (Or.inr (Or.inl (by decide))) (fx' := [(14, 7, a0_, .int r_514), (14, 9, a0_, .int v77_3), (14, 10, a0_, .int y_14), (14, 5, a0_, .int x_7), (14, 8, a0_, .int j31_1)]) rfl dX14_scan_158 (fun f H locs hM_524 g => ?_)
                            have hl9 := lv_sub hl [0, 1, 2, 3] (by rfl : lv_pick [(3, .int v77_3), (2, .int r_3), (1, .int j31_1), (0, .ref a0_)] [0, 1, 2, 3] = [(3, .int v77_3), (2, .int r_3), (1, .int j31_1), (0, .ref a0_)])
                            have g9 := g.sub (fx' := [(14, 6, a0_, .int 2), (14, 7, a0_, .int r_514), (14, 9, a0_, .int v77_3), (14, 10, a0_, .int y_14), (14, 5, a0_, .int x_7), (14, 8, a0_, .int j31_1)]) [0, 1, 2, 3, 4, 5] rfl
                            exact join_481 2 r_514 _ _ _ _ (bd_sub kb_2 (by decide)) g9  hl9
                        · have fc_480 := eq_f c_480
                          have b_525 : bd 95 95 r_329 := eqX fc_480 h_331 kb_95 (by decide)
                          obtain ⟨y_526, ey_526⟩ : ∃ z : Int32, z = v77_3 + 1 := ⟨_, rfl⟩
                          refine lv_iinc (v := y_526) (lv' := [(3, .int y_526), (2, .int r_3), (1, .int j31_1), (0, .ref a0_)]) hx hb dX14_scan_109 hl (k := 0) rfl (by rw [ey_526]; rfl) (by decide) rfl (fun ls hl => ?_)
                          have ty_526 := add_bd ey_526 b_323 kb_1 (by decide)
                          have b_527 : bd 1 4000 y_526 := add_rg ty_526 b_323 kb_1 (by decide)
                          refine lv_goto (tgt := 77) hx hb dX14_scan_112 (by decide) ?_
                          have hl9 := lv_sub hl [0, 1, 2, 3] (by rfl : lv_pick [(3, .int y_526), (2, .int r_3), (1, .int j31_1), (0, .ref a0_)] [0, 1, 2, 3] = [(3, .int y_526), (2, .int r_3), (1, .int j31_1), (0, .ref a0_)])
                          have g9 := g.sub (fx' := [(14, 10, a0_, .int y_14), (14, 5, a0_, .int x_7), (14, 8, a0_, .int j31_1), (14, 9, a0_, .int g31_14_9_a0_)]) [0, 1, 2, 3] rfl
                          exact ih77  y_526 (bd_sub b_527 (by decide)) (by have h9_0 := b_527; unfold bd at h9_0; have h9_1 := bv77_3; unfold bd at h9_1; have h9_2 := kb_1; unfold bd at h9_2; have h9_3 := kb_95; unfold bd at h9_3; have h9_4 := kb_m1; unfold bd at h9_4; omega) _ _ _ _ g9  hl9
                    · obtain rfl : r_325 = 1 := h_327
                      have b_528 : bd 48 57 r_112 := eqX rfl h_114 h_328 (by decide)
                      refine lv_if_ne (tgt := 109) hx hb dX14_scan_96 (by decide) (fun c_ => ?_) (fun c_ => absurd c_ (by decide))
                      obtain ⟨y_529, ey_529⟩ : ∃ z : Int32, z = v77_3 + 1 := ⟨_, rfl⟩
                      refine lv_iinc (v := y_529) (lv' := [(3, .int y_529), (2, .int r_3), (1, .int j31_1), (0, .ref a0_)]) hx hb dX14_scan_109 hl (k := 0) rfl (by rw [ey_529]; rfl) (by decide) rfl (fun ls hl => ?_)
                      have ty_529 := add_bd ey_529 b_323 kb_1 (by decide)
                      have b_530 : bd 1 4000 y_529 := add_rg ty_529 b_323 kb_1 (by decide)
                      refine lv_goto (tgt := 77) hx hb dX14_scan_112 (by decide) ?_
                      have hl9 := lv_sub hl [0, 1, 2, 3] (by rfl : lv_pick [(3, .int y_529), (2, .int r_3), (1, .int j31_1), (0, .ref a0_)] [0, 1, 2, 3] = [(3, .int y_529), (2, .int r_3), (1, .int j31_1), (0, .ref a0_)])
                      have g9 := g.sub (fx' := [(14, 10, a0_, .int y_14), (14, 5, a0_, .int x_7), (14, 8, a0_, .int j31_1), (14, 9, a0_, .int g31_14_9_a0_)]) [0, 1, 2, 3] rfl
                      exact ih77  y_529 (bd_sub b_530 (by decide)) (by have h9_0 := b_530; unfold bd at h9_0; have h9_1 := bv77_3; unfold bd at h9_1; have h9_2 := kb_1; unfold bd at h9_2; have h9_3 := kb_m1; unfold bd at h9_3; omega) _ _ _ _ g9  hl9
                · obtain rfl : r_108 = 1 := h_110
                  exact bd_no (eqX rfl h_111 kb_m1 (lo := 97) (hi := (-1)) (by decide)) (by decide)
              · have b_531 : bd 0 3999 v77_3 := eqX rfl bv77_3 h_104 (by decide)
                have g := g.more hF_107
                have e_532 := fx_same g 2 0 rfl rfl
                have g := g.sub (fx' := [(14, 10, a0_, .int y_14), (14, 5, a0_, .int x_7), (14, 8, a0_, .int j31_1), (14, 9, a0_, .int g31_14_9_a0_)]) [1, 2, 3, 4] rfl
                refine g_calli (va_runS (As := [.int r_101]) (rest := []) ⟨hx, hb, hml, hown, hts⟩ (r_X14_isSmall l dC dI L kd tys fr_101 H.size g.2.2.2.1 r_101) (va_cwS 1 hts (gS_ t_2368 t_2369 t_198 t_2370) rfl rfl rfl (by decide +kernel) ⟨(Nat.le_of_ble_eq_true rfl), (Nat.le_of_ble_eq_true rfl)⟩) (pre3S g hK) rfl rfl hl.1 rfl (lv_room (Nat.le_of_ble_eq_true rfl)) dX14_scan_82 ⟨(Nat.le_of_ble_eq_true rfl), (Nat.le_of_ble_eq_true rfl)⟩) g hK (by decide) (by decide) (fx' := [(14, 10, a0_, .int y_14), (14, 5, a0_, .int x_7), (14, 8, a0_, .int j31_1), (14, 9, a0_, .int g31_14_9_a0_)]) rfl (fun r_533 fr_533 H locs hp hMr_533 g => ?_)
                rcases hp with ⟨h_534, -⟩ | ⟨h_535, h_536, -⟩
                · obtain rfl : r_533 = 0 := h_534
                  refine lv_if_ne (tgt := 109) hx hb dX14_scan_85 (by decide) (fun c_ => absurd c_ (by decide)) (fun c_ => ?_)
                  refine lv_aload_n hx hb dX14_scan_88 rfl (lv_at hl 3 rfl) ?_
                  refine lv_iload_n hx hb dX14_scan_89 rfl (lv_at hl 0 rfl) ?_
                  refine g_calli (va_runV (As := [.int v77_3]) (rest := []) ⟨hx, hb, hml, hown, hts⟩ (r_X14_see l dC dI L kd tys fr_533 H.size g.2.2.2.1 a0_ ma0_ ka0_ v77_3 (bd_sub b_531 (by decide))) (cwV 1 hts (gV_ t_2364 t_2366 t_93 t_198 t_2367) rfl rfl rfl (by decide +kernel) ⟨(Nat.le_of_ble_eq_true rfl), (Nat.le_of_ble_eq_true rfl)⟩) (pre3V g hK ma0_ ka0_ (by decide) (q := (RX14, TX14, 67)) rfl) rfl rfl hl.1 rfl (lv_room (Nat.le_of_ble_eq_true rfl)) dX14_scan_90 ⟨(Nat.le_of_ble_eq_true rfl), (Nat.le_of_ble_eq_true rfl)⟩) g hK (by decide) (by decide) (fx' := [(14, 10, a0_, .int y_14), (14, 5, a0_, .int x_7), (14, 8, a0_, .int j31_1), (14, 9, a0_, .int g31_14_9_a0_)]) rfl (fun r_537 fr_537 H locs hp hMr_537 g => ?_)
                  rcases hp with ⟨h_538, -⟩ | ⟨h_539, h_540, x_541, h_542, hF_543⟩
                  · obtain rfl : r_537 = (-1) := h_538
                    refine g_calli (va_runS (As := [.int (-1)]) (rest := []) ⟨hx, hb, hml, hown, hts⟩ (r_X14_isDigit l dC dI L kd tys fr_537 H.size g.2.2.2.1 (-1)) (va_cwS 1 hts (gS_ t_2371 t_2372 t_198 t_2373) rfl rfl rfl (by decide +kernel) ⟨(Nat.le_of_ble_eq_true rfl), (Nat.le_of_ble_eq_true rfl)⟩) (pre3S g hK) rfl rfl hl.1 rfl (lv_room (Nat.le_of_ble_eq_true rfl)) dX14_scan_93 ⟨(Nat.le_of_ble_eq_true rfl), (Nat.le_of_ble_eq_true rfl)⟩) g hK (by decide) (by decide) (fx' := [(14, 10, a0_, .int y_14), (14, 5, a0_, .int x_7), (14, 8, a0_, .int j31_1), (14, 9, a0_, .int g31_14_9_a0_)]) rfl (fun r_544 fr_544 H locs hp hMr_544 g => ?_)
                    rcases hp with ⟨h_545, -⟩ | ⟨h_546, h_547, -⟩
                    · obtain rfl : r_544 = 0 := h_545
                      refine lv_if_ne (tgt := 109) hx hb dX14_scan_96 (by decide) (fun c_ => absurd c_ (by decide)) (fun c_ => ?_)
                      refine lv_aload_n hx hb dX14_scan_99 rfl (lv_at hl 3 rfl) ?_
                      refine lv_iload_n hx hb dX14_scan_100 rfl (lv_at hl 0 rfl) ?_
                      refine g_calli (va_runV (As := [.int v77_3]) (rest := []) ⟨hx, hb, hml, hown, hts⟩ (r_X14_see l dC dI L kd tys fr_544 H.size g.2.2.2.1 a0_ ma0_ ka0_ v77_3 (bd_sub b_531 (by decide))) (cwV 1 hts (gV_ t_2364 t_2366 t_93 t_198 t_2367) rfl rfl rfl (by decide +kernel) ⟨(Nat.le_of_ble_eq_true rfl), (Nat.le_of_ble_eq_true rfl)⟩) (pre3V g hK ma0_ ka0_ (by decide) (q := (RX14, TX14, 67)) rfl) rfl rfl hl.1 rfl (lv_room (Nat.le_of_ble_eq_true rfl)) dX14_scan_101 ⟨(Nat.le_of_ble_eq_true rfl), (Nat.le_of_ble_eq_true rfl)⟩) g hK (by decide) (by decide) (fx' := [(14, 10, a0_, .int y_14), (14, 5, a0_, .int x_7), (14, 8, a0_, .int j31_1), (14, 9, a0_, .int g31_14_9_a0_)]) rfl (fun r_548 fr_548 H locs hp hMr_548 g => ?_)
                      rcases hp with ⟨h_549, -⟩ | ⟨h_550, h_551, x_552, h_553, hF_554⟩
                      · obtain rfl : r_548 = (-1) := h_549
                        refine lv_bipush (v := 95) hx hb dX14_scan_104 (by decide) ?_
                        refine lv_icmp_ne (tgt := 115) hx hb dX14_scan_106 (by decide) (fun c_ => ?_) (fun c_ => absurd c_ (by decide))
                        refine lv_aload_n hx hb dX14_scan_115 rfl (lv_at hl 3 rfl) ?_
                        refine lv_iload_n hx hb dX14_scan_116 rfl (lv_at hl 0 rfl) ?_
                        refine g_put (C := RX14) (T := TX14) (N := 67) hx hb hts (mc_ inX14) tyX14 tyX14_ok nmX14 hown hK g ma0_ ka0_ (by decide) rfl 9 (by decide) (hts _ (List.mem_cons_of_mem _ t_2155)) (fun _ h9 => h9) rfl rfl (okV_i (bd_sub b_531 (by decide))) rfl rfl (by decide) (Or.inr (Or.inl (by decide))) (fx' := [(14, 10, a0_, .int y_14), (14, 5, a0_, .int x_7), (14, 8, a0_, .int j31_1)]) rfl dX14_scan_117 (fun f H locs hM_555 g => ?_)
                        refine lv_aload_n hx hb dX14_scan_120 rfl (lv_at hl 3 rfl) ?_
                        refine lv_aload_n hx hb dX14_scan_121 rfl (lv_at hl 3 rfl) ?_
                        refine lv_iload_n hx hb dX14_scan_122 rfl (lv_at hl 2 rfl) ?_
                        refine lv_iload_n hx hb dX14_scan_123 rfl (lv_at hl 0 rfl) ?_
                        refine lv_iload_n hx hb dX14_scan_124 rfl (lv_at hl 2 rfl) ?_
                        refine lv_isub hx hb dX14_scan_125 ?_
                        refine lv_topi (fun y_556 ey_556 => ?_)
                        have ty_556 := sub_bd ey_556 b_531 b_12 (by decide)
                        have b_557 : bd (-3999) 3999 y_556 := sub_rg ty_556 b_531 b_12 (by decide)
                        refine g_calli (va_runV (As := [.int j31_1, .int y_556]) (rest := [.ref a0_]) ⟨hx, hb, hml, hown, hts⟩ (r_X14_keyAt l dC dI L kd tys f H.size g.2.2.2.1 adK adV a0_ ma0_ ka0_ j31_1 b_12 y_556 (bd_sub b_557 (by decide))) (cwV 2 hts (gV_ t_2374 t_2376 t_94 t_198 t_2377) rfl rfl rfl (by decide +kernel) ⟨(Nat.le_of_ble_eq_true rfl), (Nat.le_of_ble_eq_true rfl)⟩) (pre3VA g hK hAm ma0_ ka0_ (by decide) (q := (RX14, TX14, 67)) rfl) rfl rfl hl.1 rfl (lv_room (Nat.le_of_ble_eq_true rfl)) dX14_scan_126 ⟨(Nat.le_of_ble_eq_true rfl), (Nat.le_of_ble_eq_true rfl)⟩) g hK (by decide) (by decide) (fx' := [(14, 9, a0_, .int v77_3), (14, 10, a0_, .int y_14), (14, 5, a0_, .int x_7), (14, 8, a0_, .int j31_1)]) rfl (fun r_558 fr_558 H locs hp hMr_558 g => ?_)
                        refine g_put (C := RX14) (T := TX14) (N := 67) hx hb hts (mc_ inX14) tyX14 tyX14_ok nmX14 hown hK g ma0_ ka0_ (by decide) rfl 7 (by decide) (hts _ (List.mem_cons_of_mem _ t_2153)) (fun _ h9 => h9) rfl rfl (okV_i (bdT r_558)) rfl rfl (by decide) (Or.inr (Or.inl (by decide))) (fx' := [(14, 9, a0_, .int v77_3), (14, 10, a0_, .int y_14), (14, 5, a0_, .int x_7), (14, 8, a0_, .int j31_1)]) rfl dX14_scan_129 (fun f H locs hM_559 g => ?_)
                        refine lv_aload_n hx hb dX14_scan_132 rfl (lv_at hl 3 rfl) ?_
                        refine lv_aload_n hx hb dX14_scan_133 rfl (lv_at hl 3 rfl) ?_
                        refine g_getk (C := RX14) (T := TX14) (N := 67) hx hb hts (mc_ inX14) hown hK g rfl 7 (by decide) rfl (hts _ (List.mem_cons_of_mem _ t_2153)) (fun _ h9 => h9) 0 rfl dX14_scan_134 ?_
                        refine lv_iconst (v := (-1)) hx hb dX14_scan_137 (by decide) ?_
                        refine lv_icmp_eq (tgt := 145) hx hb dX14_scan_138 (by decide) (fun c_560 => ?_) (fun c_560 => ?_)
                        · have fc_560 := eq_f c_560
                          have b_561 : bd (-1) (-1) r_558 := eqX fc_560 (bdT r_558) kb_m1 (by decide)
                          refine lv_iload_n hx hb dX14_scan_145 rfl (lv_at hl 0 rfl) ?_
                          refine lv_iload_n hx hb dX14_scan_146 rfl (lv_at hl 2 rfl) ?_
                          refine lv_isub hx hb dX14_scan_147 ?_
                          refine lv_topi (fun y_562 ey_562 => ?_)
                          obtain rfl : y_556 = y_562 := ey_556.trans ey_562.symm
                          refine lv_bipush (v := 12) hx hb dX14_scan_148 (by decide) ?_
                          have kb_12 : bd 12 12 (12 : Int32) := ⟨by decide, by decide⟩
                          refine lv_icmp_le (tgt := 157) hx hb dX14_scan_150 (by decide) (fun c_563 => ?_) (fun c_563 => ?_)
                          · have fc_563 := le_f c_563
                            have b_564 : bd (-3999) 12 y_556 := leL fc_563 b_557 kb_12 (by decide)
                            refine lv_iconst (v := 1) hx hb dX14_scan_157 (by decide) ?_
                            refine g_put (C := RX14) (T := TX14) (N := 67) hx hb hts (mc_ inX14) tyX14 tyX14_ok nmX14 hown hK g ma0_ ka0_ (by decide) rfl 6 (by decide) (hts _ (List.mem_cons_of_mem _ t_2152)) (fun _ h9 => h9) rfl rfl (okV_i (bd_sub kb_1 (by decide))) rfl rfl (by decide) (Or.inr (Or.inl (by decide))) (fx' := [(14, 7, a0_, .int r_558), (14, 9, a0_, .int v77_3), (14, 10, a0_, .int y_14), (14, 5, a0_, .int x_7), (14, 8, a0_, .int j31_1)]) rfl dX14_scan_158 (fun f H locs hM_565 g => ?_)
                            refine lv_aload_n hx hb dX14_scan_161 rfl (lv_at hl 3 rfl) ?_
                            refine lv_aload_n hx hb dX14_scan_162 rfl (lv_at hl 3 rfl) ?_
                            refine lv_iload_n hx hb dX14_scan_163 rfl (lv_at hl 2 rfl) ?_
                            refine lv_iload_n hx hb dX14_scan_164 rfl (lv_at hl 0 rfl) ?_
                            refine lv_iload_n hx hb dX14_scan_165 rfl (lv_at hl 2 rfl) ?_
                            refine lv_bipush (v := 6) hx hb dX14_scan_166 (by decide) ?_
                            have kb_6 : bd 6 6 (6 : Int32) := ⟨by decide, by decide⟩
                            refine lv_iadd hx hb dX14_scan_168 ?_
                            refine lv_topi (fun y_566 ey_566 => ?_)
                            have ty_566 := add_bd ey_566 b_12 kb_6 (by decide)
                            have b_567 : bd 6 4005 y_566 := add_rg ty_566 b_12 kb_6 (by decide)
                            refine lv_icmp_ge (tgt := 176) hx hb dX14_scan_169 (by decide) (fun c_568 => ?_) (fun c_568 => ?_)
                            · have fc_568 := le_f c_568
                              have b_569 : bd 6 3999 y_566 := leL fc_568 b_567 b_531 (by decide)
                              have b_570 : bd 0 3993 j31_1 := add_inv ty_566 b_569 b_12 kb_6 (by decide)
                              have b_571 : bd 6 3999 v77_3 := leR fc_568 b_567 b_531 (by decide)
                              refine lv_iload_n hx hb dX14_scan_176 rfl (lv_at hl 2 rfl) ?_
                              refine lv_bipush (v := 6) hx hb dX14_scan_177 (by decide) ?_
                              refine lv_iadd hx hb dX14_scan_179 ?_
                              refine lv_topi (fun y_572 ey_572 => ?_)
                              obtain rfl : y_566 = y_572 := ey_566.trans ey_572.symm
                              refine g_calll (va_runV (As := [.int j31_1, .int y_566]) (rest := [.ref a0_]) ⟨hx, hb, hml, hown, hts⟩ (r_X14_letters l dC dI L kd tys f H.size g.2.2.2.1 a0_ ma0_ ka0_ j31_1 (bd_sub b_570 (by decide)) y_566 (bd_sub b_569 (by decide))) (cwV 2 hts (gV_ t_2381 t_2383 t_95 t_198 t_2384) rfl rfl rfl (by decide +kernel) ⟨(Nat.le_of_ble_eq_true rfl), (Nat.le_of_ble_eq_true rfl)⟩) (pre3V g hK ma0_ ka0_ (by decide) (q := (RX14, TX14, 67)) rfl) rfl rfl hl.1 rfl (lv_room (Nat.le_of_ble_eq_true rfl)) dX14_scan_180 ⟨(Nat.le_of_ble_eq_true rfl), (Nat.le_of_ble_eq_true rfl)⟩) g hK (by decide) (by decide) (fx' := [(14, 6, a0_, .int 1), (14, 7, a0_, .int r_558), (14, 9, a0_, .int v77_3), (14, 10, a0_, .int y_14), (14, 5, a0_, .int x_7), (14, 8, a0_, .int j31_1)]) rfl (fun r_573 fr_573 H locs hp hMr_573 g => ?_)
                              refine g_put (C := RX14) (T := TX14) (N := 67) hx hb hts (mc_ inX14) tyX14 tyX14_ok nmX14 hown hK g ma0_ ka0_ (by decide) rfl 12 (by decide) (hts _ (List.mem_cons_of_mem _ t_2158)) (fun _ h9 => h9) rfl rfl okV_l rfl rfl (by decide) (Or.inr (Or.inl (by decide))) (fx' := [(14, 6, a0_, .int 1), (14, 7, a0_, .int r_558), (14, 9, a0_, .int v77_3), (14, 10, a0_, .int y_14), (14, 5, a0_, .int x_7), (14, 8, a0_, .int j31_1)]) rfl dX14_scan_183 (fun f H locs hM_574 g => ?_)
                              refine lv_aload_n hx hb dX14_scan_186 rfl (lv_at hl 3 rfl) ?_
                              refine lv_iload_n hx hb dX14_scan_187 rfl (lv_at hl 0 rfl) ?_
                              refine lv_iload_n hx hb dX14_scan_188 rfl (lv_at hl 2 rfl) ?_
                              refine lv_bipush (v := 6) hx hb dX14_scan_189 (by decide) ?_
                              refine lv_iadd hx hb dX14_scan_191 ?_
                              refine lv_topi (fun y_575 ey_575 => ?_)
                              obtain rfl : y_566 = y_575 := ey_566.trans ey_575.symm
                              refine lv_icmp_le (tgt := 215) hx hb dX14_scan_192 (by decide) (fun c_576 => ?_) (fun c_576 => ?_)
                              · have fc_576 := le_f c_576
                                refine lv_lconst (v := 0) hx hb dX14_scan_215 (by decide) ?_
                                refine g_put (C := RX14) (T := TX14) (N := 67) hx hb hts (mc_ inX14) tyX14 tyX14_ok nmX14 hown hK g ma0_ ka0_ (by decide) rfl 13 (by decide) (hts _ (List.mem_cons_of_mem _ t_2159)) (fun _ h9 => h9) rfl rfl okV_l rfl rfl (by decide) (Or.inr (Or.inl (by decide))) (fx' := [(14, 12, a0_, .long r_573), (14, 6, a0_, .int 1), (14, 7, a0_, .int r_558), (14, 9, a0_, .int v77_3), (14, 10, a0_, .int y_14), (14, 5, a0_, .int x_7), (14, 8, a0_, .int j31_1)]) rfl dX14_scan_216 (fun f H locs hM_577 g => ?_)
                                refine lv_goto (tgt := 324) hx hb dX14_scan_219 (by decide) ?_
                                subst hQ
                                exact W.vret hx hb hr (fun t ht hW => ⟨⟨_, rfl, ⟨y_14, (bd_sub b_15 (by decide)), (g.fcts [5] rfl)⟩, q3_of g hK ht hW⟩, g.2.2.1.F ht⟩) g.2.2.1.2.2 dX14_scan_324
                              · have fc_576 := nle_f c_576
                                have b_578 : bd 6 3998 y_566 := ltL fc_576 b_569 b_571 (by decide)
                                have b_579 : bd 0 3992 j31_1 := add_inv ty_566 b_578 b_570 kb_6 (by decide)
                                have b_580 : bd 7 3999 v77_3 := ltR fc_576 b_569 b_571 (by decide)
                                refine lv_iload_n hx hb dX14_scan_195 rfl (lv_at hl 0 rfl) ?_
                                refine lv_iload_n hx hb dX14_scan_196 rfl (lv_at hl 2 rfl) ?_
                                refine lv_bipush (v := 12) hx hb dX14_scan_197 (by decide) ?_
                                refine lv_iadd hx hb dX14_scan_199 ?_
                                refine lv_topi (fun y_581 ey_581 => ?_)
                                have ty_581 := add_bd ey_581 b_579 kb_12 (by decide)
                                have b_582 : bd 12 4004 y_581 := add_rg ty_581 b_579 kb_12 (by decide)
                                refine lv_icmp_gt (tgt := 215) hx hb dX14_scan_200 (by decide) (fun c_583 => ?_) (fun c_583 => ?_)
                                · have fc_583 := lt_f c_583
                                  have b_584 : bd 12 3998 y_581 := ltL fc_583 b_582 b_580 (by decide)
                                  have b_585 : bd 0 3986 j31_1 := add_inv ty_581 b_584 b_579 kb_12 (by decide)
                                  have b_586 : bd 13 3999 v77_3 := ltR fc_583 b_582 b_580 (by decide)
                                  refine lv_lconst (v := 0) hx hb dX14_scan_215 (by decide) ?_
                                  refine g_put (C := RX14) (T := TX14) (N := 67) hx hb hts (mc_ inX14) tyX14 tyX14_ok nmX14 hown hK g ma0_ ka0_ (by decide) rfl 13 (by decide) (hts _ (List.mem_cons_of_mem _ t_2159)) (fun _ h9 => h9) rfl rfl okV_l rfl rfl (by decide) (Or.inr (Or.inl (by decide))) (fx' := [(14, 12, a0_, .long r_573), (14, 6, a0_, .int 1), (14, 7, a0_, .int r_558), (14, 9, a0_, .int v77_3), (14, 10, a0_, .int y_14), (14, 5, a0_, .int x_7), (14, 8, a0_, .int j31_1)]) rfl dX14_scan_216 (fun f H locs hM_587 g => ?_)
                                  refine lv_goto (tgt := 324) hx hb dX14_scan_219 (by decide) ?_
                                  subst hQ
                                  exact W.vret hx hb hr (fun t ht hW => ⟨⟨_, rfl, ⟨y_14, (bd_sub b_15 (by decide)), (g.fcts [5] rfl)⟩, q3_of g hK ht hW⟩, g.2.2.1.F ht⟩) g.2.2.1.2.2 dX14_scan_324
                                · have fc_583 := nlt_f c_583
                                  refine lv_aload_n hx hb dX14_scan_203 rfl (lv_at hl 3 rfl) ?_
                                  refine lv_iload_n hx hb dX14_scan_204 rfl (lv_at hl 2 rfl) ?_
                                  refine lv_bipush (v := 6) hx hb dX14_scan_205 (by decide) ?_
                                  refine lv_iadd hx hb dX14_scan_207 ?_
                                  refine lv_topi (fun y_588 ey_588 => ?_)
                                  obtain rfl : y_566 = y_588 := ey_566.trans ey_588.symm
                                  refine lv_iload_n hx hb dX14_scan_208 rfl (lv_at hl 0 rfl) ?_
                                  refine g_calll (va_runV (As := [.int y_566, .int v77_3]) (rest := [.ref a0_]) ⟨hx, hb, hml, hown, hts⟩ (r_X14_letters l dC dI L kd tys f H.size g.2.2.2.1 a0_ ma0_ ka0_ y_566 (bd_sub b_578 (by decide)) v77_3 (bd_sub b_580 (by decide))) (cwV 2 hts (gV_ t_2381 t_2383 t_95 t_198 t_2384) rfl rfl rfl (by decide +kernel) ⟨(Nat.le_of_ble_eq_true rfl), (Nat.le_of_ble_eq_true rfl)⟩) (pre3V g hK ma0_ ka0_ (by decide) (q := (RX14, TX14, 67)) rfl) rfl rfl hl.1 rfl (lv_room (Nat.le_of_ble_eq_true rfl)) dX14_scan_209 ⟨(Nat.le_of_ble_eq_true rfl), (Nat.le_of_ble_eq_true rfl)⟩) g hK (by decide) (by decide) (fx' := [(14, 12, a0_, .long r_573), (14, 6, a0_, .int 1), (14, 7, a0_, .int r_558), (14, 9, a0_, .int v77_3), (14, 10, a0_, .int y_14), (14, 5, a0_, .int x_7), (14, 8, a0_, .int j31_1)]) rfl (fun r_589 fr_589 H locs hp hMr_589 g => ?_)
                                  refine lv_goto (tgt := 216) hx hb dX14_scan_212 (by decide) ?_
                                  refine g_put (C := RX14) (T := TX14) (N := 67) hx hb hts (mc_ inX14) tyX14 tyX14_ok nmX14 hown hK g ma0_ ka0_ (by decide) rfl 13 (by decide) (hts _ (List.mem_cons_of_mem _ t_2159)) (fun _ h9 => h9) rfl rfl okV_l rfl rfl (by decide) (Or.inr (Or.inl (by decide))) (fx' := [(14, 12, a0_, .long r_573), (14, 6, a0_, .int 1), (14, 7, a0_, .int r_558), (14, 9, a0_, .int v77_3), (14, 10, a0_, .int y_14), (14, 5, a0_, .int x_7), (14, 8, a0_, .int j31_1)]) rfl dX14_scan_216 (fun f H locs hM_590 g => ?_)
                                  refine lv_goto (tgt := 324) hx hb dX14_scan_219 (by decide) ?_
                                  subst hQ
                                  exact W.vret hx hb hr (fun t ht hW => ⟨⟨_, rfl, ⟨y_14, (bd_sub b_15 (by decide)), (g.fcts [5] rfl)⟩, q3_of g hK ht hW⟩, g.2.2.1.F ht⟩) g.2.2.1.2.2 dX14_scan_324
                            · have fc_568 := nle_f c_568
                              refine lv_iload_n hx hb dX14_scan_172 rfl (lv_at hl 0 rfl) ?_
                              refine lv_goto (tgt := 180) hx hb dX14_scan_173 (by decide) ?_
                              refine g_calll (va_runV (As := [.int j31_1, .int v77_3]) (rest := [.ref a0_]) ⟨hx, hb, hml, hown, hts⟩ (r_X14_letters l dC dI L kd tys f H.size g.2.2.2.1 a0_ ma0_ ka0_ j31_1 (bd_sub b_12 (by decide)) v77_3 (bd_sub b_531 (by decide))) (cwV 2 hts (gV_ t_2381 t_2383 t_95 t_198 t_2384) rfl rfl rfl (by decide +kernel) ⟨(Nat.le_of_ble_eq_true rfl), (Nat.le_of_ble_eq_true rfl)⟩) (pre3V g hK ma0_ ka0_ (by decide) (q := (RX14, TX14, 67)) rfl) rfl rfl hl.1 rfl (lv_room (Nat.le_of_ble_eq_true rfl)) dX14_scan_180 ⟨(Nat.le_of_ble_eq_true rfl), (Nat.le_of_ble_eq_true rfl)⟩) g hK (by decide) (by decide) (fx' := [(14, 6, a0_, .int 1), (14, 7, a0_, .int r_558), (14, 9, a0_, .int v77_3), (14, 10, a0_, .int y_14), (14, 5, a0_, .int x_7), (14, 8, a0_, .int j31_1)]) rfl (fun r_591 fr_591 H locs hp hMr_591 g => ?_)
                              refine g_put (C := RX14) (T := TX14) (N := 67) hx hb hts (mc_ inX14) tyX14 tyX14_ok nmX14 hown hK g ma0_ ka0_ (by decide) rfl 12 (by decide) (hts _ (List.mem_cons_of_mem _ t_2158)) (fun _ h9 => h9) rfl rfl okV_l rfl rfl (by decide) (Or.inr (Or.inl (by decide))) (fx' := [(14, 6, a0_, .int 1), (14, 7, a0_, .int r_558), (14, 9, a0_, .int v77_3), (14, 10, a0_, .int y_14), (14, 5, a0_, .int x_7), (14, 8, a0_, .int j31_1)]) rfl dX14_scan_183 (fun f H locs hM_592 g => ?_)
                              refine lv_aload_n hx hb dX14_scan_186 rfl (lv_at hl 3 rfl) ?_
                              refine lv_iload_n hx hb dX14_scan_187 rfl (lv_at hl 0 rfl) ?_
                              refine lv_iload_n hx hb dX14_scan_188 rfl (lv_at hl 2 rfl) ?_
                              refine lv_bipush (v := 6) hx hb dX14_scan_189 (by decide) ?_
                              refine lv_iadd hx hb dX14_scan_191 ?_
                              refine lv_topi (fun y_593 ey_593 => ?_)
                              obtain rfl : y_566 = y_593 := ey_566.trans ey_593.symm
                              refine lv_icmp_le (tgt := 215) hx hb dX14_scan_192 (by decide) (fun c_594 => ?_) (fun c_594 => ?_)
                              · have fc_594 := le_f c_594
                                refine lv_lconst (v := 0) hx hb dX14_scan_215 (by decide) ?_
                                refine g_put (C := RX14) (T := TX14) (N := 67) hx hb hts (mc_ inX14) tyX14 tyX14_ok nmX14 hown hK g ma0_ ka0_ (by decide) rfl 13 (by decide) (hts _ (List.mem_cons_of_mem _ t_2159)) (fun _ h9 => h9) rfl rfl okV_l rfl rfl (by decide) (Or.inr (Or.inl (by decide))) (fx' := [(14, 12, a0_, .long r_591), (14, 6, a0_, .int 1), (14, 7, a0_, .int r_558), (14, 9, a0_, .int v77_3), (14, 10, a0_, .int y_14), (14, 5, a0_, .int x_7), (14, 8, a0_, .int j31_1)]) rfl dX14_scan_216 (fun f H locs hM_595 g => ?_)
                                refine lv_goto (tgt := 324) hx hb dX14_scan_219 (by decide) ?_
                                subst hQ
                                exact W.vret hx hb hr (fun t ht hW => ⟨⟨_, rfl, ⟨y_14, (bd_sub b_15 (by decide)), (g.fcts [5] rfl)⟩, q3_of g hK ht hW⟩, g.2.2.1.F ht⟩) g.2.2.1.2.2 dX14_scan_324
                              · have fc_594 := nle_f c_594
                                have b_596 : bd 6 3998 y_566 := ltL fc_594 b_567 b_531 (by decide)
                                have b_597 : bd 0 3992 j31_1 := add_inv ty_566 b_596 b_12 kb_6 (by decide)
                                have b_598 : bd 7 3999 v77_3 := ltR fc_594 b_567 b_531 (by decide)
                                refine lv_iload_n hx hb dX14_scan_195 rfl (lv_at hl 0 rfl) ?_
                                refine lv_iload_n hx hb dX14_scan_196 rfl (lv_at hl 2 rfl) ?_
                                refine lv_bipush (v := 12) hx hb dX14_scan_197 (by decide) ?_
                                refine lv_iadd hx hb dX14_scan_199 ?_
                                refine lv_topi (fun y_599 ey_599 => ?_)
                                have ty_599 := add_bd ey_599 b_597 kb_12 (by decide)
                                have b_600 : bd 12 4004 y_599 := add_rg ty_599 b_597 kb_12 (by decide)
                                refine lv_icmp_gt (tgt := 215) hx hb dX14_scan_200 (by decide) (fun c_601 => ?_) (fun c_601 => ?_)
                                · have fc_601 := lt_f c_601
                                  have b_602 : bd 12 3998 y_599 := ltL fc_601 b_600 b_598 (by decide)
                                  have b_603 : bd 0 3986 j31_1 := add_inv ty_599 b_602 b_597 kb_12 (by decide)
                                  have b_604 : bd 13 3999 v77_3 := ltR fc_601 b_600 b_598 (by decide)
                                  refine lv_lconst (v := 0) hx hb dX14_scan_215 (by decide) ?_
                                  refine g_put (C := RX14) (T := TX14) (N := 67) hx hb hts (mc_ inX14) tyX14 tyX14_ok nmX14 hown hK g ma0_ ka0_ (by decide) rfl 13 (by decide) (hts _ (List.mem_cons_of_mem _ t_2159)) (fun _ h9 => h9) rfl rfl okV_l rfl rfl (by decide) (Or.inr (Or.inl (by decide))) (fx' := [(14, 12, a0_, .long r_591), (14, 6, a0_, .int 1), (14, 7, a0_, .int r_558), (14, 9, a0_, .int v77_3), (14, 10, a0_, .int y_14), (14, 5, a0_, .int x_7), (14, 8, a0_, .int j31_1)]) rfl dX14_scan_216 (fun f H locs hM_605 g => ?_)
                                  refine lv_goto (tgt := 324) hx hb dX14_scan_219 (by decide) ?_
                                  subst hQ
                                  exact W.vret hx hb hr (fun t ht hW => ⟨⟨_, rfl, ⟨y_14, (bd_sub b_15 (by decide)), (g.fcts [5] rfl)⟩, q3_of g hK ht hW⟩, g.2.2.1.F ht⟩) g.2.2.1.2.2 dX14_scan_324
                                · have fc_601 := nlt_f c_601
                                  refine lv_aload_n hx hb dX14_scan_203 rfl (lv_at hl 3 rfl) ?_
                                  refine lv_iload_n hx hb dX14_scan_204 rfl (lv_at hl 2 rfl) ?_
                                  refine lv_bipush (v := 6) hx hb dX14_scan_205 (by decide) ?_
                                  refine lv_iadd hx hb dX14_scan_207 ?_
                                  refine lv_topi (fun y_606 ey_606 => ?_)
                                  obtain rfl : y_566 = y_606 := ey_566.trans ey_606.symm
                                  refine lv_iload_n hx hb dX14_scan_208 rfl (lv_at hl 0 rfl) ?_
                                  refine g_calll (va_runV (As := [.int y_566, .int v77_3]) (rest := [.ref a0_]) ⟨hx, hb, hml, hown, hts⟩ (r_X14_letters l dC dI L kd tys f H.size g.2.2.2.1 a0_ ma0_ ka0_ y_566 (bd_sub b_596 (by decide)) v77_3 (bd_sub b_598 (by decide))) (cwV 2 hts (gV_ t_2381 t_2383 t_95 t_198 t_2384) rfl rfl rfl (by decide +kernel) ⟨(Nat.le_of_ble_eq_true rfl), (Nat.le_of_ble_eq_true rfl)⟩) (pre3V g hK ma0_ ka0_ (by decide) (q := (RX14, TX14, 67)) rfl) rfl rfl hl.1 rfl (lv_room (Nat.le_of_ble_eq_true rfl)) dX14_scan_209 ⟨(Nat.le_of_ble_eq_true rfl), (Nat.le_of_ble_eq_true rfl)⟩) g hK (by decide) (by decide) (fx' := [(14, 12, a0_, .long r_591), (14, 6, a0_, .int 1), (14, 7, a0_, .int r_558), (14, 9, a0_, .int v77_3), (14, 10, a0_, .int y_14), (14, 5, a0_, .int x_7), (14, 8, a0_, .int j31_1)]) rfl (fun r_607 fr_607 H locs hp hMr_607 g => ?_)
                                  refine lv_goto (tgt := 216) hx hb dX14_scan_212 (by decide) ?_
                                  refine g_put (C := RX14) (T := TX14) (N := 67) hx hb hts (mc_ inX14) tyX14 tyX14_ok nmX14 hown hK g ma0_ ka0_ (by decide) rfl 13 (by decide) (hts _ (List.mem_cons_of_mem _ t_2159)) (fun _ h9 => h9) rfl rfl okV_l rfl rfl (by decide) (Or.inr (Or.inl (by decide))) (fx' := [(14, 12, a0_, .long r_591), (14, 6, a0_, .int 1), (14, 7, a0_, .int r_558), (14, 9, a0_, .int v77_3), (14, 10, a0_, .int y_14), (14, 5, a0_, .int x_7), (14, 8, a0_, .int j31_1)]) rfl dX14_scan_216 (fun f H locs hM_608 g => ?_)
                                  refine lv_goto (tgt := 324) hx hb dX14_scan_219 (by decide) ?_
                                  subst hQ
                                  exact W.vret hx hb hr (fun t ht hW => ⟨⟨_, rfl, ⟨y_14, (bd_sub b_15 (by decide)), (g.fcts [5] rfl)⟩, q3_of g hK ht hW⟩, g.2.2.1.F ht⟩) g.2.2.1.2.2 dX14_scan_324
                          · have fc_563 := nle_f c_563
                            have b_609 : bd 13 3999 y_556 := ltR fc_563 kb_12 b_557 (by decide)
                            refine lv_iconst (v := 0) hx hb dX14_scan_153 (by decide) ?_
                            refine lv_goto (tgt := 158) hx hb dX14_scan_154 (by decide) ?_
                            have kb_0 : bd 0 0 (0 : Int32) := ⟨by decide, by decide⟩
                            refine g_put (C := RX14) (T := TX14) (N := 67) hx hb hts (mc_ inX14) tyX14 tyX14_ok nmX14 hown hK g ma0_ ka0_ (by decide) rfl 6 (by decide) (hts _ (List.mem_cons_of_mem _ t_2152)) (fun _ h9 => h9) rfl rfl (okV_i (bd_sub kb_0 (by decide))) rfl rfl (by decide) (Or.inr (Or.inl (by decide))) (fx' := [(14, 7, a0_, .int r_558), (14, 9, a0_, .int v77_3), (14, 10, a0_, .int y_14), (14, 5, a0_, .int x_7), (14, 8, a0_, .int j31_1)]) rfl dX14_scan_158 (fun f H locs hM_610 g => ?_)
                            refine lv_aload_n hx hb dX14_scan_161 rfl (lv_at hl 3 rfl) ?_
                            refine lv_aload_n hx hb dX14_scan_162 rfl (lv_at hl 3 rfl) ?_
                            refine lv_iload_n hx hb dX14_scan_163 rfl (lv_at hl 2 rfl) ?_
                            refine lv_iload_n hx hb dX14_scan_164 rfl (lv_at hl 0 rfl) ?_
                            refine lv_iload_n hx hb dX14_scan_165 rfl (lv_at hl 2 rfl) ?_
                            refine lv_bipush (v := 6) hx hb dX14_scan_166 (by decide) ?_
                            have kb_6 : bd 6 6 (6 : Int32) := ⟨by decide, by decide⟩
                            refine lv_iadd hx hb dX14_scan_168 ?_
                            refine lv_topi (fun y_611 ey_611 => ?_)
                            have ty_611 := add_bd ey_611 b_12 kb_6 (by decide)
                            have b_612 : bd 6 4005 y_611 := add_rg ty_611 b_12 kb_6 (by decide)
                            refine lv_icmp_ge (tgt := 176) hx hb dX14_scan_169 (by decide) (fun c_613 => ?_) (fun c_613 => ?_)
                            · have fc_613 := le_f c_613
                              have b_614 : bd 6 3999 y_611 := leL fc_613 b_612 b_531 (by decide)
                              have b_615 : bd 0 3993 j31_1 := add_inv ty_611 b_614 b_12 kb_6 (by decide)
                              have b_616 : bd 6 3999 v77_3 := leR fc_613 b_612 b_531 (by decide)
                              refine lv_iload_n hx hb dX14_scan_176 rfl (lv_at hl 2 rfl) ?_
                              refine lv_bipush (v := 6) hx hb dX14_scan_177 (by decide) ?_
                              refine lv_iadd hx hb dX14_scan_179 ?_
                              refine lv_topi (fun y_617 ey_617 => ?_)
                              obtain rfl : y_611 = y_617 := ey_611.trans ey_617.symm
                              refine g_calll (va_runV (As := [.int j31_1, .int y_611]) (rest := [.ref a0_]) ⟨hx, hb, hml, hown, hts⟩ (r_X14_letters l dC dI L kd tys f H.size g.2.2.2.1 a0_ ma0_ ka0_ j31_1 (bd_sub b_615 (by decide)) y_611 (bd_sub b_614 (by decide))) (cwV 2 hts (gV_ t_2381 t_2383 t_95 t_198 t_2384) rfl rfl rfl (by decide +kernel) ⟨(Nat.le_of_ble_eq_true rfl), (Nat.le_of_ble_eq_true rfl)⟩) (pre3V g hK ma0_ ka0_ (by decide) (q := (RX14, TX14, 67)) rfl) rfl rfl hl.1 rfl (lv_room (Nat.le_of_ble_eq_true rfl)) dX14_scan_180 ⟨(Nat.le_of_ble_eq_true rfl), (Nat.le_of_ble_eq_true rfl)⟩) g hK (by decide) (by decide) (fx' := [(14, 6, a0_, .int 0), (14, 7, a0_, .int r_558), (14, 9, a0_, .int v77_3), (14, 10, a0_, .int y_14), (14, 5, a0_, .int x_7), (14, 8, a0_, .int j31_1)]) rfl (fun r_618 fr_618 H locs hp hMr_618 g => ?_)
                              refine g_put (C := RX14) (T := TX14) (N := 67) hx hb hts (mc_ inX14) tyX14 tyX14_ok nmX14 hown hK g ma0_ ka0_ (by decide) rfl 12 (by decide) (hts _ (List.mem_cons_of_mem _ t_2158)) (fun _ h9 => h9) rfl rfl okV_l rfl rfl (by decide) (Or.inr (Or.inl (by decide))) (fx' := [(14, 6, a0_, .int 0), (14, 7, a0_, .int r_558), (14, 9, a0_, .int v77_3), (14, 10, a0_, .int y_14), (14, 5, a0_, .int x_7), (14, 8, a0_, .int j31_1)]) rfl dX14_scan_183 (fun f H locs hM_619 g => ?_)
                              refine lv_aload_n hx hb dX14_scan_186 rfl (lv_at hl 3 rfl) ?_
                              refine lv_iload_n hx hb dX14_scan_187 rfl (lv_at hl 0 rfl) ?_
                              refine lv_iload_n hx hb dX14_scan_188 rfl (lv_at hl 2 rfl) ?_
                              refine lv_bipush (v := 6) hx hb dX14_scan_189 (by decide) ?_
                              refine lv_iadd hx hb dX14_scan_191 ?_
                              refine lv_topi (fun y_620 ey_620 => ?_)
                              obtain rfl : y_611 = y_620 := ey_611.trans ey_620.symm
                              refine lv_icmp_le (tgt := 215) hx hb dX14_scan_192 (by decide) (fun c_621 => ?_) (fun c_621 => ?_)
                              · have fc_621 := le_f c_621
                                refine lv_lconst (v := 0) hx hb dX14_scan_215 (by decide) ?_
                                refine g_put (C := RX14) (T := TX14) (N := 67) hx hb hts (mc_ inX14) tyX14 tyX14_ok nmX14 hown hK g ma0_ ka0_ (by decide) rfl 13 (by decide) (hts _ (List.mem_cons_of_mem _ t_2159)) (fun _ h9 => h9) rfl rfl okV_l rfl rfl (by decide) (Or.inr (Or.inl (by decide))) (fx' := [(14, 12, a0_, .long r_618), (14, 6, a0_, .int 0), (14, 7, a0_, .int r_558), (14, 9, a0_, .int v77_3), (14, 10, a0_, .int y_14), (14, 5, a0_, .int x_7), (14, 8, a0_, .int j31_1)]) rfl dX14_scan_216 (fun f H locs hM_622 g => ?_)
                                refine lv_goto (tgt := 324) hx hb dX14_scan_219 (by decide) ?_
                                subst hQ
                                exact W.vret hx hb hr (fun t ht hW => ⟨⟨_, rfl, ⟨y_14, (bd_sub b_15 (by decide)), (g.fcts [5] rfl)⟩, q3_of g hK ht hW⟩, g.2.2.1.F ht⟩) g.2.2.1.2.2 dX14_scan_324
                              · have fc_621 := nle_f c_621
                                have b_623 : bd 6 3998 y_611 := ltL fc_621 b_614 b_616 (by decide)
                                have b_624 : bd 0 3992 j31_1 := add_inv ty_611 b_623 b_615 kb_6 (by decide)
                                have b_625 : bd 7 3999 v77_3 := ltR fc_621 b_614 b_616 (by decide)
                                refine lv_iload_n hx hb dX14_scan_195 rfl (lv_at hl 0 rfl) ?_
                                refine lv_iload_n hx hb dX14_scan_196 rfl (lv_at hl 2 rfl) ?_
                                refine lv_bipush (v := 12) hx hb dX14_scan_197 (by decide) ?_
                                refine lv_iadd hx hb dX14_scan_199 ?_
                                refine lv_topi (fun y_626 ey_626 => ?_)
                                have ty_626 := add_bd ey_626 b_624 kb_12 (by decide)
                                have b_627 : bd 12 4004 y_626 := add_rg ty_626 b_624 kb_12 (by decide)
                                refine lv_icmp_gt (tgt := 215) hx hb dX14_scan_200 (by decide) (fun c_628 => ?_) (fun c_628 => ?_)
                                · have fc_628 := lt_f c_628
                                  have b_629 : bd 12 3998 y_626 := ltL fc_628 b_627 b_625 (by decide)
                                  have b_630 : bd 0 3986 j31_1 := add_inv ty_626 b_629 b_624 kb_12 (by decide)
                                  have b_631 : bd 13 3999 v77_3 := ltR fc_628 b_627 b_625 (by decide)
                                  refine lv_lconst (v := 0) hx hb dX14_scan_215 (by decide) ?_
                                  refine g_put (C := RX14) (T := TX14) (N := 67) hx hb hts (mc_ inX14) tyX14 tyX14_ok nmX14 hown hK g ma0_ ka0_ (by decide) rfl 13 (by decide) (hts _ (List.mem_cons_of_mem _ t_2159)) (fun _ h9 => h9) rfl rfl okV_l rfl rfl (by decide) (Or.inr (Or.inl (by decide))) (fx' := [(14, 12, a0_, .long r_618), (14, 6, a0_, .int 0), (14, 7, a0_, .int r_558), (14, 9, a0_, .int v77_3), (14, 10, a0_, .int y_14), (14, 5, a0_, .int x_7), (14, 8, a0_, .int j31_1)]) rfl dX14_scan_216 (fun f H locs hM_632 g => ?_)
                                  refine lv_goto (tgt := 324) hx hb dX14_scan_219 (by decide) ?_
                                  subst hQ
                                  exact W.vret hx hb hr (fun t ht hW => ⟨⟨_, rfl, ⟨y_14, (bd_sub b_15 (by decide)), (g.fcts [5] rfl)⟩, q3_of g hK ht hW⟩, g.2.2.1.F ht⟩) g.2.2.1.2.2 dX14_scan_324
                                · have fc_628 := nlt_f c_628
                                  refine lv_aload_n hx hb dX14_scan_203 rfl (lv_at hl 3 rfl) ?_
                                  refine lv_iload_n hx hb dX14_scan_204 rfl (lv_at hl 2 rfl) ?_
                                  refine lv_bipush (v := 6) hx hb dX14_scan_205 (by decide) ?_
                                  refine lv_iadd hx hb dX14_scan_207 ?_
                                  refine lv_topi (fun y_633 ey_633 => ?_)
                                  obtain rfl : y_611 = y_633 := ey_611.trans ey_633.symm
                                  refine lv_iload_n hx hb dX14_scan_208 rfl (lv_at hl 0 rfl) ?_
                                  refine g_calll (va_runV (As := [.int y_611, .int v77_3]) (rest := [.ref a0_]) ⟨hx, hb, hml, hown, hts⟩ (r_X14_letters l dC dI L kd tys f H.size g.2.2.2.1 a0_ ma0_ ka0_ y_611 (bd_sub b_623 (by decide)) v77_3 (bd_sub b_625 (by decide))) (cwV 2 hts (gV_ t_2381 t_2383 t_95 t_198 t_2384) rfl rfl rfl (by decide +kernel) ⟨(Nat.le_of_ble_eq_true rfl), (Nat.le_of_ble_eq_true rfl)⟩) (pre3V g hK ma0_ ka0_ (by decide) (q := (RX14, TX14, 67)) rfl) rfl rfl hl.1 rfl (lv_room (Nat.le_of_ble_eq_true rfl)) dX14_scan_209 ⟨(Nat.le_of_ble_eq_true rfl), (Nat.le_of_ble_eq_true rfl)⟩) g hK (by decide) (by decide) (fx' := [(14, 12, a0_, .long r_618), (14, 6, a0_, .int 0), (14, 7, a0_, .int r_558), (14, 9, a0_, .int v77_3), (14, 10, a0_, .int y_14), (14, 5, a0_, .int x_7), (14, 8, a0_, .int j31_1)]) rfl (fun r_634 fr_634 H locs hp hMr_634 g => ?_)
                                  refine lv_goto (tgt := 216) hx hb dX14_scan_212 (by decide) ?_
                                  refine g_put (C := RX14) (T := TX14) (N := 67) hx hb hts (mc_ inX14) tyX14 tyX14_ok nmX14 hown hK g ma0_ ka0_ (by decide) rfl 13 (by decide) (hts _ (List.mem_cons_of_mem _ t_2159)) (fun _ h9 => h9) rfl rfl okV_l rfl rfl (by decide) (Or.inr (Or.inl (by decide))) (fx' := [(14, 12, a0_, .long r_618), (14, 6, a0_, .int 0), (14, 7, a0_, .int r_558), (14, 9, a0_, .int v77_3), (14, 10, a0_, .int y_14), (14, 5, a0_, .int x_7), (14, 8, a0_, .int j31_1)]) rfl dX14_scan_216 (fun f H locs hM_635 g => ?_)
                                  refine lv_goto (tgt := 324) hx hb dX14_scan_219 (by decide) ?_
                                  subst hQ
                                  exact W.vret hx hb hr (fun t ht hW => ⟨⟨_, rfl, ⟨y_14, (bd_sub b_15 (by decide)), (g.fcts [5] rfl)⟩, q3_of g hK ht hW⟩, g.2.2.1.F ht⟩) g.2.2.1.2.2 dX14_scan_324
                            · have fc_613 := nle_f c_613
                              refine lv_iload_n hx hb dX14_scan_172 rfl (lv_at hl 0 rfl) ?_
                              refine lv_goto (tgt := 180) hx hb dX14_scan_173 (by decide) ?_
                              refine g_calll (va_runV (As := [.int j31_1, .int v77_3]) (rest := [.ref a0_]) ⟨hx, hb, hml, hown, hts⟩ (r_X14_letters l dC dI L kd tys f H.size g.2.2.2.1 a0_ ma0_ ka0_ j31_1 (bd_sub b_12 (by decide)) v77_3 (bd_sub b_531 (by decide))) (cwV 2 hts (gV_ t_2381 t_2383 t_95 t_198 t_2384) rfl rfl rfl (by decide +kernel) ⟨(Nat.le_of_ble_eq_true rfl), (Nat.le_of_ble_eq_true rfl)⟩) (pre3V g hK ma0_ ka0_ (by decide) (q := (RX14, TX14, 67)) rfl) rfl rfl hl.1 rfl (lv_room (Nat.le_of_ble_eq_true rfl)) dX14_scan_180 ⟨(Nat.le_of_ble_eq_true rfl), (Nat.le_of_ble_eq_true rfl)⟩) g hK (by decide) (by decide) (fx' := [(14, 6, a0_, .int 0), (14, 7, a0_, .int r_558), (14, 9, a0_, .int v77_3), (14, 10, a0_, .int y_14), (14, 5, a0_, .int x_7), (14, 8, a0_, .int j31_1)]) rfl (fun r_636 fr_636 H locs hp hMr_636 g => ?_)
                              refine g_put (C := RX14) (T := TX14) (N := 67) hx hb hts (mc_ inX14) tyX14 tyX14_ok nmX14 hown hK g ma0_ ka0_ (by decide) rfl 12 (by decide) (hts _ (List.mem_cons_of_mem _ t_2158)) (fun _ h9 => h9) rfl rfl okV_l rfl rfl (by decide) (Or.inr (Or.inl (by decide))) (fx' := [(14, 6, a0_, .int 0), (14, 7, a0_, .int r_558), (14, 9, a0_, .int v77_3), (14, 10, a0_, .int y_14), (14, 5, a0_, .int x_7), (14, 8, a0_, .int j31_1)]) rfl dX14_scan_183 (fun f H locs hM_637 g => ?_)
                              refine lv_aload_n hx hb dX14_scan_186 rfl (lv_at hl 3 rfl) ?_
                              refine lv_iload_n hx hb dX14_scan_187 rfl (lv_at hl 0 rfl) ?_
                              refine lv_iload_n hx hb dX14_scan_188 rfl (lv_at hl 2 rfl) ?_
                              refine lv_bipush (v := 6) hx hb dX14_scan_189 (by decide) ?_
                              refine lv_iadd hx hb dX14_scan_191 ?_
                              refine lv_topi (fun y_638 ey_638 => ?_)
                              obtain rfl : y_611 = y_638 := ey_611.trans ey_638.symm
                              refine lv_icmp_le (tgt := 215) hx hb dX14_scan_192 (by decide) (fun c_639 => ?_) (fun c_639 => ?_)
                              · have fc_639 := le_f c_639
                                refine lv_lconst (v := 0) hx hb dX14_scan_215 (by decide) ?_
                                refine g_put (C := RX14) (T := TX14) (N := 67) hx hb hts (mc_ inX14) tyX14 tyX14_ok nmX14 hown hK g ma0_ ka0_ (by decide) rfl 13 (by decide) (hts _ (List.mem_cons_of_mem _ t_2159)) (fun _ h9 => h9) rfl rfl okV_l rfl rfl (by decide) (Or.inr (Or.inl (by decide))) (fx' := [(14, 12, a0_, .long r_636), (14, 6, a0_, .int 0), (14, 7, a0_, .int r_558), (14, 9, a0_, .int v77_3), (14, 10, a0_, .int y_14), (14, 5, a0_, .int x_7), (14, 8, a0_, .int j31_1)]) rfl dX14_scan_216 (fun f H locs hM_640 g => ?_)
                                refine lv_goto (tgt := 324) hx hb dX14_scan_219 (by decide) ?_
                                subst hQ
                                exact W.vret hx hb hr (fun t ht hW => ⟨⟨_, rfl, ⟨y_14, (bd_sub b_15 (by decide)), (g.fcts [5] rfl)⟩, q3_of g hK ht hW⟩, g.2.2.1.F ht⟩) g.2.2.1.2.2 dX14_scan_324
                              · have fc_639 := nle_f c_639
                                have b_641 : bd 6 3998 y_611 := ltL fc_639 b_612 b_531 (by decide)
                                have b_642 : bd 0 3992 j31_1 := add_inv ty_611 b_641 b_12 kb_6 (by decide)
                                have b_643 : bd 7 3999 v77_3 := ltR fc_639 b_612 b_531 (by decide)
                                refine lv_iload_n hx hb dX14_scan_195 rfl (lv_at hl 0 rfl) ?_
                                refine lv_iload_n hx hb dX14_scan_196 rfl (lv_at hl 2 rfl) ?_
                                refine lv_bipush (v := 12) hx hb dX14_scan_197 (by decide) ?_
                                refine lv_iadd hx hb dX14_scan_199 ?_
                                refine lv_topi (fun y_644 ey_644 => ?_)
                                have ty_644 := add_bd ey_644 b_642 kb_12 (by decide)
                                have b_645 : bd 12 4004 y_644 := add_rg ty_644 b_642 kb_12 (by decide)
                                refine lv_icmp_gt (tgt := 215) hx hb dX14_scan_200 (by decide) (fun c_646 => ?_) (fun c_646 => ?_)
                                · have fc_646 := lt_f c_646
                                  have b_647 : bd 12 3998 y_644 := ltL fc_646 b_645 b_643 (by decide)
                                  have b_648 : bd 0 3986 j31_1 := add_inv ty_644 b_647 b_642 kb_12 (by decide)
                                  have b_649 : bd 13 3999 v77_3 := ltR fc_646 b_645 b_643 (by decide)
                                  refine lv_lconst (v := 0) hx hb dX14_scan_215 (by decide) ?_
                                  refine g_put (C := RX14) (T := TX14) (N := 67) hx hb hts (mc_ inX14) tyX14 tyX14_ok nmX14 hown hK g ma0_ ka0_ (by decide) rfl 13 (by decide) (hts _ (List.mem_cons_of_mem _ t_2159)) (fun _ h9 => h9) rfl rfl okV_l rfl rfl (by decide) (Or.inr (Or.inl (by decide))) (fx' := [(14, 12, a0_, .long r_636), (14, 6, a0_, .int 0), (14, 7, a0_, .int r_558), (14, 9, a0_, .int v77_3), (14, 10, a0_, .int y_14), (14, 5, a0_, .int x_7), (14, 8, a0_, .int j31_1)]) rfl dX14_scan_216 (fun f H locs hM_650 g => ?_)
                                  refine lv_goto (tgt := 324) hx hb dX14_scan_219 (by decide) ?_
                                  subst hQ
                                  exact W.vret hx hb hr (fun t ht hW => ⟨⟨_, rfl, ⟨y_14, (bd_sub b_15 (by decide)), (g.fcts [5] rfl)⟩, q3_of g hK ht hW⟩, g.2.2.1.F ht⟩) g.2.2.1.2.2 dX14_scan_324
                                · have fc_646 := nlt_f c_646
                                  refine lv_aload_n hx hb dX14_scan_203 rfl (lv_at hl 3 rfl) ?_
                                  refine lv_iload_n hx hb dX14_scan_204 rfl (lv_at hl 2 rfl) ?_
                                  refine lv_bipush (v := 6) hx hb dX14_scan_205 (by decide) ?_
                                  refine lv_iadd hx hb dX14_scan_207 ?_
                                  refine lv_topi (fun y_651 ey_651 => ?_)
                                  obtain rfl : y_611 = y_651 := ey_611.trans ey_651.symm
                                  refine lv_iload_n hx hb dX14_scan_208 rfl (lv_at hl 0 rfl) ?_
                                  refine g_calll (va_runV (As := [.int y_611, .int v77_3]) (rest := [.ref a0_]) ⟨hx, hb, hml, hown, hts⟩ (r_X14_letters l dC dI L kd tys f H.size g.2.2.2.1 a0_ ma0_ ka0_ y_611 (bd_sub b_641 (by decide)) v77_3 (bd_sub b_643 (by decide))) (cwV 2 hts (gV_ t_2381 t_2383 t_95 t_198 t_2384) rfl rfl rfl (by decide +kernel) ⟨(Nat.le_of_ble_eq_true rfl), (Nat.le_of_ble_eq_true rfl)⟩) (pre3V g hK ma0_ ka0_ (by decide) (q := (RX14, TX14, 67)) rfl) rfl rfl hl.1 rfl (lv_room (Nat.le_of_ble_eq_true rfl)) dX14_scan_209 ⟨(Nat.le_of_ble_eq_true rfl), (Nat.le_of_ble_eq_true rfl)⟩) g hK (by decide) (by decide) (fx' := [(14, 12, a0_, .long r_636), (14, 6, a0_, .int 0), (14, 7, a0_, .int r_558), (14, 9, a0_, .int v77_3), (14, 10, a0_, .int y_14), (14, 5, a0_, .int x_7), (14, 8, a0_, .int j31_1)]) rfl (fun r_652 fr_652 H locs hp hMr_652 g => ?_)
                                  refine lv_goto (tgt := 216) hx hb dX14_scan_212 (by decide) ?_
                                  refine g_put (C := RX14) (T := TX14) (N := 67) hx hb hts (mc_ inX14) tyX14 tyX14_ok nmX14 hown hK g ma0_ ka0_ (by decide) rfl 13 (by decide) (hts _ (List.mem_cons_of_mem _ t_2159)) (fun _ h9 => h9) rfl rfl okV_l rfl rfl (by decide) (Or.inr (Or.inl (by decide))) (fx' := [(14, 12, a0_, .long r_636), (14, 6, a0_, .int 0), (14, 7, a0_, .int r_558), (14, 9, a0_, .int v77_3), (14, 10, a0_, .int y_14), (14, 5, a0_, .int x_7), (14, 8, a0_, .int j31_1)]) rfl dX14_scan_216 (fun f H locs hM_653 g => ?_)
                                  refine lv_goto (tgt := 324) hx hb dX14_scan_219 (by decide) ?_
                                  subst hQ
                                  exact W.vret hx hb hr (fun t ht hW => ⟨⟨_, rfl, ⟨y_14, (bd_sub b_15 (by decide)), (g.fcts [5] rfl)⟩, q3_of g hK ht hW⟩, g.2.2.1.F ht⟩) g.2.2.1.2.2 dX14_scan_324
                        · have fc_560 := neq_f c_560
                          refine lv_iconst (v := 2) hx hb dX14_scan_141 (by decide) ?_
                          refine lv_goto (tgt := 158) hx hb dX14_scan_142 (by decide) ?_
                          have kb_2 : bd 2 2 (2 : Int32) := ⟨by decide, by decide⟩
                          refine g_put (C := RX14) (T := TX14) (N := 67) hx hb hts (mc_ inX14) tyX14 tyX14_ok nmX14 hown hK g ma0_ ka0_ (by decide) rfl 6 (by decide) (hts _ (List.mem_cons_of_mem _ t_2152)) (fun _ h9 => h9) rfl rfl (okV_i (bd_sub kb_2 (by decide))) rfl rfl (by decide) (Or.inr (Or.inl (by decide))) (fx' := [(14, 7, a0_, .int r_558), (14, 9, a0_, .int v77_3), (14, 10, a0_, .int y_14), (14, 5, a0_, .int x_7), (14, 8, a0_, .int j31_1)]) rfl dX14_scan_158 (fun f H locs hM_654 g => ?_)
                          refine lv_aload_n hx hb dX14_scan_161 rfl (lv_at hl 3 rfl) ?_
                          refine lv_aload_n hx hb dX14_scan_162 rfl (lv_at hl 3 rfl) ?_
                          refine lv_iload_n hx hb dX14_scan_163 rfl (lv_at hl 2 rfl) ?_
                          refine lv_iload_n hx hb dX14_scan_164 rfl (lv_at hl 0 rfl) ?_
                          refine lv_iload_n hx hb dX14_scan_165 rfl (lv_at hl 2 rfl) ?_
                          refine lv_bipush (v := 6) hx hb dX14_scan_166 (by decide) ?_
                          have kb_6 : bd 6 6 (6 : Int32) := ⟨by decide, by decide⟩
                          refine lv_iadd hx hb dX14_scan_168 ?_
                          refine lv_topi (fun y_655 ey_655 => ?_)
                          have ty_655 := add_bd ey_655 b_12 kb_6 (by decide)
                          have b_656 : bd 6 4005 y_655 := add_rg ty_655 b_12 kb_6 (by decide)
                          refine lv_icmp_ge (tgt := 176) hx hb dX14_scan_169 (by decide) (fun c_657 => ?_) (fun c_657 => ?_)
                          · have fc_657 := le_f c_657
                            have b_658 : bd 6 3999 y_655 := leL fc_657 b_656 b_531 (by decide)
                            have b_659 : bd 0 3993 j31_1 := add_inv ty_655 b_658 b_12 kb_6 (by decide)
                            have b_660 : bd 6 3999 v77_3 := leR fc_657 b_656 b_531 (by decide)
                            refine lv_iload_n hx hb dX14_scan_176 rfl (lv_at hl 2 rfl) ?_
                            refine lv_bipush (v := 6) hx hb dX14_scan_177 (by decide) ?_
                            refine lv_iadd hx hb dX14_scan_179 ?_
                            refine lv_topi (fun y_661 ey_661 => ?_)
                            obtain rfl : y_655 = y_661 := ey_655.trans ey_661.symm
                            refine g_calll (va_runV (As := [.int j31_1, .int y_655]) (rest := [.ref a0_]) ⟨hx, hb, hml, hown, hts⟩ (r_X14_letters l dC dI L kd tys f H.size g.2.2.2.1 a0_ ma0_ ka0_ j31_1 (bd_sub b_659 (by decide)) y_655 (bd_sub b_658 (by decide))) (cwV 2 hts (gV_ t_2381 t_2383 t_95 t_198 t_2384) rfl rfl rfl (by decide +kernel) ⟨(Nat.le_of_ble_eq_true rfl), (Nat.le_of_ble_eq_true rfl)⟩) (pre3V g hK ma0_ ka0_ (by decide) (q := (RX14, TX14, 67)) rfl) rfl rfl hl.1 rfl (lv_room (Nat.le_of_ble_eq_true rfl)) dX14_scan_180 ⟨(Nat.le_of_ble_eq_true rfl), (Nat.le_of_ble_eq_true rfl)⟩) g hK (by decide) (by decide) (fx' := [(14, 6, a0_, .int 2), (14, 7, a0_, .int r_558), (14, 9, a0_, .int v77_3), (14, 10, a0_, .int y_14), (14, 5, a0_, .int x_7), (14, 8, a0_, .int j31_1)]) rfl (fun r_662 fr_662 H locs hp hMr_662 g => ?_)
                            refine g_put (C := RX14) (T := TX14) (N := 67) hx hb hts (mc_ inX14) tyX14 tyX14_ok nmX14 hown hK g ma0_ ka0_ (by decide) rfl 12 (by decide) (hts _ (List.mem_cons_of_mem _ t_2158)) (fun _ h9 => h9) rfl rfl okV_l rfl rfl (by decide) (Or.inr (Or.inl (by decide))) (fx' := [(14, 6, a0_, .int 2), (14, 7, a0_, .int r_558), (14, 9, a0_, .int v77_3), (14, 10, a0_, .int y_14), (14, 5, a0_, .int x_7), (14, 8, a0_, .int j31_1)]) rfl dX14_scan_183 (fun f H locs hM_663 g => ?_)
                            refine lv_aload_n hx hb dX14_scan_186 rfl (lv_at hl 3 rfl) ?_
                            refine lv_iload_n hx hb dX14_scan_187 rfl (lv_at hl 0 rfl) ?_
                            refine lv_iload_n hx hb dX14_scan_188 rfl (lv_at hl 2 rfl) ?_
                            refine lv_bipush (v := 6) hx hb dX14_scan_189 (by decide) ?_
                            refine lv_iadd hx hb dX14_scan_191 ?_
                            refine lv_topi (fun y_664 ey_664 => ?_)
                            obtain rfl : y_655 = y_664 := ey_655.trans ey_664.symm
                            refine lv_icmp_le (tgt := 215) hx hb dX14_scan_192 (by decide) (fun c_665 => ?_) (fun c_665 => ?_)
                            · have fc_665 := le_f c_665
                              refine lv_lconst (v := 0) hx hb dX14_scan_215 (by decide) ?_
                              refine g_put (C := RX14) (T := TX14) (N := 67) hx hb hts (mc_ inX14) tyX14 tyX14_ok nmX14 hown hK g ma0_ ka0_ (by decide) rfl 13 (by decide) (hts _ (List.mem_cons_of_mem _ t_2159)) (fun _ h9 => h9) rfl rfl okV_l rfl rfl (by decide) (Or.inr (Or.inl (by decide))) (fx' := [(14, 12, a0_, .long r_662), (14, 6, a0_, .int 2), (14, 7, a0_, .int r_558), (14, 9, a0_, .int v77_3), (14, 10, a0_, .int y_14), (14, 5, a0_, .int x_7), (14, 8, a0_, .int j31_1)]) rfl dX14_scan_216 (fun f H locs hM_666 g => ?_)
                              refine lv_goto (tgt := 324) hx hb dX14_scan_219 (by decide) ?_
                              subst hQ
                              exact W.vret hx hb hr (fun t ht hW => ⟨⟨_, rfl, ⟨y_14, (bd_sub b_15 (by decide)), (g.fcts [5] rfl)⟩, q3_of g hK ht hW⟩, g.2.2.1.F ht⟩) g.2.2.1.2.2 dX14_scan_324
                            · have fc_665 := nle_f c_665
                              have b_667 : bd 6 3998 y_655 := ltL fc_665 b_658 b_660 (by decide)
                              have b_668 : bd 0 3992 j31_1 := add_inv ty_655 b_667 b_659 kb_6 (by decide)
                              have b_669 : bd 7 3999 v77_3 := ltR fc_665 b_658 b_660 (by decide)
                              refine lv_iload_n hx hb dX14_scan_195 rfl (lv_at hl 0 rfl) ?_
                              refine lv_iload_n hx hb dX14_scan_196 rfl (lv_at hl 2 rfl) ?_
                              refine lv_bipush (v := 12) hx hb dX14_scan_197 (by decide) ?_
                              have kb_12 : bd 12 12 (12 : Int32) := ⟨by decide, by decide⟩
                              refine lv_iadd hx hb dX14_scan_199 ?_
                              refine lv_topi (fun y_670 ey_670 => ?_)
                              have ty_670 := add_bd ey_670 b_668 kb_12 (by decide)
                              have b_671 : bd 12 4004 y_670 := add_rg ty_670 b_668 kb_12 (by decide)
                              refine lv_icmp_gt (tgt := 215) hx hb dX14_scan_200 (by decide) (fun c_672 => ?_) (fun c_672 => ?_)
                              · have fc_672 := lt_f c_672
                                have b_673 : bd 12 3998 y_670 := ltL fc_672 b_671 b_669 (by decide)
                                have b_674 : bd 0 3986 j31_1 := add_inv ty_670 b_673 b_668 kb_12 (by decide)
                                have b_675 : bd 13 3999 v77_3 := ltR fc_672 b_671 b_669 (by decide)
                                refine lv_lconst (v := 0) hx hb dX14_scan_215 (by decide) ?_
                                refine g_put (C := RX14) (T := TX14) (N := 67) hx hb hts (mc_ inX14) tyX14 tyX14_ok nmX14 hown hK g ma0_ ka0_ (by decide) rfl 13 (by decide) (hts _ (List.mem_cons_of_mem _ t_2159)) (fun _ h9 => h9) rfl rfl okV_l rfl rfl (by decide) (Or.inr (Or.inl (by decide))) (fx' := [(14, 12, a0_, .long r_662), (14, 6, a0_, .int 2), (14, 7, a0_, .int r_558), (14, 9, a0_, .int v77_3), (14, 10, a0_, .int y_14), (14, 5, a0_, .int x_7), (14, 8, a0_, .int j31_1)]) rfl dX14_scan_216 (fun f H locs hM_676 g => ?_)
                                refine lv_goto (tgt := 324) hx hb dX14_scan_219 (by decide) ?_
                                subst hQ
                                exact W.vret hx hb hr (fun t ht hW => ⟨⟨_, rfl, ⟨y_14, (bd_sub b_15 (by decide)), (g.fcts [5] rfl)⟩, q3_of g hK ht hW⟩, g.2.2.1.F ht⟩) g.2.2.1.2.2 dX14_scan_324
                              · have fc_672 := nlt_f c_672
                                refine lv_aload_n hx hb dX14_scan_203 rfl (lv_at hl 3 rfl) ?_
                                refine lv_iload_n hx hb dX14_scan_204 rfl (lv_at hl 2 rfl) ?_
                                refine lv_bipush (v := 6) hx hb dX14_scan_205 (by decide) ?_
                                refine lv_iadd hx hb dX14_scan_207 ?_
                                refine lv_topi (fun y_677 ey_677 => ?_)
                                obtain rfl : y_655 = y_677 := ey_655.trans ey_677.symm
                                refine lv_iload_n hx hb dX14_scan_208 rfl (lv_at hl 0 rfl) ?_
                                refine g_calll (va_runV (As := [.int y_655, .int v77_3]) (rest := [.ref a0_]) ⟨hx, hb, hml, hown, hts⟩ (r_X14_letters l dC dI L kd tys f H.size g.2.2.2.1 a0_ ma0_ ka0_ y_655 (bd_sub b_667 (by decide)) v77_3 (bd_sub b_669 (by decide))) (cwV 2 hts (gV_ t_2381 t_2383 t_95 t_198 t_2384) rfl rfl rfl (by decide +kernel) ⟨(Nat.le_of_ble_eq_true rfl), (Nat.le_of_ble_eq_true rfl)⟩) (pre3V g hK ma0_ ka0_ (by decide) (q := (RX14, TX14, 67)) rfl) rfl rfl hl.1 rfl (lv_room (Nat.le_of_ble_eq_true rfl)) dX14_scan_209 ⟨(Nat.le_of_ble_eq_true rfl), (Nat.le_of_ble_eq_true rfl)⟩) g hK (by decide) (by decide) (fx' := [(14, 12, a0_, .long r_662), (14, 6, a0_, .int 2), (14, 7, a0_, .int r_558), (14, 9, a0_, .int v77_3), (14, 10, a0_, .int y_14), (14, 5, a0_, .int x_7), (14, 8, a0_, .int j31_1)]) rfl (fun r_678 fr_678 H locs hp hMr_678 g => ?_)
                                refine lv_goto (tgt := 216) hx hb dX14_scan_212 (by decide) ?_
                                refine g_put (C := RX14) (T := TX14) (N := 67) hx hb hts (mc_ inX14) tyX14 tyX14_ok nmX14 hown hK g ma0_ ka0_ (by decide) rfl 13 (by decide) (hts _ (List.mem_cons_of_mem _ t_2159)) (fun _ h9 => h9) rfl rfl okV_l rfl rfl (by decide) (Or.inr (Or.inl (by decide))) (fx' := [(14, 12, a0_, .long r_662), (14, 6, a0_, .int 2), (14, 7, a0_, .int r_558), (14, 9, a0_, .int v77_3), (14, 10, a0_, .int y_14), (14, 5, a0_, .int x_7), (14, 8, a0_, .int j31_1)]) rfl dX14_scan_216 (fun f H locs hM_679 g => ?_)
                                refine lv_goto (tgt := 324) hx hb dX14_scan_219 (by decide) ?_
                                subst hQ
                                exact W.vret hx hb hr (fun t ht hW => ⟨⟨_, rfl, ⟨y_14, (bd_sub b_15 (by decide)), (g.fcts [5] rfl)⟩, q3_of g hK ht hW⟩, g.2.2.1.F ht⟩) g.2.2.1.2.2 dX14_scan_324
                          · have fc_657 := nle_f c_657
                            refine lv_iload_n hx hb dX14_scan_172 rfl (lv_at hl 0 rfl) ?_
                            refine lv_goto (tgt := 180) hx hb dX14_scan_173 (by decide) ?_
                            refine g_calll (va_runV (As := [.int j31_1, .int v77_3]) (rest := [.ref a0_]) ⟨hx, hb, hml, hown, hts⟩ (r_X14_letters l dC dI L kd tys f H.size g.2.2.2.1 a0_ ma0_ ka0_ j31_1 (bd_sub b_12 (by decide)) v77_3 (bd_sub b_531 (by decide))) (cwV 2 hts (gV_ t_2381 t_2383 t_95 t_198 t_2384) rfl rfl rfl (by decide +kernel) ⟨(Nat.le_of_ble_eq_true rfl), (Nat.le_of_ble_eq_true rfl)⟩) (pre3V g hK ma0_ ka0_ (by decide) (q := (RX14, TX14, 67)) rfl) rfl rfl hl.1 rfl (lv_room (Nat.le_of_ble_eq_true rfl)) dX14_scan_180 ⟨(Nat.le_of_ble_eq_true rfl), (Nat.le_of_ble_eq_true rfl)⟩) g hK (by decide) (by decide) (fx' := [(14, 6, a0_, .int 2), (14, 7, a0_, .int r_558), (14, 9, a0_, .int v77_3), (14, 10, a0_, .int y_14), (14, 5, a0_, .int x_7), (14, 8, a0_, .int j31_1)]) rfl (fun r_680 fr_680 H locs hp hMr_680 g => ?_)
                            refine g_put (C := RX14) (T := TX14) (N := 67) hx hb hts (mc_ inX14) tyX14 tyX14_ok nmX14 hown hK g ma0_ ka0_ (by decide) rfl 12 (by decide) (hts _ (List.mem_cons_of_mem _ t_2158)) (fun _ h9 => h9) rfl rfl okV_l rfl rfl (by decide) (Or.inr (Or.inl (by decide))) (fx' := [(14, 6, a0_, .int 2), (14, 7, a0_, .int r_558), (14, 9, a0_, .int v77_3), (14, 10, a0_, .int y_14), (14, 5, a0_, .int x_7), (14, 8, a0_, .int j31_1)]) rfl dX14_scan_183 (fun f H locs hM_681 g => ?_)
                            refine lv_aload_n hx hb dX14_scan_186 rfl (lv_at hl 3 rfl) ?_
                            refine lv_iload_n hx hb dX14_scan_187 rfl (lv_at hl 0 rfl) ?_
                            refine lv_iload_n hx hb dX14_scan_188 rfl (lv_at hl 2 rfl) ?_
                            refine lv_bipush (v := 6) hx hb dX14_scan_189 (by decide) ?_
                            refine lv_iadd hx hb dX14_scan_191 ?_
                            refine lv_topi (fun y_682 ey_682 => ?_)
                            obtain rfl : y_655 = y_682 := ey_655.trans ey_682.symm
                            refine lv_icmp_le (tgt := 215) hx hb dX14_scan_192 (by decide) (fun c_683 => ?_) (fun c_683 => ?_)
                            · have fc_683 := le_f c_683
                              refine lv_lconst (v := 0) hx hb dX14_scan_215 (by decide) ?_
                              refine g_put (C := RX14) (T := TX14) (N := 67) hx hb hts (mc_ inX14) tyX14 tyX14_ok nmX14 hown hK g ma0_ ka0_ (by decide) rfl 13 (by decide) (hts _ (List.mem_cons_of_mem _ t_2159)) (fun _ h9 => h9) rfl rfl okV_l rfl rfl (by decide) (Or.inr (Or.inl (by decide))) (fx' := [(14, 12, a0_, .long r_680), (14, 6, a0_, .int 2), (14, 7, a0_, .int r_558), (14, 9, a0_, .int v77_3), (14, 10, a0_, .int y_14), (14, 5, a0_, .int x_7), (14, 8, a0_, .int j31_1)]) rfl dX14_scan_216 (fun f H locs hM_684 g => ?_)
                              refine lv_goto (tgt := 324) hx hb dX14_scan_219 (by decide) ?_
                              subst hQ
                              exact W.vret hx hb hr (fun t ht hW => ⟨⟨_, rfl, ⟨y_14, (bd_sub b_15 (by decide)), (g.fcts [5] rfl)⟩, q3_of g hK ht hW⟩, g.2.2.1.F ht⟩) g.2.2.1.2.2 dX14_scan_324
                            · have fc_683 := nle_f c_683
                              have b_685 : bd 6 3998 y_655 := ltL fc_683 b_656 b_531 (by decide)
                              have b_686 : bd 0 3992 j31_1 := add_inv ty_655 b_685 b_12 kb_6 (by decide)
                              have b_687 : bd 7 3999 v77_3 := ltR fc_683 b_656 b_531 (by decide)
                              refine lv_iload_n hx hb dX14_scan_195 rfl (lv_at hl 0 rfl) ?_
                              refine lv_iload_n hx hb dX14_scan_196 rfl (lv_at hl 2 rfl) ?_
                              refine lv_bipush (v := 12) hx hb dX14_scan_197 (by decide) ?_
                              have kb_12 : bd 12 12 (12 : Int32) := ⟨by decide, by decide⟩
                              refine lv_iadd hx hb dX14_scan_199 ?_
                              refine lv_topi (fun y_688 ey_688 => ?_)
                              have ty_688 := add_bd ey_688 b_686 kb_12 (by decide)
                              have b_689 : bd 12 4004 y_688 := add_rg ty_688 b_686 kb_12 (by decide)
                              refine lv_icmp_gt (tgt := 215) hx hb dX14_scan_200 (by decide) (fun c_690 => ?_) (fun c_690 => ?_)
                              · have fc_690 := lt_f c_690
                                have b_691 : bd 12 3998 y_688 := ltL fc_690 b_689 b_687 (by decide)
                                have b_692 : bd 0 3986 j31_1 := add_inv ty_688 b_691 b_686 kb_12 (by decide)
                                have b_693 : bd 13 3999 v77_3 := ltR fc_690 b_689 b_687 (by decide)
                                refine lv_lconst (v := 0) hx hb dX14_scan_215 (by decide) ?_
                                refine g_put (C := RX14) (T := TX14) (N := 67) hx hb hts (mc_ inX14) tyX14 tyX14_ok nmX14 hown hK g ma0_ ka0_ (by decide) rfl 13 (by decide) (hts _ (List.mem_cons_of_mem _ t_2159)) (fun _ h9 => h9) rfl rfl okV_l rfl rfl (by decide) (Or.inr (Or.inl (by decide))) (fx' := [(14, 12, a0_, .long r_680), (14, 6, a0_, .int 2), (14, 7, a0_, .int r_558), (14, 9, a0_, .int v77_3), (14, 10, a0_, .int y_14), (14, 5, a0_, .int x_7), (14, 8, a0_, .int j31_1)]) rfl dX14_scan_216 (fun f H locs hM_694 g => ?_)
                                refine lv_goto (tgt := 324) hx hb dX14_scan_219 (by decide) ?_
                                subst hQ
                                exact W.vret hx hb hr (fun t ht hW => ⟨⟨_, rfl, ⟨y_14, (bd_sub b_15 (by decide)), (g.fcts [5] rfl)⟩, q3_of g hK ht hW⟩, g.2.2.1.F ht⟩) g.2.2.1.2.2 dX14_scan_324
                              · have fc_690 := nlt_f c_690
                                refine lv_aload_n hx hb dX14_scan_203 rfl (lv_at hl 3 rfl) ?_
                                refine lv_iload_n hx hb dX14_scan_204 rfl (lv_at hl 2 rfl) ?_
                                refine lv_bipush (v := 6) hx hb dX14_scan_205 (by decide) ?_
                                refine lv_iadd hx hb dX14_scan_207 ?_
                                refine lv_topi (fun y_695 ey_695 => ?_)
                                obtain rfl : y_655 = y_695 := ey_655.trans ey_695.symm
                                refine lv_iload_n hx hb dX14_scan_208 rfl (lv_at hl 0 rfl) ?_
                                refine g_calll (va_runV (As := [.int y_655, .int v77_3]) (rest := [.ref a0_]) ⟨hx, hb, hml, hown, hts⟩ (r_X14_letters l dC dI L kd tys f H.size g.2.2.2.1 a0_ ma0_ ka0_ y_655 (bd_sub b_685 (by decide)) v77_3 (bd_sub b_687 (by decide))) (cwV 2 hts (gV_ t_2381 t_2383 t_95 t_198 t_2384) rfl rfl rfl (by decide +kernel) ⟨(Nat.le_of_ble_eq_true rfl), (Nat.le_of_ble_eq_true rfl)⟩) (pre3V g hK ma0_ ka0_ (by decide) (q := (RX14, TX14, 67)) rfl) rfl rfl hl.1 rfl (lv_room (Nat.le_of_ble_eq_true rfl)) dX14_scan_209 ⟨(Nat.le_of_ble_eq_true rfl), (Nat.le_of_ble_eq_true rfl)⟩) g hK (by decide) (by decide) (fx' := [(14, 12, a0_, .long r_680), (14, 6, a0_, .int 2), (14, 7, a0_, .int r_558), (14, 9, a0_, .int v77_3), (14, 10, a0_, .int y_14), (14, 5, a0_, .int x_7), (14, 8, a0_, .int j31_1)]) rfl (fun r_696 fr_696 H locs hp hMr_696 g => ?_)
                                refine lv_goto (tgt := 216) hx hb dX14_scan_212 (by decide) ?_
                                refine g_put (C := RX14) (T := TX14) (N := 67) hx hb hts (mc_ inX14) tyX14 tyX14_ok nmX14 hown hK g ma0_ ka0_ (by decide) rfl 13 (by decide) (hts _ (List.mem_cons_of_mem _ t_2159)) (fun _ h9 => h9) rfl rfl okV_l rfl rfl (by decide) (Or.inr (Or.inl (by decide))) (fx' := [(14, 12, a0_, .long r_680), (14, 6, a0_, .int 2), (14, 7, a0_, .int r_558), (14, 9, a0_, .int v77_3), (14, 10, a0_, .int y_14), (14, 5, a0_, .int x_7), (14, 8, a0_, .int j31_1)]) rfl dX14_scan_216 (fun f H locs hM_697 g => ?_)
                                refine lv_goto (tgt := 324) hx hb dX14_scan_219 (by decide) ?_
                                subst hQ
                                exact W.vret hx hb hr (fun t ht hW => ⟨⟨_, rfl, ⟨y_14, (bd_sub b_15 (by decide)), (g.fcts [5] rfl)⟩, q3_of g hK ht hW⟩, g.2.2.1.F ht⟩) g.2.2.1.2.2 dX14_scan_324
                      · have g := g.more hF_554
                        have e_698 := fx_same g 2 0 rfl rfl
                        have g := g.sub (fx' := [(14, 10, a0_, .int y_14), (14, 5, a0_, .int x_7), (14, 8, a0_, .int j31_1), (14, 9, a0_, .int g31_14_9_a0_)]) [1, 2, 3, 4] rfl
                        refine lv_bipush (v := 95) hx hb dX14_scan_104 (by decide) ?_
                        have kb_95 : bd 95 95 (95 : Int32) := ⟨by decide, by decide⟩
                        refine lv_icmp_ne (tgt := 115) hx hb dX14_scan_106 (by decide) (fun c_699 => ?_) (fun c_699 => ?_)
                        · have fc_699 := neq_f c_699
                          have join_700 : ∀ (g161_14_6_a0_ : Int32) (g161_14_7_a0_ : Int32) (f : Nat → va_E) (H : Heap) (locs : List Loc) (ls : Array Slot), bd 0 2 g161_14_6_a0_ → G3 (dC, dI) L kd tys s f0 [(14, 6), (14, 7), (14, 8), (14, 9), (14, 10), (14, 11), (14, 12), (14, 13)] [] f H locs [(14, 6, a0_, .int g161_14_6_a0_), (14, 7, a0_, .int g161_14_7_a0_), (14, 9, a0_, .int v77_3), (14, 10, a0_, .int y_14), (14, 5, a0_, .int x_7), (14, 8, a0_, .int j31_1)] → lv_has ls 4 [(3, .int v77_3), (2, .int r_3), (1, .int j31_1), (0, .ref a0_)] → W p l e ({ frames := 5, cells := 0, slots := 0, locals := 112 } : Room) s m [.ref a0_].toArray below meth c H locs 0 0 Q (F0 m 161 ls []) := by
                            intro g161_14_6_a0_ g161_14_7_a0_ f H locs ls bg161_14_6_a0_  g  hl
                            have join_701 : ∀ (g186_14_12_a0_ : Int64) (f : Nat → va_E) (H : Heap) (locs : List Loc) (ls : Array Slot), G3 (dC, dI) L kd tys s f0 [(14, 6), (14, 7), (14, 8), (14, 9), (14, 10), (14, 11), (14, 12), (14, 13)] [] f H locs [(14, 12, a0_, .long g186_14_12_a0_), (14, 6, a0_, .int g161_14_6_a0_), (14, 7, a0_, .int g161_14_7_a0_), (14, 9, a0_, .int v77_3), (14, 10, a0_, .int y_14), (14, 5, a0_, .int x_7), (14, 8, a0_, .int j31_1)] → lv_has ls 4 [(3, .int v77_3), (2, .int r_3), (1, .int j31_1), (0, .ref a0_)] → W p l e ({ frames := 5, cells := 0, slots := 0, locals := 112 } : Room) s m [.ref a0_].toArray below meth c H locs 0 0 Q (F0 m 186 ls []) := by
                              intro g186_14_12_a0_ f H locs ls  g  hl
                              refine lv_aload_n hx hb dX14_scan_186 rfl (lv_at hl 3 rfl) ?_
                              refine lv_iload_n hx hb dX14_scan_187 rfl (lv_at hl 0 rfl) ?_
                              refine lv_iload_n hx hb dX14_scan_188 rfl (lv_at hl 2 rfl) ?_
                              refine lv_bipush (v := 6) hx hb dX14_scan_189 (by decide) ?_
                              have kb_6 : bd 6 6 (6 : Int32) := ⟨by decide, by decide⟩
                              refine lv_iadd hx hb dX14_scan_191 ?_
                              refine lv_topi (fun y_702 ey_702 => ?_)
                              have ty_702 := add_bd ey_702 b_12 kb_6 (by decide)
                              have b_703 : bd 6 4005 y_702 := add_rg ty_702 b_12 kb_6 (by decide)
                              refine lv_icmp_le (tgt := 215) hx hb dX14_scan_192 (by decide) (fun c_704 => ?_) (fun c_704 => ?_)
                              · have fc_704 := le_f c_704
                                refine lv_lconst (v := 0) hx hb dX14_scan_215 (by decide) ?_
                                refine g_put (C := RX14) (T := TX14) (N := 67) hx hb hts (mc_ inX14) tyX14 tyX14_ok nmX14 hown hK g ma0_ ka0_ (by decide) rfl 13 (by decide) (hts _ (List.mem_cons_of_mem _ t_2159)) (fun _ h9 => h9) rfl rfl okV_l rfl rfl (by decide) (Or.inr (Or.inl (by decide))) (fx' := [(14, 12, a0_, .long g186_14_12_a0_), (14, 6, a0_, .int g161_14_6_a0_), (14, 7, a0_, .int g161_14_7_a0_), (14, 9, a0_, .int v77_3), (14, 10, a0_, .int y_14), (14, 5, a0_, .int x_7), (14, 8, a0_, .int j31_1)]) rfl dX14_scan_216 (fun f H locs hM_705 g => ?_)
                                refine lv_goto (tgt := 324) hx hb dX14_scan_219 (by decide) ?_
                                subst hQ
                                exact W.vret hx hb hr (fun t ht hW => ⟨⟨_, rfl, ⟨y_14, (bd_sub b_15 (by decide)), (g.fcts [5] rfl)⟩, q3_of g hK ht hW⟩, g.2.2.1.F ht⟩) g.2.2.1.2.2 dX14_scan_324
                              · have fc_704 := nle_f c_704
                                have b_706 : bd 6 3998 y_702 := ltL fc_704 b_703 b_531 (by decide)
                                have b_707 : bd 0 3992 j31_1 := add_inv ty_702 b_706 b_12 kb_6 (by decide)
                                have b_708 : bd 7 3999 v77_3 := ltR fc_704 b_703 b_531 (by decide)
                                refine lv_iload_n hx hb dX14_scan_195 rfl (lv_at hl 0 rfl) ?_
                                refine lv_iload_n hx hb dX14_scan_196 rfl (lv_at hl 2 rfl) ?_
                                refine lv_bipush (v := 12) hx hb dX14_scan_197 (by decide) ?_
                                have kb_12 : bd 12 12 (12 : Int32) := ⟨by decide, by decide⟩
                                refine lv_iadd hx hb dX14_scan_199 ?_
                                refine lv_topi (fun y_709 ey_709 => ?_)
                                have ty_709 := add_bd ey_709 b_707 kb_12 (by decide)
                                have b_710 : bd 12 4004 y_709 := add_rg ty_709 b_707 kb_12 (by decide)
                                refine lv_icmp_gt (tgt := 215) hx hb dX14_scan_200 (by decide) (fun c_711 => ?_) (fun c_711 => ?_)
                                · have fc_711 := lt_f c_711
                                  have b_712 : bd 12 3998 y_709 := ltL fc_711 b_710 b_708 (by decide)
                                  have b_713 : bd 0 3986 j31_1 := add_inv ty_709 b_712 b_707 kb_12 (by decide)
                                  have b_714 : bd 13 3999 v77_3 := ltR fc_711 b_710 b_708 (by decide)
                                  refine lv_lconst (v := 0) hx hb dX14_scan_215 (by decide) ?_
                                  refine g_put (C := RX14) (T := TX14) (N := 67) hx hb hts (mc_ inX14) tyX14 tyX14_ok nmX14 hown hK g ma0_ ka0_ (by decide) rfl 13 (by decide) (hts _ (List.mem_cons_of_mem _ t_2159)) (fun _ h9 => h9) rfl rfl okV_l rfl rfl (by decide) (Or.inr (Or.inl (by decide))) (fx' := [(14, 12, a0_, .long g186_14_12_a0_), (14, 6, a0_, .int g161_14_6_a0_), (14, 7, a0_, .int g161_14_7_a0_), (14, 9, a0_, .int v77_3), (14, 10, a0_, .int y_14), (14, 5, a0_, .int x_7), (14, 8, a0_, .int j31_1)]) rfl dX14_scan_216 (fun f H locs hM_715 g => ?_)
                                  refine lv_goto (tgt := 324) hx hb dX14_scan_219 (by decide) ?_
                                  subst hQ
                                  exact W.vret hx hb hr (fun t ht hW => ⟨⟨_, rfl, ⟨y_14, (bd_sub b_15 (by decide)), (g.fcts [5] rfl)⟩, q3_of g hK ht hW⟩, g.2.2.1.F ht⟩) g.2.2.1.2.2 dX14_scan_324
                                · have fc_711 := nlt_f c_711
                                  refine lv_aload_n hx hb dX14_scan_203 rfl (lv_at hl 3 rfl) ?_
                                  refine lv_iload_n hx hb dX14_scan_204 rfl (lv_at hl 2 rfl) ?_
                                  refine lv_bipush (v := 6) hx hb dX14_scan_205 (by decide) ?_
                                  refine lv_iadd hx hb dX14_scan_207 ?_
                                  refine lv_topi (fun y_716 ey_716 => ?_)
                                  obtain rfl : y_702 = y_716 := ey_702.trans ey_716.symm
                                  refine lv_iload_n hx hb dX14_scan_208 rfl (lv_at hl 0 rfl) ?_
                                  refine g_calll (va_runV (As := [.int y_702, .int v77_3]) (rest := [.ref a0_]) ⟨hx, hb, hml, hown, hts⟩ (r_X14_letters l dC dI L kd tys f H.size g.2.2.2.1 a0_ ma0_ ka0_ y_702 (bd_sub b_706 (by decide)) v77_3 (bd_sub b_708 (by decide))) (cwV 2 hts (gV_ t_2381 t_2383 t_95 t_198 t_2384) rfl rfl rfl (by decide +kernel) ⟨(Nat.le_of_ble_eq_true rfl), (Nat.le_of_ble_eq_true rfl)⟩) (pre3V g hK ma0_ ka0_ (by decide) (q := (RX14, TX14, 67)) rfl) rfl rfl hl.1 rfl (lv_room (Nat.le_of_ble_eq_true rfl)) dX14_scan_209 ⟨(Nat.le_of_ble_eq_true rfl), (Nat.le_of_ble_eq_true rfl)⟩) g hK (by decide) (by decide) (fx' := [(14, 12, a0_, .long g186_14_12_a0_), (14, 6, a0_, .int g161_14_6_a0_), (14, 7, a0_, .int g161_14_7_a0_), (14, 9, a0_, .int v77_3), (14, 10, a0_, .int y_14), (14, 5, a0_, .int x_7), (14, 8, a0_, .int j31_1)]) rfl (fun r_717 fr_717 H locs hp hMr_717 g => ?_)
                                  refine lv_goto (tgt := 216) hx hb dX14_scan_212 (by decide) ?_
                                  refine g_put (C := RX14) (T := TX14) (N := 67) hx hb hts (mc_ inX14) tyX14 tyX14_ok nmX14 hown hK g ma0_ ka0_ (by decide) rfl 13 (by decide) (hts _ (List.mem_cons_of_mem _ t_2159)) (fun _ h9 => h9) rfl rfl okV_l rfl rfl (by decide) (Or.inr (Or.inl (by decide))) (fx' := [(14, 12, a0_, .long g186_14_12_a0_), (14, 6, a0_, .int g161_14_6_a0_), (14, 7, a0_, .int g161_14_7_a0_), (14, 9, a0_, .int v77_3), (14, 10, a0_, .int y_14), (14, 5, a0_, .int x_7), (14, 8, a0_, .int j31_1)]) rfl dX14_scan_216 (fun f H locs hM_718 g => ?_)
                                  refine lv_goto (tgt := 324) hx hb dX14_scan_219 (by decide) ?_
                                  subst hQ
                                  exact W.vret hx hb hr (fun t ht hW => ⟨⟨_, rfl, ⟨y_14, (bd_sub b_15 (by decide)), (g.fcts [5] rfl)⟩, q3_of g hK ht hW⟩, g.2.2.1.F ht⟩) g.2.2.1.2.2 dX14_scan_324
                            refine lv_aload_n hx hb dX14_scan_161 rfl (lv_at hl 3 rfl) ?_
                            refine lv_aload_n hx hb dX14_scan_162 rfl (lv_at hl 3 rfl) ?_
                            refine lv_iload_n hx hb dX14_scan_163 rfl (lv_at hl 2 rfl) ?_
                            refine lv_iload_n hx hb dX14_scan_164 rfl (lv_at hl 0 rfl) ?_
                            refine lv_iload_n hx hb dX14_scan_165 rfl (lv_at hl 2 rfl) ?_
                            refine lv_bipush (v := 6) hx hb dX14_scan_166 (by decide) ?_
                            have kb_6 : bd 6 6 (6 : Int32) := ⟨by decide, by decide⟩
                            refine lv_iadd hx hb dX14_scan_168 ?_
                            refine lv_topi (fun y_719 ey_719 => ?_)
                            have ty_719 := add_bd ey_719 b_12 kb_6 (by decide)
                            have b_720 : bd 6 4005 y_719 := add_rg ty_719 b_12 kb_6 (by decide)
                            refine lv_icmp_ge (tgt := 176) hx hb dX14_scan_169 (by decide) (fun c_721 => ?_) (fun c_721 => ?_)
                            · have fc_721 := le_f c_721
                              have b_722 : bd 6 3999 y_719 := leL fc_721 b_720 b_531 (by decide)
                              have b_723 : bd 0 3993 j31_1 := add_inv ty_719 b_722 b_12 kb_6 (by decide)
                              have b_724 : bd 6 3999 v77_3 := leR fc_721 b_720 b_531 (by decide)
                              refine lv_iload_n hx hb dX14_scan_176 rfl (lv_at hl 2 rfl) ?_
                              refine lv_bipush (v := 6) hx hb dX14_scan_177 (by decide) ?_
                              refine lv_iadd hx hb dX14_scan_179 ?_
                              refine lv_topi (fun y_725 ey_725 => ?_)
                              obtain rfl : y_719 = y_725 := ey_719.trans ey_725.symm
                              refine g_calll (va_runV (As := [.int j31_1, .int y_719]) (rest := [.ref a0_]) ⟨hx, hb, hml, hown, hts⟩ (r_X14_letters l dC dI L kd tys f H.size g.2.2.2.1 a0_ ma0_ ka0_ j31_1 (bd_sub b_723 (by decide)) y_719 (bd_sub b_722 (by decide))) (cwV 2 hts (gV_ t_2381 t_2383 t_95 t_198 t_2384) rfl rfl rfl (by decide +kernel) ⟨(Nat.le_of_ble_eq_true rfl), (Nat.le_of_ble_eq_true rfl)⟩) (pre3V g hK ma0_ ka0_ (by decide) (q := (RX14, TX14, 67)) rfl) rfl rfl hl.1 rfl (lv_room (Nat.le_of_ble_eq_true rfl)) dX14_scan_180 ⟨(Nat.le_of_ble_eq_true rfl), (Nat.le_of_ble_eq_true rfl)⟩) g hK (by decide) (by decide) (fx' := [(14, 6, a0_, .int g161_14_6_a0_), (14, 7, a0_, .int g161_14_7_a0_), (14, 9, a0_, .int v77_3), (14, 10, a0_, .int y_14), (14, 5, a0_, .int x_7), (14, 8, a0_, .int j31_1)]) rfl (fun r_726 fr_726 H locs hp hMr_726 g => ?_)
                              refine g_put (C := RX14) (T := TX14) (N := 67) hx hb hts (mc_ inX14) tyX14 tyX14_ok nmX14 hown hK g ma0_ ka0_ (by decide) rfl 12 (by decide) (hts _ (List.mem_cons_of_mem _ t_2158)) (fun _ h9 => h9) rfl rfl okV_l rfl rfl (by decide) (Or.inr (Or.inl (by decide))) (fx' := [(14, 6, a0_, .int g161_14_6_a0_), (14, 7, a0_, .int g161_14_7_a0_), (14, 9, a0_, .int v77_3), (14, 10, a0_, .int y_14), (14, 5, a0_, .int x_7), (14, 8, a0_, .int j31_1)]) rfl dX14_scan_183 (fun f H locs hM_727 g => ?_)
                              have hl9 := lv_sub hl [0, 1, 2, 3] (by rfl : lv_pick [(3, .int v77_3), (2, .int r_3), (1, .int j31_1), (0, .ref a0_)] [0, 1, 2, 3] = [(3, .int v77_3), (2, .int r_3), (1, .int j31_1), (0, .ref a0_)])
                              have g9 := g.sub (fx' := [(14, 12, a0_, .long r_726), (14, 6, a0_, .int g161_14_6_a0_), (14, 7, a0_, .int g161_14_7_a0_), (14, 9, a0_, .int v77_3), (14, 10, a0_, .int y_14), (14, 5, a0_, .int x_7), (14, 8, a0_, .int j31_1)]) [0, 1, 2, 3, 4, 5, 6] rfl
                              exact join_701 r_726 _ _ _ _  g9  hl9
                            · have fc_721 := nle_f c_721
                              refine lv_iload_n hx hb dX14_scan_172 rfl (lv_at hl 0 rfl) ?_
                              refine lv_goto (tgt := 180) hx hb dX14_scan_173 (by decide) ?_
                              refine g_calll (va_runV (As := [.int j31_1, .int v77_3]) (rest := [.ref a0_]) ⟨hx, hb, hml, hown, hts⟩ (r_X14_letters l dC dI L kd tys f H.size g.2.2.2.1 a0_ ma0_ ka0_ j31_1 (bd_sub b_12 (by decide)) v77_3 (bd_sub b_531 (by decide))) (cwV 2 hts (gV_ t_2381 t_2383 t_95 t_198 t_2384) rfl rfl rfl (by decide +kernel) ⟨(Nat.le_of_ble_eq_true rfl), (Nat.le_of_ble_eq_true rfl)⟩) (pre3V g hK ma0_ ka0_ (by decide) (q := (RX14, TX14, 67)) rfl) rfl rfl hl.1 rfl (lv_room (Nat.le_of_ble_eq_true rfl)) dX14_scan_180 ⟨(Nat.le_of_ble_eq_true rfl), (Nat.le_of_ble_eq_true rfl)⟩) g hK (by decide) (by decide) (fx' := [(14, 6, a0_, .int g161_14_6_a0_), (14, 7, a0_, .int g161_14_7_a0_), (14, 9, a0_, .int v77_3), (14, 10, a0_, .int y_14), (14, 5, a0_, .int x_7), (14, 8, a0_, .int j31_1)]) rfl (fun r_728 fr_728 H locs hp hMr_728 g => ?_)
                              refine g_put (C := RX14) (T := TX14) (N := 67) hx hb hts (mc_ inX14) tyX14 tyX14_ok nmX14 hown hK g ma0_ ka0_ (by decide) rfl 12 (by decide) (hts _ (List.mem_cons_of_mem _ t_2158)) (fun _ h9 => h9) rfl rfl okV_l rfl rfl (by decide) (Or.inr (Or.inl (by decide))) (fx' := [(14, 6, a0_, .int g161_14_6_a0_), (14, 7, a0_, .int g161_14_7_a0_), (14, 9, a0_, .int v77_3), (14, 10, a0_, .int y_14), (14, 5, a0_, .int x_7), (14, 8, a0_, .int j31_1)]) rfl dX14_scan_183 (fun f H locs hM_729 g => ?_)
                              have hl9 := lv_sub hl [0, 1, 2, 3] (by rfl : lv_pick [(3, .int v77_3), (2, .int r_3), (1, .int j31_1), (0, .ref a0_)] [0, 1, 2, 3] = [(3, .int v77_3), (2, .int r_3), (1, .int j31_1), (0, .ref a0_)])
                              have g9 := g.sub (fx' := [(14, 12, a0_, .long r_728), (14, 6, a0_, .int g161_14_6_a0_), (14, 7, a0_, .int g161_14_7_a0_), (14, 9, a0_, .int v77_3), (14, 10, a0_, .int y_14), (14, 5, a0_, .int x_7), (14, 8, a0_, .int j31_1)]) [0, 1, 2, 3, 4, 5, 6] rfl
                              exact join_701 r_728 _ _ _ _  g9  hl9
                          refine lv_aload_n hx hb dX14_scan_115 rfl (lv_at hl 3 rfl) ?_
                          refine lv_iload_n hx hb dX14_scan_116 rfl (lv_at hl 0 rfl) ?_
                          refine g_put (C := RX14) (T := TX14) (N := 67) hx hb hts (mc_ inX14) tyX14 tyX14_ok nmX14 hown hK g ma0_ ka0_ (by decide) rfl 9 (by decide) (hts _ (List.mem_cons_of_mem _ t_2155)) (fun _ h9 => h9) rfl rfl (okV_i (bd_sub b_531 (by decide))) rfl rfl (by decide) (Or.inr (Or.inl (by decide))) (fx' := [(14, 10, a0_, .int y_14), (14, 5, a0_, .int x_7), (14, 8, a0_, .int j31_1)]) rfl dX14_scan_117 (fun f H locs hM_730 g => ?_)
                          refine lv_aload_n hx hb dX14_scan_120 rfl (lv_at hl 3 rfl) ?_
                          refine lv_aload_n hx hb dX14_scan_121 rfl (lv_at hl 3 rfl) ?_
                          refine lv_iload_n hx hb dX14_scan_122 rfl (lv_at hl 2 rfl) ?_
                          refine lv_iload_n hx hb dX14_scan_123 rfl (lv_at hl 0 rfl) ?_
                          refine lv_iload_n hx hb dX14_scan_124 rfl (lv_at hl 2 rfl) ?_
                          refine lv_isub hx hb dX14_scan_125 ?_
                          refine lv_topi (fun y_731 ey_731 => ?_)
                          have ty_731 := sub_bd ey_731 b_531 b_12 (by decide)
                          have b_732 : bd (-3999) 3999 y_731 := sub_rg ty_731 b_531 b_12 (by decide)
                          refine g_calli (va_runV (As := [.int j31_1, .int y_731]) (rest := [.ref a0_]) ⟨hx, hb, hml, hown, hts⟩ (r_X14_keyAt l dC dI L kd tys f H.size g.2.2.2.1 adK adV a0_ ma0_ ka0_ j31_1 b_12 y_731 (bd_sub b_732 (by decide))) (cwV 2 hts (gV_ t_2374 t_2376 t_94 t_198 t_2377) rfl rfl rfl (by decide +kernel) ⟨(Nat.le_of_ble_eq_true rfl), (Nat.le_of_ble_eq_true rfl)⟩) (pre3VA g hK hAm ma0_ ka0_ (by decide) (q := (RX14, TX14, 67)) rfl) rfl rfl hl.1 rfl (lv_room (Nat.le_of_ble_eq_true rfl)) dX14_scan_126 ⟨(Nat.le_of_ble_eq_true rfl), (Nat.le_of_ble_eq_true rfl)⟩) g hK (by decide) (by decide) (fx' := [(14, 9, a0_, .int v77_3), (14, 10, a0_, .int y_14), (14, 5, a0_, .int x_7), (14, 8, a0_, .int j31_1)]) rfl (fun r_733 fr_733 H locs hp hMr_733 g => ?_)
                          refine g_put (C := RX14) (T := TX14) (N := 67) hx hb hts (mc_ inX14) tyX14 tyX14_ok nmX14 hown hK g ma0_ ka0_ (by decide) rfl 7 (by decide) (hts _ (List.mem_cons_of_mem _ t_2153)) (fun _ h9 => h9) rfl rfl (okV_i (bdT r_733)) rfl rfl (by decide) (Or.inr (Or.inl (by decide))) (fx' := [(14, 9, a0_, .int v77_3), (14, 10, a0_, .int y_14), (14, 5, a0_, .int x_7), (14, 8, a0_, .int j31_1)]) rfl dX14_scan_129 (fun f H locs hM_734 g => ?_)
                          refine lv_aload_n hx hb dX14_scan_132 rfl (lv_at hl 3 rfl) ?_
                          refine lv_aload_n hx hb dX14_scan_133 rfl (lv_at hl 3 rfl) ?_
                          refine g_getk (C := RX14) (T := TX14) (N := 67) hx hb hts (mc_ inX14) hown hK g rfl 7 (by decide) rfl (hts _ (List.mem_cons_of_mem _ t_2153)) (fun _ h9 => h9) 0 rfl dX14_scan_134 ?_
                          refine lv_iconst (v := (-1)) hx hb dX14_scan_137 (by decide) ?_
                          refine lv_icmp_eq (tgt := 145) hx hb dX14_scan_138 (by decide) (fun c_735 => ?_) (fun c_735 => ?_)
                          · have fc_735 := eq_f c_735
                            have b_736 : bd (-1) (-1) r_733 := eqX fc_735 (bdT r_733) kb_m1 (by decide)
                            refine lv_iload_n hx hb dX14_scan_145 rfl (lv_at hl 0 rfl) ?_
                            refine lv_iload_n hx hb dX14_scan_146 rfl (lv_at hl 2 rfl) ?_
                            refine lv_isub hx hb dX14_scan_147 ?_
                            refine lv_topi (fun y_737 ey_737 => ?_)
                            obtain rfl : y_731 = y_737 := ey_731.trans ey_737.symm
                            refine lv_bipush (v := 12) hx hb dX14_scan_148 (by decide) ?_
                            have kb_12 : bd 12 12 (12 : Int32) := ⟨by decide, by decide⟩
                            refine lv_icmp_le (tgt := 157) hx hb dX14_scan_150 (by decide) (fun c_738 => ?_) (fun c_738 => ?_)
                            · have fc_738 := le_f c_738
                              have b_739 : bd (-3999) 12 y_731 := leL fc_738 b_732 kb_12 (by decide)
                              refine lv_iconst (v := 1) hx hb dX14_scan_157 (by decide) ?_
                              refine g_put (C := RX14) (T := TX14) (N := 67) hx hb hts (mc_ inX14) tyX14 tyX14_ok nmX14 hown hK g ma0_ ka0_ (by decide) rfl 6 (by decide) (hts _ (List.mem_cons_of_mem _ t_2152)) (fun _ h9 => h9) rfl rfl (okV_i (bd_sub kb_1 (by decide))) rfl rfl (by decide) (Or.inr (Or.inl (by decide))) (fx' := [(14, 7, a0_, .int r_733), (14, 9, a0_, .int v77_3), (14, 10, a0_, .int y_14), (14, 5, a0_, .int x_7), (14, 8, a0_, .int j31_1)]) rfl dX14_scan_158 (fun f H locs hM_740 g => ?_)
                              have hl9 := lv_sub hl [0, 1, 2, 3] (by rfl : lv_pick [(3, .int v77_3), (2, .int r_3), (1, .int j31_1), (0, .ref a0_)] [0, 1, 2, 3] = [(3, .int v77_3), (2, .int r_3), (1, .int j31_1), (0, .ref a0_)])
                              have g9 := g.sub (fx' := [(14, 6, a0_, .int 1), (14, 7, a0_, .int r_733), (14, 9, a0_, .int v77_3), (14, 10, a0_, .int y_14), (14, 5, a0_, .int x_7), (14, 8, a0_, .int j31_1)]) [0, 1, 2, 3, 4, 5] rfl
                              exact join_700 1 r_733 _ _ _ _ (bd_sub kb_1 (by decide)) g9  hl9
                            · have fc_738 := nle_f c_738
                              have b_741 : bd 13 3999 y_731 := ltR fc_738 kb_12 b_732 (by decide)
                              refine lv_iconst (v := 0) hx hb dX14_scan_153 (by decide) ?_
                              refine lv_goto (tgt := 158) hx hb dX14_scan_154 (by decide) ?_
                              have kb_0 : bd 0 0 (0 : Int32) := ⟨by decide, by decide⟩
                              refine g_put (C := RX14) (T := TX14) (N := 67) hx hb hts (mc_ inX14) tyX14 tyX14_ok nmX14 hown hK g ma0_ ka0_ (by decide) rfl 6 (by decide) (hts _ (List.mem_cons_of_mem _ t_2152)) (fun _ h9 => h9) rfl rfl (okV_i (bd_sub kb_0 (by decide))) rfl rfl (by decide) (Or.inr (Or.inl (by decide))) (fx' := [(14, 7, a0_, .int r_733), (14, 9, a0_, .int v77_3), (14, 10, a0_, .int y_14), (14, 5, a0_, .int x_7), (14, 8, a0_, .int j31_1)]) rfl dX14_scan_158 (fun f H locs hM_742 g => ?_)
                              have hl9 := lv_sub hl [0, 1, 2, 3] (by rfl : lv_pick [(3, .int v77_3), (2, .int r_3), (1, .int j31_1), (0, .ref a0_)] [0, 1, 2, 3] = [(3, .int v77_3), (2, .int r_3), (1, .int j31_1), (0, .ref a0_)])
                              have g9 := g.sub (fx' := [(14, 6, a0_, .int 0), (14, 7, a0_, .int r_733), (14, 9, a0_, .int v77_3), (14, 10, a0_, .int y_14), (14, 5, a0_, .int x_7), (14, 8, a0_, .int j31_1)]) [0, 1, 2, 3, 4, 5] rfl
                              exact join_700 0 r_733 _ _ _ _ (bd_sub kb_0 (by decide)) g9  hl9
                          · have fc_735 := neq_f c_735
                            refine lv_iconst (v := 2) hx hb dX14_scan_141 (by decide) ?_
                            refine lv_goto (tgt := 158) hx hb dX14_scan_142 (by decide) ?_
                            have kb_2 : bd 2 2 (2 : Int32) := ⟨by decide, by decide⟩
                            refine g_put (C := RX14) (T := TX14) (N := 67) hx hb hts (mc_ inX14) tyX14 tyX14_ok nmX14 hown hK g ma0_ ka0_ (by decide) rfl 6 (by decide) (hts _ (List.mem_cons_of_mem _ t_2152)) (fun _ h9 => h9) rfl rfl (okV_i (bd_sub kb_2 (by decide))) rfl rfl (by decide) (Or.inr (Or.inl (by decide))) (fx' := [(14, 7, a0_, .int r_733), (14, 9, a0_, .int v77_3), (14, 10, a0_, .int y_14), (14, 5, a0_, .int x_7), (14, 8, a0_, .int j31_1)]) rfl dX14_scan_158 (fun f H locs hM_743 g => ?_)
                            have hl9 := lv_sub hl [0, 1, 2, 3] (by rfl : lv_pick [(3, .int v77_3), (2, .int r_3), (1, .int j31_1), (0, .ref a0_)] [0, 1, 2, 3] = [(3, .int v77_3), (2, .int r_3), (1, .int j31_1), (0, .ref a0_)])
                            have g9 := g.sub (fx' := [(14, 6, a0_, .int 2), (14, 7, a0_, .int r_733), (14, 9, a0_, .int v77_3), (14, 10, a0_, .int y_14), (14, 5, a0_, .int x_7), (14, 8, a0_, .int j31_1)]) [0, 1, 2, 3, 4, 5] rfl
                            exact join_700 2 r_733 _ _ _ _ (bd_sub kb_2 (by decide)) g9  hl9
                        · have fc_699 := eq_f c_699
                          have b_744 : bd 95 95 r_548 := eqX fc_699 h_550 kb_95 (by decide)
                          obtain ⟨y_745, ey_745⟩ : ∃ z : Int32, z = v77_3 + 1 := ⟨_, rfl⟩
                          refine lv_iinc (v := y_745) (lv' := [(3, .int y_745), (2, .int r_3), (1, .int j31_1), (0, .ref a0_)]) hx hb dX14_scan_109 hl (k := 0) rfl (by rw [ey_745]; rfl) (by decide) rfl (fun ls hl => ?_)
                          have ty_745 := add_bd ey_745 b_531 kb_1 (by decide)
                          have b_746 : bd 1 4000 y_745 := add_rg ty_745 b_531 kb_1 (by decide)
                          refine lv_goto (tgt := 77) hx hb dX14_scan_112 (by decide) ?_
                          have hl9 := lv_sub hl [0, 1, 2, 3] (by rfl : lv_pick [(3, .int y_745), (2, .int r_3), (1, .int j31_1), (0, .ref a0_)] [0, 1, 2, 3] = [(3, .int y_745), (2, .int r_3), (1, .int j31_1), (0, .ref a0_)])
                          have g9 := g.sub (fx' := [(14, 10, a0_, .int y_14), (14, 5, a0_, .int x_7), (14, 8, a0_, .int j31_1), (14, 9, a0_, .int g31_14_9_a0_)]) [0, 1, 2, 3] rfl
                          exact ih77  y_745 (bd_sub b_746 (by decide)) (by have h9_0 := b_746; unfold bd at h9_0; have h9_1 := bv77_3; unfold bd at h9_1; have h9_2 := kb_1; unfold bd at h9_2; have h9_3 := kb_95; unfold bd at h9_3; have h9_4 := kb_m1; unfold bd at h9_4; omega) _ _ _ _ g9  hl9
                    · obtain rfl : r_544 = 1 := h_546
                      exact bd_no (eqX rfl h_547 kb_m1 (lo := 48) (hi := (-1)) (by decide)) (by decide)
                  · have g := g.more hF_543
                    have e_747 := fx_same g 2 0 rfl rfl
                    have g := g.sub (fx' := [(14, 10, a0_, .int y_14), (14, 5, a0_, .int x_7), (14, 8, a0_, .int j31_1), (14, 9, a0_, .int g31_14_9_a0_)]) [1, 2, 3, 4] rfl
                    refine g_calli (va_runS (As := [.int r_537]) (rest := []) ⟨hx, hb, hml, hown, hts⟩ (r_X14_isDigit l dC dI L kd tys fr_537 H.size g.2.2.2.1 r_537) (va_cwS 1 hts (gS_ t_2371 t_2372 t_198 t_2373) rfl rfl rfl (by decide +kernel) ⟨(Nat.le_of_ble_eq_true rfl), (Nat.le_of_ble_eq_true rfl)⟩) (pre3S g hK) rfl rfl hl.1 rfl (lv_room (Nat.le_of_ble_eq_true rfl)) dX14_scan_93 ⟨(Nat.le_of_ble_eq_true rfl), (Nat.le_of_ble_eq_true rfl)⟩) g hK (by decide) (by decide) (fx' := [(14, 10, a0_, .int y_14), (14, 5, a0_, .int x_7), (14, 8, a0_, .int j31_1), (14, 9, a0_, .int g31_14_9_a0_)]) rfl (fun r_748 fr_748 H locs hp hMr_748 g => ?_)
                    rcases hp with ⟨h_749, -⟩ | ⟨h_750, h_751, -⟩
                    · obtain rfl : r_748 = 0 := h_749
                      refine lv_if_ne (tgt := 109) hx hb dX14_scan_96 (by decide) (fun c_ => absurd c_ (by decide)) (fun c_ => ?_)
                      refine lv_aload_n hx hb dX14_scan_99 rfl (lv_at hl 3 rfl) ?_
                      refine lv_iload_n hx hb dX14_scan_100 rfl (lv_at hl 0 rfl) ?_
                      refine g_calli (va_runV (As := [.int v77_3]) (rest := []) ⟨hx, hb, hml, hown, hts⟩ (r_X14_see l dC dI L kd tys fr_748 H.size g.2.2.2.1 a0_ ma0_ ka0_ v77_3 (bd_sub b_531 (by decide))) (cwV 1 hts (gV_ t_2364 t_2366 t_93 t_198 t_2367) rfl rfl rfl (by decide +kernel) ⟨(Nat.le_of_ble_eq_true rfl), (Nat.le_of_ble_eq_true rfl)⟩) (pre3V g hK ma0_ ka0_ (by decide) (q := (RX14, TX14, 67)) rfl) rfl rfl hl.1 rfl (lv_room (Nat.le_of_ble_eq_true rfl)) dX14_scan_101 ⟨(Nat.le_of_ble_eq_true rfl), (Nat.le_of_ble_eq_true rfl)⟩) g hK (by decide) (by decide) (fx' := [(14, 10, a0_, .int y_14), (14, 5, a0_, .int x_7), (14, 8, a0_, .int j31_1), (14, 9, a0_, .int g31_14_9_a0_)]) rfl (fun r_752 fr_752 H locs hp hMr_752 g => ?_)
                      rcases hp with ⟨h_753, -⟩ | ⟨h_754, h_755, x_756, h_757, hF_758⟩
                      · obtain rfl : r_752 = (-1) := h_753
                        refine lv_bipush (v := 95) hx hb dX14_scan_104 (by decide) ?_
                        refine lv_icmp_ne (tgt := 115) hx hb dX14_scan_106 (by decide) (fun c_ => ?_) (fun c_ => absurd c_ (by decide))
                        refine lv_aload_n hx hb dX14_scan_115 rfl (lv_at hl 3 rfl) ?_
                        refine lv_iload_n hx hb dX14_scan_116 rfl (lv_at hl 0 rfl) ?_
                        refine g_put (C := RX14) (T := TX14) (N := 67) hx hb hts (mc_ inX14) tyX14 tyX14_ok nmX14 hown hK g ma0_ ka0_ (by decide) rfl 9 (by decide) (hts _ (List.mem_cons_of_mem _ t_2155)) (fun _ h9 => h9) rfl rfl (okV_i (bd_sub b_531 (by decide))) rfl rfl (by decide) (Or.inr (Or.inl (by decide))) (fx' := [(14, 10, a0_, .int y_14), (14, 5, a0_, .int x_7), (14, 8, a0_, .int j31_1)]) rfl dX14_scan_117 (fun f H locs hM_759 g => ?_)
                        refine lv_aload_n hx hb dX14_scan_120 rfl (lv_at hl 3 rfl) ?_
                        refine lv_aload_n hx hb dX14_scan_121 rfl (lv_at hl 3 rfl) ?_
                        refine lv_iload_n hx hb dX14_scan_122 rfl (lv_at hl 2 rfl) ?_
                        refine lv_iload_n hx hb dX14_scan_123 rfl (lv_at hl 0 rfl) ?_
                        refine lv_iload_n hx hb dX14_scan_124 rfl (lv_at hl 2 rfl) ?_
                        refine lv_isub hx hb dX14_scan_125 ?_
                        refine lv_topi (fun y_760 ey_760 => ?_)
                        have ty_760 := sub_bd ey_760 b_531 b_12 (by decide)
                        have b_761 : bd (-3999) 3999 y_760 := sub_rg ty_760 b_531 b_12 (by decide)
                        refine g_calli (va_runV (As := [.int j31_1, .int y_760]) (rest := [.ref a0_]) ⟨hx, hb, hml, hown, hts⟩ (r_X14_keyAt l dC dI L kd tys f H.size g.2.2.2.1 adK adV a0_ ma0_ ka0_ j31_1 b_12 y_760 (bd_sub b_761 (by decide))) (cwV 2 hts (gV_ t_2374 t_2376 t_94 t_198 t_2377) rfl rfl rfl (by decide +kernel) ⟨(Nat.le_of_ble_eq_true rfl), (Nat.le_of_ble_eq_true rfl)⟩) (pre3VA g hK hAm ma0_ ka0_ (by decide) (q := (RX14, TX14, 67)) rfl) rfl rfl hl.1 rfl (lv_room (Nat.le_of_ble_eq_true rfl)) dX14_scan_126 ⟨(Nat.le_of_ble_eq_true rfl), (Nat.le_of_ble_eq_true rfl)⟩) g hK (by decide) (by decide) (fx' := [(14, 9, a0_, .int v77_3), (14, 10, a0_, .int y_14), (14, 5, a0_, .int x_7), (14, 8, a0_, .int j31_1)]) rfl (fun r_762 fr_762 H locs hp hMr_762 g => ?_)
                        refine g_put (C := RX14) (T := TX14) (N := 67) hx hb hts (mc_ inX14) tyX14 tyX14_ok nmX14 hown hK g ma0_ ka0_ (by decide) rfl 7 (by decide) (hts _ (List.mem_cons_of_mem _ t_2153)) (fun _ h9 => h9) rfl rfl (okV_i (bdT r_762)) rfl rfl (by decide) (Or.inr (Or.inl (by decide))) (fx' := [(14, 9, a0_, .int v77_3), (14, 10, a0_, .int y_14), (14, 5, a0_, .int x_7), (14, 8, a0_, .int j31_1)]) rfl dX14_scan_129 (fun f H locs hM_763 g => ?_)
                        refine lv_aload_n hx hb dX14_scan_132 rfl (lv_at hl 3 rfl) ?_
                        refine lv_aload_n hx hb dX14_scan_133 rfl (lv_at hl 3 rfl) ?_
                        refine g_getk (C := RX14) (T := TX14) (N := 67) hx hb hts (mc_ inX14) hown hK g rfl 7 (by decide) rfl (hts _ (List.mem_cons_of_mem _ t_2153)) (fun _ h9 => h9) 0 rfl dX14_scan_134 ?_
                        refine lv_iconst (v := (-1)) hx hb dX14_scan_137 (by decide) ?_
                        refine lv_icmp_eq (tgt := 145) hx hb dX14_scan_138 (by decide) (fun c_764 => ?_) (fun c_764 => ?_)
                        · have fc_764 := eq_f c_764
                          have b_765 : bd (-1) (-1) r_762 := eqX fc_764 (bdT r_762) kb_m1 (by decide)
                          refine lv_iload_n hx hb dX14_scan_145 rfl (lv_at hl 0 rfl) ?_
                          refine lv_iload_n hx hb dX14_scan_146 rfl (lv_at hl 2 rfl) ?_
                          refine lv_isub hx hb dX14_scan_147 ?_
                          refine lv_topi (fun y_766 ey_766 => ?_)
                          obtain rfl : y_760 = y_766 := ey_760.trans ey_766.symm
                          refine lv_bipush (v := 12) hx hb dX14_scan_148 (by decide) ?_
                          have kb_12 : bd 12 12 (12 : Int32) := ⟨by decide, by decide⟩
                          refine lv_icmp_le (tgt := 157) hx hb dX14_scan_150 (by decide) (fun c_767 => ?_) (fun c_767 => ?_)
                          · have fc_767 := le_f c_767
                            have b_768 : bd (-3999) 12 y_760 := leL fc_767 b_761 kb_12 (by decide)
                            refine lv_iconst (v := 1) hx hb dX14_scan_157 (by decide) ?_
                            refine g_put (C := RX14) (T := TX14) (N := 67) hx hb hts (mc_ inX14) tyX14 tyX14_ok nmX14 hown hK g ma0_ ka0_ (by decide) rfl 6 (by decide) (hts _ (List.mem_cons_of_mem _ t_2152)) (fun _ h9 => h9) rfl rfl (okV_i (bd_sub kb_1 (by decide))) rfl rfl (by decide) (Or.inr (Or.inl (by decide))) (fx' := [(14, 7, a0_, .int r_762), (14, 9, a0_, .int v77_3), (14, 10, a0_, .int y_14), (14, 5, a0_, .int x_7), (14, 8, a0_, .int j31_1)]) rfl dX14_scan_158 (fun f H locs hM_769 g => ?_)
                            refine lv_aload_n hx hb dX14_scan_161 rfl (lv_at hl 3 rfl) ?_
                            refine lv_aload_n hx hb dX14_scan_162 rfl (lv_at hl 3 rfl) ?_
                            refine lv_iload_n hx hb dX14_scan_163 rfl (lv_at hl 2 rfl) ?_
                            refine lv_iload_n hx hb dX14_scan_164 rfl (lv_at hl 0 rfl) ?_
                            refine lv_iload_n hx hb dX14_scan_165 rfl (lv_at hl 2 rfl) ?_
                            refine lv_bipush (v := 6) hx hb dX14_scan_166 (by decide) ?_
                            have kb_6 : bd 6 6 (6 : Int32) := ⟨by decide, by decide⟩
                            refine lv_iadd hx hb dX14_scan_168 ?_
                            refine lv_topi (fun y_770 ey_770 => ?_)
                            have ty_770 := add_bd ey_770 b_12 kb_6 (by decide)
                            have b_771 : bd 6 4005 y_770 := add_rg ty_770 b_12 kb_6 (by decide)
                            refine lv_icmp_ge (tgt := 176) hx hb dX14_scan_169 (by decide) (fun c_772 => ?_) (fun c_772 => ?_)
                            · have fc_772 := le_f c_772
                              have b_773 : bd 6 3999 y_770 := leL fc_772 b_771 b_531 (by decide)
                              have b_774 : bd 0 3993 j31_1 := add_inv ty_770 b_773 b_12 kb_6 (by decide)
                              have b_775 : bd 6 3999 v77_3 := leR fc_772 b_771 b_531 (by decide)
                              refine lv_iload_n hx hb dX14_scan_176 rfl (lv_at hl 2 rfl) ?_
                              refine lv_bipush (v := 6) hx hb dX14_scan_177 (by decide) ?_
                              refine lv_iadd hx hb dX14_scan_179 ?_
                              refine lv_topi (fun y_776 ey_776 => ?_)
                              obtain rfl : y_770 = y_776 := ey_770.trans ey_776.symm
                              refine g_calll (va_runV (As := [.int j31_1, .int y_770]) (rest := [.ref a0_]) ⟨hx, hb, hml, hown, hts⟩ (r_X14_letters l dC dI L kd tys f H.size g.2.2.2.1 a0_ ma0_ ka0_ j31_1 (bd_sub b_774 (by decide)) y_770 (bd_sub b_773 (by decide))) (cwV 2 hts (gV_ t_2381 t_2383 t_95 t_198 t_2384) rfl rfl rfl (by decide +kernel) ⟨(Nat.le_of_ble_eq_true rfl), (Nat.le_of_ble_eq_true rfl)⟩) (pre3V g hK ma0_ ka0_ (by decide) (q := (RX14, TX14, 67)) rfl) rfl rfl hl.1 rfl (lv_room (Nat.le_of_ble_eq_true rfl)) dX14_scan_180 ⟨(Nat.le_of_ble_eq_true rfl), (Nat.le_of_ble_eq_true rfl)⟩) g hK (by decide) (by decide) (fx' := [(14, 6, a0_, .int 1), (14, 7, a0_, .int r_762), (14, 9, a0_, .int v77_3), (14, 10, a0_, .int y_14), (14, 5, a0_, .int x_7), (14, 8, a0_, .int j31_1)]) rfl (fun r_777 fr_777 H locs hp hMr_777 g => ?_)
                              refine g_put (C := RX14) (T := TX14) (N := 67) hx hb hts (mc_ inX14) tyX14 tyX14_ok nmX14 hown hK g ma0_ ka0_ (by decide) rfl 12 (by decide) (hts _ (List.mem_cons_of_mem _ t_2158)) (fun _ h9 => h9) rfl rfl okV_l rfl rfl (by decide) (Or.inr (Or.inl (by decide))) (fx' := [(14, 6, a0_, .int 1), (14, 7, a0_, .int r_762), (14, 9, a0_, .int v77_3), (14, 10, a0_, .int y_14), (14, 5, a0_, .int x_7), (14, 8, a0_, .int j31_1)]) rfl dX14_scan_183 (fun f H locs hM_778 g => ?_)
                              refine lv_aload_n hx hb dX14_scan_186 rfl (lv_at hl 3 rfl) ?_
                              refine lv_iload_n hx hb dX14_scan_187 rfl (lv_at hl 0 rfl) ?_
                              refine lv_iload_n hx hb dX14_scan_188 rfl (lv_at hl 2 rfl) ?_
                              refine lv_bipush (v := 6) hx hb dX14_scan_189 (by decide) ?_
                              refine lv_iadd hx hb dX14_scan_191 ?_
                              refine lv_topi (fun y_779 ey_779 => ?_)
                              obtain rfl : y_770 = y_779 := ey_770.trans ey_779.symm
                              refine lv_icmp_le (tgt := 215) hx hb dX14_scan_192 (by decide) (fun c_780 => ?_) (fun c_780 => ?_)
                              · have fc_780 := le_f c_780
                                refine lv_lconst (v := 0) hx hb dX14_scan_215 (by decide) ?_
                                refine g_put (C := RX14) (T := TX14) (N := 67) hx hb hts (mc_ inX14) tyX14 tyX14_ok nmX14 hown hK g ma0_ ka0_ (by decide) rfl 13 (by decide) (hts _ (List.mem_cons_of_mem _ t_2159)) (fun _ h9 => h9) rfl rfl okV_l rfl rfl (by decide) (Or.inr (Or.inl (by decide))) (fx' := [(14, 12, a0_, .long r_777), (14, 6, a0_, .int 1), (14, 7, a0_, .int r_762), (14, 9, a0_, .int v77_3), (14, 10, a0_, .int y_14), (14, 5, a0_, .int x_7), (14, 8, a0_, .int j31_1)]) rfl dX14_scan_216 (fun f H locs hM_781 g => ?_)
                                refine lv_goto (tgt := 324) hx hb dX14_scan_219 (by decide) ?_
                                subst hQ
                                exact W.vret hx hb hr (fun t ht hW => ⟨⟨_, rfl, ⟨y_14, (bd_sub b_15 (by decide)), (g.fcts [5] rfl)⟩, q3_of g hK ht hW⟩, g.2.2.1.F ht⟩) g.2.2.1.2.2 dX14_scan_324
                              · have fc_780 := nle_f c_780
                                have b_782 : bd 6 3998 y_770 := ltL fc_780 b_773 b_775 (by decide)
                                have b_783 : bd 0 3992 j31_1 := add_inv ty_770 b_782 b_774 kb_6 (by decide)
                                have b_784 : bd 7 3999 v77_3 := ltR fc_780 b_773 b_775 (by decide)
                                refine lv_iload_n hx hb dX14_scan_195 rfl (lv_at hl 0 rfl) ?_
                                refine lv_iload_n hx hb dX14_scan_196 rfl (lv_at hl 2 rfl) ?_
                                refine lv_bipush (v := 12) hx hb dX14_scan_197 (by decide) ?_
                                refine lv_iadd hx hb dX14_scan_199 ?_
                                refine lv_topi (fun y_785 ey_785 => ?_)
                                have ty_785 := add_bd ey_785 b_783 kb_12 (by decide)
                                have b_786 : bd 12 4004 y_785 := add_rg ty_785 b_783 kb_12 (by decide)
                                refine lv_icmp_gt (tgt := 215) hx hb dX14_scan_200 (by decide) (fun c_787 => ?_) (fun c_787 => ?_)
                                · have fc_787 := lt_f c_787
                                  have b_788 : bd 12 3998 y_785 := ltL fc_787 b_786 b_784 (by decide)
                                  have b_789 : bd 0 3986 j31_1 := add_inv ty_785 b_788 b_783 kb_12 (by decide)
                                  have b_790 : bd 13 3999 v77_3 := ltR fc_787 b_786 b_784 (by decide)
                                  refine lv_lconst (v := 0) hx hb dX14_scan_215 (by decide) ?_
                                  refine g_put (C := RX14) (T := TX14) (N := 67) hx hb hts (mc_ inX14) tyX14 tyX14_ok nmX14 hown hK g ma0_ ka0_ (by decide) rfl 13 (by decide) (hts _ (List.mem_cons_of_mem _ t_2159)) (fun _ h9 => h9) rfl rfl okV_l rfl rfl (by decide) (Or.inr (Or.inl (by decide))) (fx' := [(14, 12, a0_, .long r_777), (14, 6, a0_, .int 1), (14, 7, a0_, .int r_762), (14, 9, a0_, .int v77_3), (14, 10, a0_, .int y_14), (14, 5, a0_, .int x_7), (14, 8, a0_, .int j31_1)]) rfl dX14_scan_216 (fun f H locs hM_791 g => ?_)
                                  refine lv_goto (tgt := 324) hx hb dX14_scan_219 (by decide) ?_
                                  subst hQ
                                  exact W.vret hx hb hr (fun t ht hW => ⟨⟨_, rfl, ⟨y_14, (bd_sub b_15 (by decide)), (g.fcts [5] rfl)⟩, q3_of g hK ht hW⟩, g.2.2.1.F ht⟩) g.2.2.1.2.2 dX14_scan_324
                                · have fc_787 := nlt_f c_787
                                  refine lv_aload_n hx hb dX14_scan_203 rfl (lv_at hl 3 rfl) ?_
                                  refine lv_iload_n hx hb dX14_scan_204 rfl (lv_at hl 2 rfl) ?_
                                  refine lv_bipush (v := 6) hx hb dX14_scan_205 (by decide) ?_
                                  refine lv_iadd hx hb dX14_scan_207 ?_
                                  refine lv_topi (fun y_792 ey_792 => ?_)
                                  obtain rfl : y_770 = y_792 := ey_770.trans ey_792.symm
                                  refine lv_iload_n hx hb dX14_scan_208 rfl (lv_at hl 0 rfl) ?_
                                  refine g_calll (va_runV (As := [.int y_770, .int v77_3]) (rest := [.ref a0_]) ⟨hx, hb, hml, hown, hts⟩ (r_X14_letters l dC dI L kd tys f H.size g.2.2.2.1 a0_ ma0_ ka0_ y_770 (bd_sub b_782 (by decide)) v77_3 (bd_sub b_784 (by decide))) (cwV 2 hts (gV_ t_2381 t_2383 t_95 t_198 t_2384) rfl rfl rfl (by decide +kernel) ⟨(Nat.le_of_ble_eq_true rfl), (Nat.le_of_ble_eq_true rfl)⟩) (pre3V g hK ma0_ ka0_ (by decide) (q := (RX14, TX14, 67)) rfl) rfl rfl hl.1 rfl (lv_room (Nat.le_of_ble_eq_true rfl)) dX14_scan_209 ⟨(Nat.le_of_ble_eq_true rfl), (Nat.le_of_ble_eq_true rfl)⟩) g hK (by decide) (by decide) (fx' := [(14, 12, a0_, .long r_777), (14, 6, a0_, .int 1), (14, 7, a0_, .int r_762), (14, 9, a0_, .int v77_3), (14, 10, a0_, .int y_14), (14, 5, a0_, .int x_7), (14, 8, a0_, .int j31_1)]) rfl (fun r_793 fr_793 H locs hp hMr_793 g => ?_)
                                  refine lv_goto (tgt := 216) hx hb dX14_scan_212 (by decide) ?_
                                  refine g_put (C := RX14) (T := TX14) (N := 67) hx hb hts (mc_ inX14) tyX14 tyX14_ok nmX14 hown hK g ma0_ ka0_ (by decide) rfl 13 (by decide) (hts _ (List.mem_cons_of_mem _ t_2159)) (fun _ h9 => h9) rfl rfl okV_l rfl rfl (by decide) (Or.inr (Or.inl (by decide))) (fx' := [(14, 12, a0_, .long r_777), (14, 6, a0_, .int 1), (14, 7, a0_, .int r_762), (14, 9, a0_, .int v77_3), (14, 10, a0_, .int y_14), (14, 5, a0_, .int x_7), (14, 8, a0_, .int j31_1)]) rfl dX14_scan_216 (fun f H locs hM_794 g => ?_)
                                  refine lv_goto (tgt := 324) hx hb dX14_scan_219 (by decide) ?_
                                  subst hQ
                                  exact W.vret hx hb hr (fun t ht hW => ⟨⟨_, rfl, ⟨y_14, (bd_sub b_15 (by decide)), (g.fcts [5] rfl)⟩, q3_of g hK ht hW⟩, g.2.2.1.F ht⟩) g.2.2.1.2.2 dX14_scan_324
                            · have fc_772 := nle_f c_772
                              refine lv_iload_n hx hb dX14_scan_172 rfl (lv_at hl 0 rfl) ?_
                              refine lv_goto (tgt := 180) hx hb dX14_scan_173 (by decide) ?_
                              refine g_calll (va_runV (As := [.int j31_1, .int v77_3]) (rest := [.ref a0_]) ⟨hx, hb, hml, hown, hts⟩ (r_X14_letters l dC dI L kd tys f H.size g.2.2.2.1 a0_ ma0_ ka0_ j31_1 (bd_sub b_12 (by decide)) v77_3 (bd_sub b_531 (by decide))) (cwV 2 hts (gV_ t_2381 t_2383 t_95 t_198 t_2384) rfl rfl rfl (by decide +kernel) ⟨(Nat.le_of_ble_eq_true rfl), (Nat.le_of_ble_eq_true rfl)⟩) (pre3V g hK ma0_ ka0_ (by decide) (q := (RX14, TX14, 67)) rfl) rfl rfl hl.1 rfl (lv_room (Nat.le_of_ble_eq_true rfl)) dX14_scan_180 ⟨(Nat.le_of_ble_eq_true rfl), (Nat.le_of_ble_eq_true rfl)⟩) g hK (by decide) (by decide) (fx' := [(14, 6, a0_, .int 1), (14, 7, a0_, .int r_762), (14, 9, a0_, .int v77_3), (14, 10, a0_, .int y_14), (14, 5, a0_, .int x_7), (14, 8, a0_, .int j31_1)]) rfl (fun r_795 fr_795 H locs hp hMr_795 g => ?_)
                              refine g_put (C := RX14) (T := TX14) (N := 67) hx hb hts (mc_ inX14) tyX14 tyX14_ok nmX14 hown hK g ma0_ ka0_ (by decide) rfl 12 (by decide) (hts _ (List.mem_cons_of_mem _ t_2158)) (fun _ h9 => h9) rfl rfl okV_l rfl rfl (by decide) (Or.inr (Or.inl (by decide))) (fx' := [(14, 6, a0_, .int 1), (14, 7, a0_, .int r_762), (14, 9, a0_, .int v77_3), (14, 10, a0_, .int y_14), (14, 5, a0_, .int x_7), (14, 8, a0_, .int j31_1)]) rfl dX14_scan_183 (fun f H locs hM_796 g => ?_)
                              refine lv_aload_n hx hb dX14_scan_186 rfl (lv_at hl 3 rfl) ?_
                              refine lv_iload_n hx hb dX14_scan_187 rfl (lv_at hl 0 rfl) ?_
                              refine lv_iload_n hx hb dX14_scan_188 rfl (lv_at hl 2 rfl) ?_
                              refine lv_bipush (v := 6) hx hb dX14_scan_189 (by decide) ?_
                              refine lv_iadd hx hb dX14_scan_191 ?_
                              refine lv_topi (fun y_797 ey_797 => ?_)
                              obtain rfl : y_770 = y_797 := ey_770.trans ey_797.symm
                              refine lv_icmp_le (tgt := 215) hx hb dX14_scan_192 (by decide) (fun c_798 => ?_) (fun c_798 => ?_)
                              · have fc_798 := le_f c_798
                                refine lv_lconst (v := 0) hx hb dX14_scan_215 (by decide) ?_
                                refine g_put (C := RX14) (T := TX14) (N := 67) hx hb hts (mc_ inX14) tyX14 tyX14_ok nmX14 hown hK g ma0_ ka0_ (by decide) rfl 13 (by decide) (hts _ (List.mem_cons_of_mem _ t_2159)) (fun _ h9 => h9) rfl rfl okV_l rfl rfl (by decide) (Or.inr (Or.inl (by decide))) (fx' := [(14, 12, a0_, .long r_795), (14, 6, a0_, .int 1), (14, 7, a0_, .int r_762), (14, 9, a0_, .int v77_3), (14, 10, a0_, .int y_14), (14, 5, a0_, .int x_7), (14, 8, a0_, .int j31_1)]) rfl dX14_scan_216 (fun f H locs hM_799 g => ?_)
                                refine lv_goto (tgt := 324) hx hb dX14_scan_219 (by decide) ?_
                                subst hQ
                                exact W.vret hx hb hr (fun t ht hW => ⟨⟨_, rfl, ⟨y_14, (bd_sub b_15 (by decide)), (g.fcts [5] rfl)⟩, q3_of g hK ht hW⟩, g.2.2.1.F ht⟩) g.2.2.1.2.2 dX14_scan_324
                              · have fc_798 := nle_f c_798
                                have b_800 : bd 6 3998 y_770 := ltL fc_798 b_771 b_531 (by decide)
                                have b_801 : bd 0 3992 j31_1 := add_inv ty_770 b_800 b_12 kb_6 (by decide)
                                have b_802 : bd 7 3999 v77_3 := ltR fc_798 b_771 b_531 (by decide)
                                refine lv_iload_n hx hb dX14_scan_195 rfl (lv_at hl 0 rfl) ?_
                                refine lv_iload_n hx hb dX14_scan_196 rfl (lv_at hl 2 rfl) ?_
                                refine lv_bipush (v := 12) hx hb dX14_scan_197 (by decide) ?_
                                refine lv_iadd hx hb dX14_scan_199 ?_
                                refine lv_topi (fun y_803 ey_803 => ?_)
                                have ty_803 := add_bd ey_803 b_801 kb_12 (by decide)
                                have b_804 : bd 12 4004 y_803 := add_rg ty_803 b_801 kb_12 (by decide)
                                refine lv_icmp_gt (tgt := 215) hx hb dX14_scan_200 (by decide) (fun c_805 => ?_) (fun c_805 => ?_)
                                · have fc_805 := lt_f c_805
                                  have b_806 : bd 12 3998 y_803 := ltL fc_805 b_804 b_802 (by decide)
                                  have b_807 : bd 0 3986 j31_1 := add_inv ty_803 b_806 b_801 kb_12 (by decide)
                                  have b_808 : bd 13 3999 v77_3 := ltR fc_805 b_804 b_802 (by decide)
                                  refine lv_lconst (v := 0) hx hb dX14_scan_215 (by decide) ?_
                                  refine g_put (C := RX14) (T := TX14) (N := 67) hx hb hts (mc_ inX14) tyX14 tyX14_ok nmX14 hown hK g ma0_ ka0_ (by decide) rfl 13 (by decide) (hts _ (List.mem_cons_of_mem _ t_2159)) (fun _ h9 => h9) rfl rfl okV_l rfl rfl (by decide) (Or.inr (Or.inl (by decide))) (fx' := [(14, 12, a0_, .long r_795), (14, 6, a0_, .int 1), (14, 7, a0_, .int r_762), (14, 9, a0_, .int v77_3), (14, 10, a0_, .int y_14), (14, 5, a0_, .int x_7), (14, 8, a0_, .int j31_1)]) rfl dX14_scan_216 (fun f H locs hM_809 g => ?_)
                                  refine lv_goto (tgt := 324) hx hb dX14_scan_219 (by decide) ?_
                                  subst hQ
                                  exact W.vret hx hb hr (fun t ht hW => ⟨⟨_, rfl, ⟨y_14, (bd_sub b_15 (by decide)), (g.fcts [5] rfl)⟩, q3_of g hK ht hW⟩, g.2.2.1.F ht⟩) g.2.2.1.2.2 dX14_scan_324
                                · have fc_805 := nlt_f c_805
                                  refine lv_aload_n hx hb dX14_scan_203 rfl (lv_at hl 3 rfl) ?_
                                  refine lv_iload_n hx hb dX14_scan_204 rfl (lv_at hl 2 rfl) ?_
                                  refine lv_bipush (v := 6) hx hb dX14_scan_205 (by decide) ?_
                                  refine lv_iadd hx hb dX14_scan_207 ?_
                                  refine lv_topi (fun y_810 ey_810 => ?_)
                                  obtain rfl : y_770 = y_810 := ey_770.trans ey_810.symm
                                  refine lv_iload_n hx hb dX14_scan_208 rfl (lv_at hl 0 rfl) ?_
                                  refine g_calll (va_runV (As := [.int y_770, .int v77_3]) (rest := [.ref a0_]) ⟨hx, hb, hml, hown, hts⟩ (r_X14_letters l dC dI L kd tys f H.size g.2.2.2.1 a0_ ma0_ ka0_ y_770 (bd_sub b_800 (by decide)) v77_3 (bd_sub b_802 (by decide))) (cwV 2 hts (gV_ t_2381 t_2383 t_95 t_198 t_2384) rfl rfl rfl (by decide +kernel) ⟨(Nat.le_of_ble_eq_true rfl), (Nat.le_of_ble_eq_true rfl)⟩) (pre3V g hK ma0_ ka0_ (by decide) (q := (RX14, TX14, 67)) rfl) rfl rfl hl.1 rfl (lv_room (Nat.le_of_ble_eq_true rfl)) dX14_scan_209 ⟨(Nat.le_of_ble_eq_true rfl), (Nat.le_of_ble_eq_true rfl)⟩) g hK (by decide) (by decide) (fx' := [(14, 12, a0_, .long r_795), (14, 6, a0_, .int 1), (14, 7, a0_, .int r_762), (14, 9, a0_, .int v77_3), (14, 10, a0_, .int y_14), (14, 5, a0_, .int x_7), (14, 8, a0_, .int j31_1)]) rfl (fun r_811 fr_811 H locs hp hMr_811 g => ?_)
                                  refine lv_goto (tgt := 216) hx hb dX14_scan_212 (by decide) ?_
                                  refine g_put (C := RX14) (T := TX14) (N := 67) hx hb hts (mc_ inX14) tyX14 tyX14_ok nmX14 hown hK g ma0_ ka0_ (by decide) rfl 13 (by decide) (hts _ (List.mem_cons_of_mem _ t_2159)) (fun _ h9 => h9) rfl rfl okV_l rfl rfl (by decide) (Or.inr (Or.inl (by decide))) (fx' := [(14, 12, a0_, .long r_795), (14, 6, a0_, .int 1), (14, 7, a0_, .int r_762), (14, 9, a0_, .int v77_3), (14, 10, a0_, .int y_14), (14, 5, a0_, .int x_7), (14, 8, a0_, .int j31_1)]) rfl dX14_scan_216 (fun f H locs hM_812 g => ?_)
                                  refine lv_goto (tgt := 324) hx hb dX14_scan_219 (by decide) ?_
                                  subst hQ
                                  exact W.vret hx hb hr (fun t ht hW => ⟨⟨_, rfl, ⟨y_14, (bd_sub b_15 (by decide)), (g.fcts [5] rfl)⟩, q3_of g hK ht hW⟩, g.2.2.1.F ht⟩) g.2.2.1.2.2 dX14_scan_324
                          · have fc_767 := nle_f c_767
                            have b_813 : bd 13 3999 y_760 := ltR fc_767 kb_12 b_761 (by decide)
                            refine lv_iconst (v := 0) hx hb dX14_scan_153 (by decide) ?_
                            refine lv_goto (tgt := 158) hx hb dX14_scan_154 (by decide) ?_
                            have kb_0 : bd 0 0 (0 : Int32) := ⟨by decide, by decide⟩
                            refine g_put (C := RX14) (T := TX14) (N := 67) hx hb hts (mc_ inX14) tyX14 tyX14_ok nmX14 hown hK g ma0_ ka0_ (by decide) rfl 6 (by decide) (hts _ (List.mem_cons_of_mem _ t_2152)) (fun _ h9 => h9) rfl rfl (okV_i (bd_sub kb_0 (by decide))) rfl rfl (by decide) (Or.inr (Or.inl (by decide))) (fx' := [(14, 7, a0_, .int r_762), (14, 9, a0_, .int v77_3), (14, 10, a0_, .int y_14), (14, 5, a0_, .int x_7), (14, 8, a0_, .int j31_1)]) rfl dX14_scan_158 (fun f H locs hM_814 g => ?_)
                            refine lv_aload_n hx hb dX14_scan_161 rfl (lv_at hl 3 rfl) ?_
                            refine lv_aload_n hx hb dX14_scan_162 rfl (lv_at hl 3 rfl) ?_
                            refine lv_iload_n hx hb dX14_scan_163 rfl (lv_at hl 2 rfl) ?_
                            refine lv_iload_n hx hb dX14_scan_164 rfl (lv_at hl 0 rfl) ?_
                            refine lv_iload_n hx hb dX14_scan_165 rfl (lv_at hl 2 rfl) ?_
                            refine lv_bipush (v := 6) hx hb dX14_scan_166 (by decide) ?_
                            have kb_6 : bd 6 6 (6 : Int32) := ⟨by decide, by decide⟩
                            refine lv_iadd hx hb dX14_scan_168 ?_
                            refine lv_topi (fun y_815 ey_815 => ?_)
                            have ty_815 := add_bd ey_815 b_12 kb_6 (by decide)
                            have b_816 : bd 6 4005 y_815 := add_rg ty_815 b_12 kb_6 (by decide)
                            refine lv_icmp_ge (tgt := 176) hx hb dX14_scan_169 (by decide) (fun c_817 => ?_) (fun c_817 => ?_)
                            · have fc_817 := le_f c_817
                              have b_818 : bd 6 3999 y_815 := leL fc_817 b_816 b_531 (by decide)
                              have b_819 : bd 0 3993 j31_1 := add_inv ty_815 b_818 b_12 kb_6 (by decide)
                              have b_820 : bd 6 3999 v77_3 := leR fc_817 b_816 b_531 (by decide)
                              refine lv_iload_n hx hb dX14_scan_176 rfl (lv_at hl 2 rfl) ?_
                              refine lv_bipush (v := 6) hx hb dX14_scan_177 (by decide) ?_
                              refine lv_iadd hx hb dX14_scan_179 ?_
                              refine lv_topi (fun y_821 ey_821 => ?_)
                              obtain rfl : y_815 = y_821 := ey_815.trans ey_821.symm
                              refine g_calll (va_runV (As := [.int j31_1, .int y_815]) (rest := [.ref a0_]) ⟨hx, hb, hml, hown, hts⟩ (r_X14_letters l dC dI L kd tys f H.size g.2.2.2.1 a0_ ma0_ ka0_ j31_1 (bd_sub b_819 (by decide)) y_815 (bd_sub b_818 (by decide))) (cwV 2 hts (gV_ t_2381 t_2383 t_95 t_198 t_2384) rfl rfl rfl (by decide +kernel) ⟨(Nat.le_of_ble_eq_true rfl), (Nat.le_of_ble_eq_true rfl)⟩) (pre3V g hK ma0_ ka0_ (by decide) (q := (RX14, TX14, 67)) rfl) rfl rfl hl.1 rfl (lv_room (Nat.le_of_ble_eq_true rfl)) dX14_scan_180 ⟨(Nat.le_of_ble_eq_true rfl), (Nat.le_of_ble_eq_true rfl)⟩) g hK (by decide) (by decide) (fx' := [(14, 6, a0_, .int 0), (14, 7, a0_, .int r_762), (14, 9, a0_, .int v77_3), (14, 10, a0_, .int y_14), (14, 5, a0_, .int x_7), (14, 8, a0_, .int j31_1)]) rfl (fun r_822 fr_822 H locs hp hMr_822 g => ?_)
                              refine g_put (C := RX14) (T := TX14) (N := 67) hx hb hts (mc_ inX14) tyX14 tyX14_ok nmX14 hown hK g ma0_ ka0_ (by decide) rfl 12 (by decide) (hts _ (List.mem_cons_of_mem _ t_2158)) (fun _ h9 => h9) rfl rfl okV_l rfl rfl (by decide) (Or.inr (Or.inl (by decide))) (fx' := [(14, 6, a0_, .int 0), (14, 7, a0_, .int r_762), (14, 9, a0_, .int v77_3), (14, 10, a0_, .int y_14), (14, 5, a0_, .int x_7), (14, 8, a0_, .int j31_1)]) rfl dX14_scan_183 (fun f H locs hM_823 g => ?_)
                              refine lv_aload_n hx hb dX14_scan_186 rfl (lv_at hl 3 rfl) ?_
                              refine lv_iload_n hx hb dX14_scan_187 rfl (lv_at hl 0 rfl) ?_
                              refine lv_iload_n hx hb dX14_scan_188 rfl (lv_at hl 2 rfl) ?_
                              refine lv_bipush (v := 6) hx hb dX14_scan_189 (by decide) ?_
                              refine lv_iadd hx hb dX14_scan_191 ?_
                              refine lv_topi (fun y_824 ey_824 => ?_)
                              obtain rfl : y_815 = y_824 := ey_815.trans ey_824.symm
                              refine lv_icmp_le (tgt := 215) hx hb dX14_scan_192 (by decide) (fun c_825 => ?_) (fun c_825 => ?_)
                              · have fc_825 := le_f c_825
                                refine lv_lconst (v := 0) hx hb dX14_scan_215 (by decide) ?_
                                refine g_put (C := RX14) (T := TX14) (N := 67) hx hb hts (mc_ inX14) tyX14 tyX14_ok nmX14 hown hK g ma0_ ka0_ (by decide) rfl 13 (by decide) (hts _ (List.mem_cons_of_mem _ t_2159)) (fun _ h9 => h9) rfl rfl okV_l rfl rfl (by decide) (Or.inr (Or.inl (by decide))) (fx' := [(14, 12, a0_, .long r_822), (14, 6, a0_, .int 0), (14, 7, a0_, .int r_762), (14, 9, a0_, .int v77_3), (14, 10, a0_, .int y_14), (14, 5, a0_, .int x_7), (14, 8, a0_, .int j31_1)]) rfl dX14_scan_216 (fun f H locs hM_826 g => ?_)
                                refine lv_goto (tgt := 324) hx hb dX14_scan_219 (by decide) ?_
                                subst hQ
                                exact W.vret hx hb hr (fun t ht hW => ⟨⟨_, rfl, ⟨y_14, (bd_sub b_15 (by decide)), (g.fcts [5] rfl)⟩, q3_of g hK ht hW⟩, g.2.2.1.F ht⟩) g.2.2.1.2.2 dX14_scan_324
                              · have fc_825 := nle_f c_825
                                have b_827 : bd 6 3998 y_815 := ltL fc_825 b_818 b_820 (by decide)
                                have b_828 : bd 0 3992 j31_1 := add_inv ty_815 b_827 b_819 kb_6 (by decide)
                                have b_829 : bd 7 3999 v77_3 := ltR fc_825 b_818 b_820 (by decide)
                                refine lv_iload_n hx hb dX14_scan_195 rfl (lv_at hl 0 rfl) ?_
                                refine lv_iload_n hx hb dX14_scan_196 rfl (lv_at hl 2 rfl) ?_
                                refine lv_bipush (v := 12) hx hb dX14_scan_197 (by decide) ?_
                                refine lv_iadd hx hb dX14_scan_199 ?_
                                refine lv_topi (fun y_830 ey_830 => ?_)
                                have ty_830 := add_bd ey_830 b_828 kb_12 (by decide)
                                have b_831 : bd 12 4004 y_830 := add_rg ty_830 b_828 kb_12 (by decide)
                                refine lv_icmp_gt (tgt := 215) hx hb dX14_scan_200 (by decide) (fun c_832 => ?_) (fun c_832 => ?_)
                                · have fc_832 := lt_f c_832
                                  have b_833 : bd 12 3998 y_830 := ltL fc_832 b_831 b_829 (by decide)
                                  have b_834 : bd 0 3986 j31_1 := add_inv ty_830 b_833 b_828 kb_12 (by decide)
                                  have b_835 : bd 13 3999 v77_3 := ltR fc_832 b_831 b_829 (by decide)
                                  refine lv_lconst (v := 0) hx hb dX14_scan_215 (by decide) ?_
                                  refine g_put (C := RX14) (T := TX14) (N := 67) hx hb hts (mc_ inX14) tyX14 tyX14_ok nmX14 hown hK g ma0_ ka0_ (by decide) rfl 13 (by decide) (hts _ (List.mem_cons_of_mem _ t_2159)) (fun _ h9 => h9) rfl rfl okV_l rfl rfl (by decide) (Or.inr (Or.inl (by decide))) (fx' := [(14, 12, a0_, .long r_822), (14, 6, a0_, .int 0), (14, 7, a0_, .int r_762), (14, 9, a0_, .int v77_3), (14, 10, a0_, .int y_14), (14, 5, a0_, .int x_7), (14, 8, a0_, .int j31_1)]) rfl dX14_scan_216 (fun f H locs hM_836 g => ?_)
                                  refine lv_goto (tgt := 324) hx hb dX14_scan_219 (by decide) ?_
                                  subst hQ
                                  exact W.vret hx hb hr (fun t ht hW => ⟨⟨_, rfl, ⟨y_14, (bd_sub b_15 (by decide)), (g.fcts [5] rfl)⟩, q3_of g hK ht hW⟩, g.2.2.1.F ht⟩) g.2.2.1.2.2 dX14_scan_324
                                · have fc_832 := nlt_f c_832
                                  refine lv_aload_n hx hb dX14_scan_203 rfl (lv_at hl 3 rfl) ?_
                                  refine lv_iload_n hx hb dX14_scan_204 rfl (lv_at hl 2 rfl) ?_
                                  refine lv_bipush (v := 6) hx hb dX14_scan_205 (by decide) ?_
                                  refine lv_iadd hx hb dX14_scan_207 ?_
                                  refine lv_topi (fun y_837 ey_837 => ?_)
                                  obtain rfl : y_815 = y_837 := ey_815.trans ey_837.symm
                                  refine lv_iload_n hx hb dX14_scan_208 rfl (lv_at hl 0 rfl) ?_
                                  refine g_calll (va_runV (As := [.int y_815, .int v77_3]) (rest := [.ref a0_]) ⟨hx, hb, hml, hown, hts⟩ (r_X14_letters l dC dI L kd tys f H.size g.2.2.2.1 a0_ ma0_ ka0_ y_815 (bd_sub b_827 (by decide)) v77_3 (bd_sub b_829 (by decide))) (cwV 2 hts (gV_ t_2381 t_2383 t_95 t_198 t_2384) rfl rfl rfl (by decide +kernel) ⟨(Nat.le_of_ble_eq_true rfl), (Nat.le_of_ble_eq_true rfl)⟩) (pre3V g hK ma0_ ka0_ (by decide) (q := (RX14, TX14, 67)) rfl) rfl rfl hl.1 rfl (lv_room (Nat.le_of_ble_eq_true rfl)) dX14_scan_209 ⟨(Nat.le_of_ble_eq_true rfl), (Nat.le_of_ble_eq_true rfl)⟩) g hK (by decide) (by decide) (fx' := [(14, 12, a0_, .long r_822), (14, 6, a0_, .int 0), (14, 7, a0_, .int r_762), (14, 9, a0_, .int v77_3), (14, 10, a0_, .int y_14), (14, 5, a0_, .int x_7), (14, 8, a0_, .int j31_1)]) rfl (fun r_838 fr_838 H locs hp hMr_838 g => ?_)
                                  refine lv_goto (tgt := 216) hx hb dX14_scan_212 (by decide) ?_
                                  refine g_put (C := RX14) (T := TX14) (N := 67) hx hb hts (mc_ inX14) tyX14 tyX14_ok nmX14 hown hK g ma0_ ka0_ (by decide) rfl 13 (by decide) (hts _ (List.mem_cons_of_mem _ t_2159)) (fun _ h9 => h9) rfl rfl okV_l rfl rfl (by decide) (Or.inr (Or.inl (by decide))) (fx' := [(14, 12, a0_, .long r_822), (14, 6, a0_, .int 0), (14, 7, a0_, .int r_762), (14, 9, a0_, .int v77_3), (14, 10, a0_, .int y_14), (14, 5, a0_, .int x_7), (14, 8, a0_, .int j31_1)]) rfl dX14_scan_216 (fun f H locs hM_839 g => ?_)
                                  refine lv_goto (tgt := 324) hx hb dX14_scan_219 (by decide) ?_
                                  subst hQ
                                  exact W.vret hx hb hr (fun t ht hW => ⟨⟨_, rfl, ⟨y_14, (bd_sub b_15 (by decide)), (g.fcts [5] rfl)⟩, q3_of g hK ht hW⟩, g.2.2.1.F ht⟩) g.2.2.1.2.2 dX14_scan_324
                            · have fc_817 := nle_f c_817
                              refine lv_iload_n hx hb dX14_scan_172 rfl (lv_at hl 0 rfl) ?_
                              refine lv_goto (tgt := 180) hx hb dX14_scan_173 (by decide) ?_
                              refine g_calll (va_runV (As := [.int j31_1, .int v77_3]) (rest := [.ref a0_]) ⟨hx, hb, hml, hown, hts⟩ (r_X14_letters l dC dI L kd tys f H.size g.2.2.2.1 a0_ ma0_ ka0_ j31_1 (bd_sub b_12 (by decide)) v77_3 (bd_sub b_531 (by decide))) (cwV 2 hts (gV_ t_2381 t_2383 t_95 t_198 t_2384) rfl rfl rfl (by decide +kernel) ⟨(Nat.le_of_ble_eq_true rfl), (Nat.le_of_ble_eq_true rfl)⟩) (pre3V g hK ma0_ ka0_ (by decide) (q := (RX14, TX14, 67)) rfl) rfl rfl hl.1 rfl (lv_room (Nat.le_of_ble_eq_true rfl)) dX14_scan_180 ⟨(Nat.le_of_ble_eq_true rfl), (Nat.le_of_ble_eq_true rfl)⟩) g hK (by decide) (by decide) (fx' := [(14, 6, a0_, .int 0), (14, 7, a0_, .int r_762), (14, 9, a0_, .int v77_3), (14, 10, a0_, .int y_14), (14, 5, a0_, .int x_7), (14, 8, a0_, .int j31_1)]) rfl (fun r_840 fr_840 H locs hp hMr_840 g => ?_)
                              refine g_put (C := RX14) (T := TX14) (N := 67) hx hb hts (mc_ inX14) tyX14 tyX14_ok nmX14 hown hK g ma0_ ka0_ (by decide) rfl 12 (by decide) (hts _ (List.mem_cons_of_mem _ t_2158)) (fun _ h9 => h9) rfl rfl okV_l rfl rfl (by decide) (Or.inr (Or.inl (by decide))) (fx' := [(14, 6, a0_, .int 0), (14, 7, a0_, .int r_762), (14, 9, a0_, .int v77_3), (14, 10, a0_, .int y_14), (14, 5, a0_, .int x_7), (14, 8, a0_, .int j31_1)]) rfl dX14_scan_183 (fun f H locs hM_841 g => ?_)
                              refine lv_aload_n hx hb dX14_scan_186 rfl (lv_at hl 3 rfl) ?_
                              refine lv_iload_n hx hb dX14_scan_187 rfl (lv_at hl 0 rfl) ?_
                              refine lv_iload_n hx hb dX14_scan_188 rfl (lv_at hl 2 rfl) ?_
                              refine lv_bipush (v := 6) hx hb dX14_scan_189 (by decide) ?_
                              refine lv_iadd hx hb dX14_scan_191 ?_
                              refine lv_topi (fun y_842 ey_842 => ?_)
                              obtain rfl : y_815 = y_842 := ey_815.trans ey_842.symm
                              refine lv_icmp_le (tgt := 215) hx hb dX14_scan_192 (by decide) (fun c_843 => ?_) (fun c_843 => ?_)
                              · have fc_843 := le_f c_843
                                refine lv_lconst (v := 0) hx hb dX14_scan_215 (by decide) ?_
                                refine g_put (C := RX14) (T := TX14) (N := 67) hx hb hts (mc_ inX14) tyX14 tyX14_ok nmX14 hown hK g ma0_ ka0_ (by decide) rfl 13 (by decide) (hts _ (List.mem_cons_of_mem _ t_2159)) (fun _ h9 => h9) rfl rfl okV_l rfl rfl (by decide) (Or.inr (Or.inl (by decide))) (fx' := [(14, 12, a0_, .long r_840), (14, 6, a0_, .int 0), (14, 7, a0_, .int r_762), (14, 9, a0_, .int v77_3), (14, 10, a0_, .int y_14), (14, 5, a0_, .int x_7), (14, 8, a0_, .int j31_1)]) rfl dX14_scan_216 (fun f H locs hM_844 g => ?_)
                                refine lv_goto (tgt := 324) hx hb dX14_scan_219 (by decide) ?_
                                subst hQ
                                exact W.vret hx hb hr (fun t ht hW => ⟨⟨_, rfl, ⟨y_14, (bd_sub b_15 (by decide)), (g.fcts [5] rfl)⟩, q3_of g hK ht hW⟩, g.2.2.1.F ht⟩) g.2.2.1.2.2 dX14_scan_324
                              · have fc_843 := nle_f c_843
                                have b_845 : bd 6 3998 y_815 := ltL fc_843 b_816 b_531 (by decide)
                                have b_846 : bd 0 3992 j31_1 := add_inv ty_815 b_845 b_12 kb_6 (by decide)
                                have b_847 : bd 7 3999 v77_3 := ltR fc_843 b_816 b_531 (by decide)
                                refine lv_iload_n hx hb dX14_scan_195 rfl (lv_at hl 0 rfl) ?_
                                refine lv_iload_n hx hb dX14_scan_196 rfl (lv_at hl 2 rfl) ?_
                                refine lv_bipush (v := 12) hx hb dX14_scan_197 (by decide) ?_
                                refine lv_iadd hx hb dX14_scan_199 ?_
                                refine lv_topi (fun y_848 ey_848 => ?_)
                                have ty_848 := add_bd ey_848 b_846 kb_12 (by decide)
                                have b_849 : bd 12 4004 y_848 := add_rg ty_848 b_846 kb_12 (by decide)
                                refine lv_icmp_gt (tgt := 215) hx hb dX14_scan_200 (by decide) (fun c_850 => ?_) (fun c_850 => ?_)
                                · have fc_850 := lt_f c_850
                                  have b_851 : bd 12 3998 y_848 := ltL fc_850 b_849 b_847 (by decide)
                                  have b_852 : bd 0 3986 j31_1 := add_inv ty_848 b_851 b_846 kb_12 (by decide)
                                  have b_853 : bd 13 3999 v77_3 := ltR fc_850 b_849 b_847 (by decide)
                                  refine lv_lconst (v := 0) hx hb dX14_scan_215 (by decide) ?_
                                  refine g_put (C := RX14) (T := TX14) (N := 67) hx hb hts (mc_ inX14) tyX14 tyX14_ok nmX14 hown hK g ma0_ ka0_ (by decide) rfl 13 (by decide) (hts _ (List.mem_cons_of_mem _ t_2159)) (fun _ h9 => h9) rfl rfl okV_l rfl rfl (by decide) (Or.inr (Or.inl (by decide))) (fx' := [(14, 12, a0_, .long r_840), (14, 6, a0_, .int 0), (14, 7, a0_, .int r_762), (14, 9, a0_, .int v77_3), (14, 10, a0_, .int y_14), (14, 5, a0_, .int x_7), (14, 8, a0_, .int j31_1)]) rfl dX14_scan_216 (fun f H locs hM_854 g => ?_)
                                  refine lv_goto (tgt := 324) hx hb dX14_scan_219 (by decide) ?_
                                  subst hQ
                                  exact W.vret hx hb hr (fun t ht hW => ⟨⟨_, rfl, ⟨y_14, (bd_sub b_15 (by decide)), (g.fcts [5] rfl)⟩, q3_of g hK ht hW⟩, g.2.2.1.F ht⟩) g.2.2.1.2.2 dX14_scan_324
                                · have fc_850 := nlt_f c_850
                                  refine lv_aload_n hx hb dX14_scan_203 rfl (lv_at hl 3 rfl) ?_
                                  refine lv_iload_n hx hb dX14_scan_204 rfl (lv_at hl 2 rfl) ?_
                                  refine lv_bipush (v := 6) hx hb dX14_scan_205 (by decide) ?_
                                  refine lv_iadd hx hb dX14_scan_207 ?_
                                  refine lv_topi (fun y_855 ey_855 => ?_)
                                  obtain rfl : y_815 = y_855 := ey_815.trans ey_855.symm
                                  refine lv_iload_n hx hb dX14_scan_208 rfl (lv_at hl 0 rfl) ?_
                                  refine g_calll (va_runV (As := [.int y_815, .int v77_3]) (rest := [.ref a0_]) ⟨hx, hb, hml, hown, hts⟩ (r_X14_letters l dC dI L kd tys f H.size g.2.2.2.1 a0_ ma0_ ka0_ y_815 (bd_sub b_845 (by decide)) v77_3 (bd_sub b_847 (by decide))) (cwV 2 hts (gV_ t_2381 t_2383 t_95 t_198 t_2384) rfl rfl rfl (by decide +kernel) ⟨(Nat.le_of_ble_eq_true rfl), (Nat.le_of_ble_eq_true rfl)⟩) (pre3V g hK ma0_ ka0_ (by decide) (q := (RX14, TX14, 67)) rfl) rfl rfl hl.1 rfl (lv_room (Nat.le_of_ble_eq_true rfl)) dX14_scan_209 ⟨(Nat.le_of_ble_eq_true rfl), (Nat.le_of_ble_eq_true rfl)⟩) g hK (by decide) (by decide) (fx' := [(14, 12, a0_, .long r_840), (14, 6, a0_, .int 0), (14, 7, a0_, .int r_762), (14, 9, a0_, .int v77_3), (14, 10, a0_, .int y_14), (14, 5, a0_, .int x_7), (14, 8, a0_, .int j31_1)]) rfl (fun r_856 fr_856 H locs hp hMr_856 g => ?_)
                                  refine lv_goto (tgt := 216) hx hb dX14_scan_212 (by decide) ?_
                                  refine g_put (C := RX14) (T := TX14) (N := 67) hx hb hts (mc_ inX14) tyX14 tyX14_ok nmX14 hown hK g ma0_ ka0_ (by decide) rfl 13 (by decide) (hts _ (List.mem_cons_of_mem _ t_2159)) (fun _ h9 => h9) rfl rfl okV_l rfl rfl (by decide) (Or.inr (Or.inl (by decide))) (fx' := [(14, 12, a0_, .long r_840), (14, 6, a0_, .int 0), (14, 7, a0_, .int r_762), (14, 9, a0_, .int v77_3), (14, 10, a0_, .int y_14), (14, 5, a0_, .int x_7), (14, 8, a0_, .int j31_1)]) rfl dX14_scan_216 (fun f H locs hM_857 g => ?_)
                                  refine lv_goto (tgt := 324) hx hb dX14_scan_219 (by decide) ?_
                                  subst hQ
                                  exact W.vret hx hb hr (fun t ht hW => ⟨⟨_, rfl, ⟨y_14, (bd_sub b_15 (by decide)), (g.fcts [5] rfl)⟩, q3_of g hK ht hW⟩, g.2.2.1.F ht⟩) g.2.2.1.2.2 dX14_scan_324
                        · have fc_764 := neq_f c_764
                          refine lv_iconst (v := 2) hx hb dX14_scan_141 (by decide) ?_
                          refine lv_goto (tgt := 158) hx hb dX14_scan_142 (by decide) ?_
                          have kb_2 : bd 2 2 (2 : Int32) := ⟨by decide, by decide⟩
                          refine g_put (C := RX14) (T := TX14) (N := 67) hx hb hts (mc_ inX14) tyX14 tyX14_ok nmX14 hown hK g ma0_ ka0_ (by decide) rfl 6 (by decide) (hts _ (List.mem_cons_of_mem _ t_2152)) (fun _ h9 => h9) rfl rfl (okV_i (bd_sub kb_2 (by decide))) rfl rfl (by decide) (Or.inr (Or.inl (by decide))) (fx' := [(14, 7, a0_, .int r_762), (14, 9, a0_, .int v77_3), (14, 10, a0_, .int y_14), (14, 5, a0_, .int x_7), (14, 8, a0_, .int j31_1)]) rfl dX14_scan_158 (fun f H locs hM_858 g => ?_)
                          refine lv_aload_n hx hb dX14_scan_161 rfl (lv_at hl 3 rfl) ?_
                          refine lv_aload_n hx hb dX14_scan_162 rfl (lv_at hl 3 rfl) ?_
                          refine lv_iload_n hx hb dX14_scan_163 rfl (lv_at hl 2 rfl) ?_
                          refine lv_iload_n hx hb dX14_scan_164 rfl (lv_at hl 0 rfl) ?_
                          refine lv_iload_n hx hb dX14_scan_165 rfl (lv_at hl 2 rfl) ?_
                          refine lv_bipush (v := 6) hx hb dX14_scan_166 (by decide) ?_
                          have kb_6 : bd 6 6 (6 : Int32) := ⟨by decide, by decide⟩
                          refine lv_iadd hx hb dX14_scan_168 ?_
                          refine lv_topi (fun y_859 ey_859 => ?_)
                          have ty_859 := add_bd ey_859 b_12 kb_6 (by decide)
                          have b_860 : bd 6 4005 y_859 := add_rg ty_859 b_12 kb_6 (by decide)
                          refine lv_icmp_ge (tgt := 176) hx hb dX14_scan_169 (by decide) (fun c_861 => ?_) (fun c_861 => ?_)
                          · have fc_861 := le_f c_861
                            have b_862 : bd 6 3999 y_859 := leL fc_861 b_860 b_531 (by decide)
                            have b_863 : bd 0 3993 j31_1 := add_inv ty_859 b_862 b_12 kb_6 (by decide)
                            have b_864 : bd 6 3999 v77_3 := leR fc_861 b_860 b_531 (by decide)
                            refine lv_iload_n hx hb dX14_scan_176 rfl (lv_at hl 2 rfl) ?_
                            refine lv_bipush (v := 6) hx hb dX14_scan_177 (by decide) ?_
                            refine lv_iadd hx hb dX14_scan_179 ?_
                            refine lv_topi (fun y_865 ey_865 => ?_)
                            obtain rfl : y_859 = y_865 := ey_859.trans ey_865.symm
                            refine g_calll (va_runV (As := [.int j31_1, .int y_859]) (rest := [.ref a0_]) ⟨hx, hb, hml, hown, hts⟩ (r_X14_letters l dC dI L kd tys f H.size g.2.2.2.1 a0_ ma0_ ka0_ j31_1 (bd_sub b_863 (by decide)) y_859 (bd_sub b_862 (by decide))) (cwV 2 hts (gV_ t_2381 t_2383 t_95 t_198 t_2384) rfl rfl rfl (by decide +kernel) ⟨(Nat.le_of_ble_eq_true rfl), (Nat.le_of_ble_eq_true rfl)⟩) (pre3V g hK ma0_ ka0_ (by decide) (q := (RX14, TX14, 67)) rfl) rfl rfl hl.1 rfl (lv_room (Nat.le_of_ble_eq_true rfl)) dX14_scan_180 ⟨(Nat.le_of_ble_eq_true rfl), (Nat.le_of_ble_eq_true rfl)⟩) g hK (by decide) (by decide) (fx' := [(14, 6, a0_, .int 2), (14, 7, a0_, .int r_762), (14, 9, a0_, .int v77_3), (14, 10, a0_, .int y_14), (14, 5, a0_, .int x_7), (14, 8, a0_, .int j31_1)]) rfl (fun r_866 fr_866 H locs hp hMr_866 g => ?_)
                            refine g_put (C := RX14) (T := TX14) (N := 67) hx hb hts (mc_ inX14) tyX14 tyX14_ok nmX14 hown hK g ma0_ ka0_ (by decide) rfl 12 (by decide) (hts _ (List.mem_cons_of_mem _ t_2158)) (fun _ h9 => h9) rfl rfl okV_l rfl rfl (by decide) (Or.inr (Or.inl (by decide))) (fx' := [(14, 6, a0_, .int 2), (14, 7, a0_, .int r_762), (14, 9, a0_, .int v77_3), (14, 10, a0_, .int y_14), (14, 5, a0_, .int x_7), (14, 8, a0_, .int j31_1)]) rfl dX14_scan_183 (fun f H locs hM_867 g => ?_)
                            refine lv_aload_n hx hb dX14_scan_186 rfl (lv_at hl 3 rfl) ?_
                            refine lv_iload_n hx hb dX14_scan_187 rfl (lv_at hl 0 rfl) ?_
                            refine lv_iload_n hx hb dX14_scan_188 rfl (lv_at hl 2 rfl) ?_
                            refine lv_bipush (v := 6) hx hb dX14_scan_189 (by decide) ?_
                            refine lv_iadd hx hb dX14_scan_191 ?_
                            refine lv_topi (fun y_868 ey_868 => ?_)
                            obtain rfl : y_859 = y_868 := ey_859.trans ey_868.symm
                            refine lv_icmp_le (tgt := 215) hx hb dX14_scan_192 (by decide) (fun c_869 => ?_) (fun c_869 => ?_)
                            · have fc_869 := le_f c_869
                              refine lv_lconst (v := 0) hx hb dX14_scan_215 (by decide) ?_
                              refine g_put (C := RX14) (T := TX14) (N := 67) hx hb hts (mc_ inX14) tyX14 tyX14_ok nmX14 hown hK g ma0_ ka0_ (by decide) rfl 13 (by decide) (hts _ (List.mem_cons_of_mem _ t_2159)) (fun _ h9 => h9) rfl rfl okV_l rfl rfl (by decide) (Or.inr (Or.inl (by decide))) (fx' := [(14, 12, a0_, .long r_866), (14, 6, a0_, .int 2), (14, 7, a0_, .int r_762), (14, 9, a0_, .int v77_3), (14, 10, a0_, .int y_14), (14, 5, a0_, .int x_7), (14, 8, a0_, .int j31_1)]) rfl dX14_scan_216 (fun f H locs hM_870 g => ?_)
                              refine lv_goto (tgt := 324) hx hb dX14_scan_219 (by decide) ?_
                              subst hQ
                              exact W.vret hx hb hr (fun t ht hW => ⟨⟨_, rfl, ⟨y_14, (bd_sub b_15 (by decide)), (g.fcts [5] rfl)⟩, q3_of g hK ht hW⟩, g.2.2.1.F ht⟩) g.2.2.1.2.2 dX14_scan_324
                            · have fc_869 := nle_f c_869
                              have b_871 : bd 6 3998 y_859 := ltL fc_869 b_862 b_864 (by decide)
                              have b_872 : bd 0 3992 j31_1 := add_inv ty_859 b_871 b_863 kb_6 (by decide)
                              have b_873 : bd 7 3999 v77_3 := ltR fc_869 b_862 b_864 (by decide)
                              refine lv_iload_n hx hb dX14_scan_195 rfl (lv_at hl 0 rfl) ?_
                              refine lv_iload_n hx hb dX14_scan_196 rfl (lv_at hl 2 rfl) ?_
                              refine lv_bipush (v := 12) hx hb dX14_scan_197 (by decide) ?_
                              have kb_12 : bd 12 12 (12 : Int32) := ⟨by decide, by decide⟩
                              refine lv_iadd hx hb dX14_scan_199 ?_
                              refine lv_topi (fun y_874 ey_874 => ?_)
                              have ty_874 := add_bd ey_874 b_872 kb_12 (by decide)
                              have b_875 : bd 12 4004 y_874 := add_rg ty_874 b_872 kb_12 (by decide)
                              refine lv_icmp_gt (tgt := 215) hx hb dX14_scan_200 (by decide) (fun c_876 => ?_) (fun c_876 => ?_)
                              · have fc_876 := lt_f c_876
                                have b_877 : bd 12 3998 y_874 := ltL fc_876 b_875 b_873 (by decide)
                                have b_878 : bd 0 3986 j31_1 := add_inv ty_874 b_877 b_872 kb_12 (by decide)
                                have b_879 : bd 13 3999 v77_3 := ltR fc_876 b_875 b_873 (by decide)
                                refine lv_lconst (v := 0) hx hb dX14_scan_215 (by decide) ?_
                                refine g_put (C := RX14) (T := TX14) (N := 67) hx hb hts (mc_ inX14) tyX14 tyX14_ok nmX14 hown hK g ma0_ ka0_ (by decide) rfl 13 (by decide) (hts _ (List.mem_cons_of_mem _ t_2159)) (fun _ h9 => h9) rfl rfl okV_l rfl rfl (by decide) (Or.inr (Or.inl (by decide))) (fx' := [(14, 12, a0_, .long r_866), (14, 6, a0_, .int 2), (14, 7, a0_, .int r_762), (14, 9, a0_, .int v77_3), (14, 10, a0_, .int y_14), (14, 5, a0_, .int x_7), (14, 8, a0_, .int j31_1)]) rfl dX14_scan_216 (fun f H locs hM_880 g => ?_)
                                refine lv_goto (tgt := 324) hx hb dX14_scan_219 (by decide) ?_
                                subst hQ
                                exact W.vret hx hb hr (fun t ht hW => ⟨⟨_, rfl, ⟨y_14, (bd_sub b_15 (by decide)), (g.fcts [5] rfl)⟩, q3_of g hK ht hW⟩, g.2.2.1.F ht⟩) g.2.2.1.2.2 dX14_scan_324
                              · have fc_876 := nlt_f c_876
                                refine lv_aload_n hx hb dX14_scan_203 rfl (lv_at hl 3 rfl) ?_
                                refine lv_iload_n hx hb dX14_scan_204 rfl (lv_at hl 2 rfl) ?_
                                refine lv_bipush (v := 6) hx hb dX14_scan_205 (by decide) ?_
                                refine lv_iadd hx hb dX14_scan_207 ?_
                                refine lv_topi (fun y_881 ey_881 => ?_)
                                obtain rfl : y_859 = y_881 := ey_859.trans ey_881.symm
                                refine lv_iload_n hx hb dX14_scan_208 rfl (lv_at hl 0 rfl) ?_
                                refine g_calll (va_runV (As := [.int y_859, .int v77_3]) (rest := [.ref a0_]) ⟨hx, hb, hml, hown, hts⟩ (r_X14_letters l dC dI L kd tys f H.size g.2.2.2.1 a0_ ma0_ ka0_ y_859 (bd_sub b_871 (by decide)) v77_3 (bd_sub b_873 (by decide))) (cwV 2 hts (gV_ t_2381 t_2383 t_95 t_198 t_2384) rfl rfl rfl (by decide +kernel) ⟨(Nat.le_of_ble_eq_true rfl), (Nat.le_of_ble_eq_true rfl)⟩) (pre3V g hK ma0_ ka0_ (by decide) (q := (RX14, TX14, 67)) rfl) rfl rfl hl.1 rfl (lv_room (Nat.le_of_ble_eq_true rfl)) dX14_scan_209 ⟨(Nat.le_of_ble_eq_true rfl), (Nat.le_of_ble_eq_true rfl)⟩) g hK (by decide) (by decide) (fx' := [(14, 12, a0_, .long r_866), (14, 6, a0_, .int 2), (14, 7, a0_, .int r_762), (14, 9, a0_, .int v77_3), (14, 10, a0_, .int y_14), (14, 5, a0_, .int x_7), (14, 8, a0_, .int j31_1)]) rfl (fun r_882 fr_882 H locs hp hMr_882 g => ?_)
                                refine lv_goto (tgt := 216) hx hb dX14_scan_212 (by decide) ?_
                                refine g_put (C := RX14) (T := TX14) (N := 67) hx hb hts (mc_ inX14) tyX14 tyX14_ok nmX14 hown hK g ma0_ ka0_ (by decide) rfl 13 (by decide) (hts _ (List.mem_cons_of_mem _ t_2159)) (fun _ h9 => h9) rfl rfl okV_l rfl rfl (by decide) (Or.inr (Or.inl (by decide))) (fx' := [(14, 12, a0_, .long r_866), (14, 6, a0_, .int 2), (14, 7, a0_, .int r_762), (14, 9, a0_, .int v77_3), (14, 10, a0_, .int y_14), (14, 5, a0_, .int x_7), (14, 8, a0_, .int j31_1)]) rfl dX14_scan_216 (fun f H locs hM_883 g => ?_)
                                refine lv_goto (tgt := 324) hx hb dX14_scan_219 (by decide) ?_
                                subst hQ
                                exact W.vret hx hb hr (fun t ht hW => ⟨⟨_, rfl, ⟨y_14, (bd_sub b_15 (by decide)), (g.fcts [5] rfl)⟩, q3_of g hK ht hW⟩, g.2.2.1.F ht⟩) g.2.2.1.2.2 dX14_scan_324
                          · have fc_861 := nle_f c_861
                            refine lv_iload_n hx hb dX14_scan_172 rfl (lv_at hl 0 rfl) ?_
                            refine lv_goto (tgt := 180) hx hb dX14_scan_173 (by decide) ?_
                            refine g_calll (va_runV (As := [.int j31_1, .int v77_3]) (rest := [.ref a0_]) ⟨hx, hb, hml, hown, hts⟩ (r_X14_letters l dC dI L kd tys f H.size g.2.2.2.1 a0_ ma0_ ka0_ j31_1 (bd_sub b_12 (by decide)) v77_3 (bd_sub b_531 (by decide))) (cwV 2 hts (gV_ t_2381 t_2383 t_95 t_198 t_2384) rfl rfl rfl (by decide +kernel) ⟨(Nat.le_of_ble_eq_true rfl), (Nat.le_of_ble_eq_true rfl)⟩) (pre3V g hK ma0_ ka0_ (by decide) (q := (RX14, TX14, 67)) rfl) rfl rfl hl.1 rfl (lv_room (Nat.le_of_ble_eq_true rfl)) dX14_scan_180 ⟨(Nat.le_of_ble_eq_true rfl), (Nat.le_of_ble_eq_true rfl)⟩) g hK (by decide) (by decide) (fx' := [(14, 6, a0_, .int 2), (14, 7, a0_, .int r_762), (14, 9, a0_, .int v77_3), (14, 10, a0_, .int y_14), (14, 5, a0_, .int x_7), (14, 8, a0_, .int j31_1)]) rfl (fun r_884 fr_884 H locs hp hMr_884 g => ?_)
                            refine g_put (C := RX14) (T := TX14) (N := 67) hx hb hts (mc_ inX14) tyX14 tyX14_ok nmX14 hown hK g ma0_ ka0_ (by decide) rfl 12 (by decide) (hts _ (List.mem_cons_of_mem _ t_2158)) (fun _ h9 => h9) rfl rfl okV_l rfl rfl (by decide) (Or.inr (Or.inl (by decide))) (fx' := [(14, 6, a0_, .int 2), (14, 7, a0_, .int r_762), (14, 9, a0_, .int v77_3), (14, 10, a0_, .int y_14), (14, 5, a0_, .int x_7), (14, 8, a0_, .int j31_1)]) rfl dX14_scan_183 (fun f H locs hM_885 g => ?_)
                            refine lv_aload_n hx hb dX14_scan_186 rfl (lv_at hl 3 rfl) ?_
                            refine lv_iload_n hx hb dX14_scan_187 rfl (lv_at hl 0 rfl) ?_
                            refine lv_iload_n hx hb dX14_scan_188 rfl (lv_at hl 2 rfl) ?_
                            refine lv_bipush (v := 6) hx hb dX14_scan_189 (by decide) ?_
                            refine lv_iadd hx hb dX14_scan_191 ?_
                            refine lv_topi (fun y_886 ey_886 => ?_)
                            obtain rfl : y_859 = y_886 := ey_859.trans ey_886.symm
                            refine lv_icmp_le (tgt := 215) hx hb dX14_scan_192 (by decide) (fun c_887 => ?_) (fun c_887 => ?_)
                            · have fc_887 := le_f c_887
                              refine lv_lconst (v := 0) hx hb dX14_scan_215 (by decide) ?_
                              refine g_put (C := RX14) (T := TX14) (N := 67) hx hb hts (mc_ inX14) tyX14 tyX14_ok nmX14 hown hK g ma0_ ka0_ (by decide) rfl 13 (by decide) (hts _ (List.mem_cons_of_mem _ t_2159)) (fun _ h9 => h9) rfl rfl okV_l rfl rfl (by decide) (Or.inr (Or.inl (by decide))) (fx' := [(14, 12, a0_, .long r_884), (14, 6, a0_, .int 2), (14, 7, a0_, .int r_762), (14, 9, a0_, .int v77_3), (14, 10, a0_, .int y_14), (14, 5, a0_, .int x_7), (14, 8, a0_, .int j31_1)]) rfl dX14_scan_216 (fun f H locs hM_888 g => ?_)
                              refine lv_goto (tgt := 324) hx hb dX14_scan_219 (by decide) ?_
                              subst hQ
                              exact W.vret hx hb hr (fun t ht hW => ⟨⟨_, rfl, ⟨y_14, (bd_sub b_15 (by decide)), (g.fcts [5] rfl)⟩, q3_of g hK ht hW⟩, g.2.2.1.F ht⟩) g.2.2.1.2.2 dX14_scan_324
                            · have fc_887 := nle_f c_887
                              have b_889 : bd 6 3998 y_859 := ltL fc_887 b_860 b_531 (by decide)
                              have b_890 : bd 0 3992 j31_1 := add_inv ty_859 b_889 b_12 kb_6 (by decide)
                              have b_891 : bd 7 3999 v77_3 := ltR fc_887 b_860 b_531 (by decide)
                              refine lv_iload_n hx hb dX14_scan_195 rfl (lv_at hl 0 rfl) ?_
                              refine lv_iload_n hx hb dX14_scan_196 rfl (lv_at hl 2 rfl) ?_
                              refine lv_bipush (v := 12) hx hb dX14_scan_197 (by decide) ?_
                              have kb_12 : bd 12 12 (12 : Int32) := ⟨by decide, by decide⟩
                              refine lv_iadd hx hb dX14_scan_199 ?_
                              refine lv_topi (fun y_892 ey_892 => ?_)
                              have ty_892 := add_bd ey_892 b_890 kb_12 (by decide)
                              have b_893 : bd 12 4004 y_892 := add_rg ty_892 b_890 kb_12 (by decide)
                              refine lv_icmp_gt (tgt := 215) hx hb dX14_scan_200 (by decide) (fun c_894 => ?_) (fun c_894 => ?_)
                              · have fc_894 := lt_f c_894
                                have b_895 : bd 12 3998 y_892 := ltL fc_894 b_893 b_891 (by decide)
                                have b_896 : bd 0 3986 j31_1 := add_inv ty_892 b_895 b_890 kb_12 (by decide)
                                have b_897 : bd 13 3999 v77_3 := ltR fc_894 b_893 b_891 (by decide)
                                refine lv_lconst (v := 0) hx hb dX14_scan_215 (by decide) ?_
                                refine g_put (C := RX14) (T := TX14) (N := 67) hx hb hts (mc_ inX14) tyX14 tyX14_ok nmX14 hown hK g ma0_ ka0_ (by decide) rfl 13 (by decide) (hts _ (List.mem_cons_of_mem _ t_2159)) (fun _ h9 => h9) rfl rfl okV_l rfl rfl (by decide) (Or.inr (Or.inl (by decide))) (fx' := [(14, 12, a0_, .long r_884), (14, 6, a0_, .int 2), (14, 7, a0_, .int r_762), (14, 9, a0_, .int v77_3), (14, 10, a0_, .int y_14), (14, 5, a0_, .int x_7), (14, 8, a0_, .int j31_1)]) rfl dX14_scan_216 (fun f H locs hM_898 g => ?_)
                                refine lv_goto (tgt := 324) hx hb dX14_scan_219 (by decide) ?_
                                subst hQ
                                exact W.vret hx hb hr (fun t ht hW => ⟨⟨_, rfl, ⟨y_14, (bd_sub b_15 (by decide)), (g.fcts [5] rfl)⟩, q3_of g hK ht hW⟩, g.2.2.1.F ht⟩) g.2.2.1.2.2 dX14_scan_324
                              · have fc_894 := nlt_f c_894
                                refine lv_aload_n hx hb dX14_scan_203 rfl (lv_at hl 3 rfl) ?_
                                refine lv_iload_n hx hb dX14_scan_204 rfl (lv_at hl 2 rfl) ?_
                                refine lv_bipush (v := 6) hx hb dX14_scan_205 (by decide) ?_
                                refine lv_iadd hx hb dX14_scan_207 ?_
                                refine lv_topi (fun y_899 ey_899 => ?_)
                                obtain rfl : y_859 = y_899 := ey_859.trans ey_899.symm
                                refine lv_iload_n hx hb dX14_scan_208 rfl (lv_at hl 0 rfl) ?_
                                refine g_calll (va_runV (As := [.int y_859, .int v77_3]) (rest := [.ref a0_]) ⟨hx, hb, hml, hown, hts⟩ (r_X14_letters l dC dI L kd tys f H.size g.2.2.2.1 a0_ ma0_ ka0_ y_859 (bd_sub b_889 (by decide)) v77_3 (bd_sub b_891 (by decide))) (cwV 2 hts (gV_ t_2381 t_2383 t_95 t_198 t_2384) rfl rfl rfl (by decide +kernel) ⟨(Nat.le_of_ble_eq_true rfl), (Nat.le_of_ble_eq_true rfl)⟩) (pre3V g hK ma0_ ka0_ (by decide) (q := (RX14, TX14, 67)) rfl) rfl rfl hl.1 rfl (lv_room (Nat.le_of_ble_eq_true rfl)) dX14_scan_209 ⟨(Nat.le_of_ble_eq_true rfl), (Nat.le_of_ble_eq_true rfl)⟩) g hK (by decide) (by decide) (fx' := [(14, 12, a0_, .long r_884), (14, 6, a0_, .int 2), (14, 7, a0_, .int r_762), (14, 9, a0_, .int v77_3), (14, 10, a0_, .int y_14), (14, 5, a0_, .int x_7), (14, 8, a0_, .int j31_1)]) rfl (fun r_900 fr_900 H locs hp hMr_900 g => ?_)
                                refine lv_goto (tgt := 216) hx hb dX14_scan_212 (by decide) ?_
                                refine g_put (C := RX14) (T := TX14) (N := 67) hx hb hts (mc_ inX14) tyX14 tyX14_ok nmX14 hown hK g ma0_ ka0_ (by decide) rfl 13 (by decide) (hts _ (List.mem_cons_of_mem _ t_2159)) (fun _ h9 => h9) rfl rfl okV_l rfl rfl (by decide) (Or.inr (Or.inl (by decide))) (fx' := [(14, 12, a0_, .long r_884), (14, 6, a0_, .int 2), (14, 7, a0_, .int r_762), (14, 9, a0_, .int v77_3), (14, 10, a0_, .int y_14), (14, 5, a0_, .int x_7), (14, 8, a0_, .int j31_1)]) rfl dX14_scan_216 (fun f H locs hM_901 g => ?_)
                                refine lv_goto (tgt := 324) hx hb dX14_scan_219 (by decide) ?_
                                subst hQ
                                exact W.vret hx hb hr (fun t ht hW => ⟨⟨_, rfl, ⟨y_14, (bd_sub b_15 (by decide)), (g.fcts [5] rfl)⟩, q3_of g hK ht hW⟩, g.2.2.1.F ht⟩) g.2.2.1.2.2 dX14_scan_324
                      · have g := g.more hF_758
                        have e_902 := fx_same g 2 0 rfl rfl
                        have g := g.sub (fx' := [(14, 10, a0_, .int y_14), (14, 5, a0_, .int x_7), (14, 8, a0_, .int j31_1), (14, 9, a0_, .int g31_14_9_a0_)]) [1, 2, 3, 4] rfl
                        refine lv_bipush (v := 95) hx hb dX14_scan_104 (by decide) ?_
                        have kb_95 : bd 95 95 (95 : Int32) := ⟨by decide, by decide⟩
                        refine lv_icmp_ne (tgt := 115) hx hb dX14_scan_106 (by decide) (fun c_903 => ?_) (fun c_903 => ?_)
                        · have fc_903 := neq_f c_903
                          have join_904 : ∀ (g161_14_6_a0_ : Int32) (g161_14_7_a0_ : Int32) (f : Nat → va_E) (H : Heap) (locs : List Loc) (ls : Array Slot), bd 0 2 g161_14_6_a0_ → G3 (dC, dI) L kd tys s f0 [(14, 6), (14, 7), (14, 8), (14, 9), (14, 10), (14, 11), (14, 12), (14, 13)] [] f H locs [(14, 6, a0_, .int g161_14_6_a0_), (14, 7, a0_, .int g161_14_7_a0_), (14, 9, a0_, .int v77_3), (14, 10, a0_, .int y_14), (14, 5, a0_, .int x_7), (14, 8, a0_, .int j31_1)] → lv_has ls 4 [(3, .int v77_3), (2, .int r_3), (1, .int j31_1), (0, .ref a0_)] → W p l e ({ frames := 5, cells := 0, slots := 0, locals := 112 } : Room) s m [.ref a0_].toArray below meth c H locs 0 0 Q (F0 m 161 ls []) := by
                            intro g161_14_6_a0_ g161_14_7_a0_ f H locs ls bg161_14_6_a0_  g  hl
                            have join_905 : ∀ (g186_14_12_a0_ : Int64) (f : Nat → va_E) (H : Heap) (locs : List Loc) (ls : Array Slot), G3 (dC, dI) L kd tys s f0 [(14, 6), (14, 7), (14, 8), (14, 9), (14, 10), (14, 11), (14, 12), (14, 13)] [] f H locs [(14, 12, a0_, .long g186_14_12_a0_), (14, 6, a0_, .int g161_14_6_a0_), (14, 7, a0_, .int g161_14_7_a0_), (14, 9, a0_, .int v77_3), (14, 10, a0_, .int y_14), (14, 5, a0_, .int x_7), (14, 8, a0_, .int j31_1)] → lv_has ls 4 [(3, .int v77_3), (2, .int r_3), (1, .int j31_1), (0, .ref a0_)] → W p l e ({ frames := 5, cells := 0, slots := 0, locals := 112 } : Room) s m [.ref a0_].toArray below meth c H locs 0 0 Q (F0 m 186 ls []) := by
                              intro g186_14_12_a0_ f H locs ls  g  hl
                              refine lv_aload_n hx hb dX14_scan_186 rfl (lv_at hl 3 rfl) ?_
                              refine lv_iload_n hx hb dX14_scan_187 rfl (lv_at hl 0 rfl) ?_
                              refine lv_iload_n hx hb dX14_scan_188 rfl (lv_at hl 2 rfl) ?_
                              refine lv_bipush (v := 6) hx hb dX14_scan_189 (by decide) ?_
                              have kb_6 : bd 6 6 (6 : Int32) := ⟨by decide, by decide⟩
                              refine lv_iadd hx hb dX14_scan_191 ?_
                              refine lv_topi (fun y_906 ey_906 => ?_)
                              have ty_906 := add_bd ey_906 b_12 kb_6 (by decide)
                              have b_907 : bd 6 4005 y_906 := add_rg ty_906 b_12 kb_6 (by decide)
                              refine lv_icmp_le (tgt := 215) hx hb dX14_scan_192 (by decide) (fun c_908 => ?_) (fun c_908 => ?_)
                              · have fc_908 := le_f c_908
                                refine lv_lconst (v := 0) hx hb dX14_scan_215 (by decide) ?_
                                refine g_put (C := RX14) (T := TX14) (N := 67) hx hb hts (mc_ inX14) tyX14 tyX14_ok nmX14 hown hK g ma0_ ka0_ (by decide) rfl 13 (by decide) (hts _ (List.mem_cons_of_mem _ t_2159)) (fun _ h9 => h9) rfl rfl okV_l rfl rfl (by decide) (Or.inr (Or.inl (by decide))) (fx' := [(14, 12, a0_, .long g186_14_12_a0_), (14, 6, a0_, .int g161_14_6_a0_), (14, 7, a0_, .int g161_14_7_a0_), (14, 9, a0_, .int v77_3), (14, 10, a0_, .int y_14), (14, 5, a0_, .int x_7), (14, 8, a0_, .int j31_1)]) rfl dX14_scan_216 (fun f H locs hM_909 g => ?_)
                                refine lv_goto (tgt := 324) hx hb dX14_scan_219 (by decide) ?_
                                subst hQ
                                exact W.vret hx hb hr (fun t ht hW => ⟨⟨_, rfl, ⟨y_14, (bd_sub b_15 (by decide)), (g.fcts [5] rfl)⟩, q3_of g hK ht hW⟩, g.2.2.1.F ht⟩) g.2.2.1.2.2 dX14_scan_324
                              · have fc_908 := nle_f c_908
                                have b_910 : bd 6 3998 y_906 := ltL fc_908 b_907 b_531 (by decide)
                                have b_911 : bd 0 3992 j31_1 := add_inv ty_906 b_910 b_12 kb_6 (by decide)
                                have b_912 : bd 7 3999 v77_3 := ltR fc_908 b_907 b_531 (by decide)
                                refine lv_iload_n hx hb dX14_scan_195 rfl (lv_at hl 0 rfl) ?_
                                refine lv_iload_n hx hb dX14_scan_196 rfl (lv_at hl 2 rfl) ?_
                                refine lv_bipush (v := 12) hx hb dX14_scan_197 (by decide) ?_
                                have kb_12 : bd 12 12 (12 : Int32) := ⟨by decide, by decide⟩
                                refine lv_iadd hx hb dX14_scan_199 ?_
                                refine lv_topi (fun y_913 ey_913 => ?_)
                                have ty_913 := add_bd ey_913 b_911 kb_12 (by decide)
                                have b_914 : bd 12 4004 y_913 := add_rg ty_913 b_911 kb_12 (by decide)
                                refine lv_icmp_gt (tgt := 215) hx hb dX14_scan_200 (by decide) (fun c_915 => ?_) (fun c_915 => ?_)
                                · have fc_915 := lt_f c_915
                                  have b_916 : bd 12 3998 y_913 := ltL fc_915 b_914 b_912 (by decide)
                                  have b_917 : bd 0 3986 j31_1 := add_inv ty_913 b_916 b_911 kb_12 (by decide)
                                  have b_918 : bd 13 3999 v77_3 := ltR fc_915 b_914 b_912 (by decide)
                                  refine lv_lconst (v := 0) hx hb dX14_scan_215 (by decide) ?_
                                  refine g_put (C := RX14) (T := TX14) (N := 67) hx hb hts (mc_ inX14) tyX14 tyX14_ok nmX14 hown hK g ma0_ ka0_ (by decide) rfl 13 (by decide) (hts _ (List.mem_cons_of_mem _ t_2159)) (fun _ h9 => h9) rfl rfl okV_l rfl rfl (by decide) (Or.inr (Or.inl (by decide))) (fx' := [(14, 12, a0_, .long g186_14_12_a0_), (14, 6, a0_, .int g161_14_6_a0_), (14, 7, a0_, .int g161_14_7_a0_), (14, 9, a0_, .int v77_3), (14, 10, a0_, .int y_14), (14, 5, a0_, .int x_7), (14, 8, a0_, .int j31_1)]) rfl dX14_scan_216 (fun f H locs hM_919 g => ?_)
                                  refine lv_goto (tgt := 324) hx hb dX14_scan_219 (by decide) ?_
                                  subst hQ
                                  exact W.vret hx hb hr (fun t ht hW => ⟨⟨_, rfl, ⟨y_14, (bd_sub b_15 (by decide)), (g.fcts [5] rfl)⟩, q3_of g hK ht hW⟩, g.2.2.1.F ht⟩) g.2.2.1.2.2 dX14_scan_324
                                · have fc_915 := nlt_f c_915
                                  refine lv_aload_n hx hb dX14_scan_203 rfl (lv_at hl 3 rfl) ?_
                                  refine lv_iload_n hx hb dX14_scan_204 rfl (lv_at hl 2 rfl) ?_
                                  refine lv_bipush (v := 6) hx hb dX14_scan_205 (by decide) ?_
                                  refine lv_iadd hx hb dX14_scan_207 ?_
                                  refine lv_topi (fun y_920 ey_920 => ?_)
                                  obtain rfl : y_906 = y_920 := ey_906.trans ey_920.symm
                                  refine lv_iload_n hx hb dX14_scan_208 rfl (lv_at hl 0 rfl) ?_
                                  refine g_calll (va_runV (As := [.int y_906, .int v77_3]) (rest := [.ref a0_]) ⟨hx, hb, hml, hown, hts⟩ (r_X14_letters l dC dI L kd tys f H.size g.2.2.2.1 a0_ ma0_ ka0_ y_906 (bd_sub b_910 (by decide)) v77_3 (bd_sub b_912 (by decide))) (cwV 2 hts (gV_ t_2381 t_2383 t_95 t_198 t_2384) rfl rfl rfl (by decide +kernel) ⟨(Nat.le_of_ble_eq_true rfl), (Nat.le_of_ble_eq_true rfl)⟩) (pre3V g hK ma0_ ka0_ (by decide) (q := (RX14, TX14, 67)) rfl) rfl rfl hl.1 rfl (lv_room (Nat.le_of_ble_eq_true rfl)) dX14_scan_209 ⟨(Nat.le_of_ble_eq_true rfl), (Nat.le_of_ble_eq_true rfl)⟩) g hK (by decide) (by decide) (fx' := [(14, 12, a0_, .long g186_14_12_a0_), (14, 6, a0_, .int g161_14_6_a0_), (14, 7, a0_, .int g161_14_7_a0_), (14, 9, a0_, .int v77_3), (14, 10, a0_, .int y_14), (14, 5, a0_, .int x_7), (14, 8, a0_, .int j31_1)]) rfl (fun r_921 fr_921 H locs hp hMr_921 g => ?_)
                                  refine lv_goto (tgt := 216) hx hb dX14_scan_212 (by decide) ?_
                                  refine g_put (C := RX14) (T := TX14) (N := 67) hx hb hts (mc_ inX14) tyX14 tyX14_ok nmX14 hown hK g ma0_ ka0_ (by decide) rfl 13 (by decide) (hts _ (List.mem_cons_of_mem _ t_2159)) (fun _ h9 => h9) rfl rfl okV_l rfl rfl (by decide) (Or.inr (Or.inl (by decide))) (fx' := [(14, 12, a0_, .long g186_14_12_a0_), (14, 6, a0_, .int g161_14_6_a0_), (14, 7, a0_, .int g161_14_7_a0_), (14, 9, a0_, .int v77_3), (14, 10, a0_, .int y_14), (14, 5, a0_, .int x_7), (14, 8, a0_, .int j31_1)]) rfl dX14_scan_216 (fun f H locs hM_922 g => ?_)
                                  refine lv_goto (tgt := 324) hx hb dX14_scan_219 (by decide) ?_
                                  subst hQ
                                  exact W.vret hx hb hr (fun t ht hW => ⟨⟨_, rfl, ⟨y_14, (bd_sub b_15 (by decide)), (g.fcts [5] rfl)⟩, q3_of g hK ht hW⟩, g.2.2.1.F ht⟩) g.2.2.1.2.2 dX14_scan_324
                            refine lv_aload_n hx hb dX14_scan_161 rfl (lv_at hl 3 rfl) ?_
                            refine lv_aload_n hx hb dX14_scan_162 rfl (lv_at hl 3 rfl) ?_
                            refine lv_iload_n hx hb dX14_scan_163 rfl (lv_at hl 2 rfl) ?_
                            refine lv_iload_n hx hb dX14_scan_164 rfl (lv_at hl 0 rfl) ?_
                            refine lv_iload_n hx hb dX14_scan_165 rfl (lv_at hl 2 rfl) ?_
                            refine lv_bipush (v := 6) hx hb dX14_scan_166 (by decide) ?_
                            have kb_6 : bd 6 6 (6 : Int32) := ⟨by decide, by decide⟩
                            refine lv_iadd hx hb dX14_scan_168 ?_
                            refine lv_topi (fun y_923 ey_923 => ?_)
                            have ty_923 := add_bd ey_923 b_12 kb_6 (by decide)
                            have b_924 : bd 6 4005 y_923 := add_rg ty_923 b_12 kb_6 (by decide)
                            refine lv_icmp_ge (tgt := 176) hx hb dX14_scan_169 (by decide) (fun c_925 => ?_) (fun c_925 => ?_)
                            · have fc_925 := le_f c_925
                              have b_926 : bd 6 3999 y_923 := leL fc_925 b_924 b_531 (by decide)
                              have b_927 : bd 0 3993 j31_1 := add_inv ty_923 b_926 b_12 kb_6 (by decide)
                              have b_928 : bd 6 3999 v77_3 := leR fc_925 b_924 b_531 (by decide)
                              refine lv_iload_n hx hb dX14_scan_176 rfl (lv_at hl 2 rfl) ?_
                              refine lv_bipush (v := 6) hx hb dX14_scan_177 (by decide) ?_
                              refine lv_iadd hx hb dX14_scan_179 ?_
                              refine lv_topi (fun y_929 ey_929 => ?_)
                              obtain rfl : y_923 = y_929 := ey_923.trans ey_929.symm
                              refine g_calll (va_runV (As := [.int j31_1, .int y_923]) (rest := [.ref a0_]) ⟨hx, hb, hml, hown, hts⟩ (r_X14_letters l dC dI L kd tys f H.size g.2.2.2.1 a0_ ma0_ ka0_ j31_1 (bd_sub b_927 (by decide)) y_923 (bd_sub b_926 (by decide))) (cwV 2 hts (gV_ t_2381 t_2383 t_95 t_198 t_2384) rfl rfl rfl (by decide +kernel) ⟨(Nat.le_of_ble_eq_true rfl), (Nat.le_of_ble_eq_true rfl)⟩) (pre3V g hK ma0_ ka0_ (by decide) (q := (RX14, TX14, 67)) rfl) rfl rfl hl.1 rfl (lv_room (Nat.le_of_ble_eq_true rfl)) dX14_scan_180 ⟨(Nat.le_of_ble_eq_true rfl), (Nat.le_of_ble_eq_true rfl)⟩) g hK (by decide) (by decide) (fx' := [(14, 6, a0_, .int g161_14_6_a0_), (14, 7, a0_, .int g161_14_7_a0_), (14, 9, a0_, .int v77_3), (14, 10, a0_, .int y_14), (14, 5, a0_, .int x_7), (14, 8, a0_, .int j31_1)]) rfl (fun r_930 fr_930 H locs hp hMr_930 g => ?_)
                              refine g_put (C := RX14) (T := TX14) (N := 67) hx hb hts (mc_ inX14) tyX14 tyX14_ok nmX14 hown hK g ma0_ ka0_ (by decide) rfl 12 (by decide) (hts _ (List.mem_cons_of_mem _ t_2158)) (fun _ h9 => h9) rfl rfl okV_l rfl rfl (by decide) (Or.inr (Or.inl (by decide))) (fx' := [(14, 6, a0_, .int g161_14_6_a0_), (14, 7, a0_, .int g161_14_7_a0_), (14, 9, a0_, .int v77_3), (14, 10, a0_, .int y_14), (14, 5, a0_, .int x_7), (14, 8, a0_, .int j31_1)]) rfl dX14_scan_183 (fun f H locs hM_931 g => ?_)
                              have hl9 := lv_sub hl [0, 1, 2, 3] (by rfl : lv_pick [(3, .int v77_3), (2, .int r_3), (1, .int j31_1), (0, .ref a0_)] [0, 1, 2, 3] = [(3, .int v77_3), (2, .int r_3), (1, .int j31_1), (0, .ref a0_)])
                              have g9 := g.sub (fx' := [(14, 12, a0_, .long r_930), (14, 6, a0_, .int g161_14_6_a0_), (14, 7, a0_, .int g161_14_7_a0_), (14, 9, a0_, .int v77_3), (14, 10, a0_, .int y_14), (14, 5, a0_, .int x_7), (14, 8, a0_, .int j31_1)]) [0, 1, 2, 3, 4, 5, 6] rfl
                              exact join_905 r_930 _ _ _ _  g9  hl9
                            · have fc_925 := nle_f c_925
                              refine lv_iload_n hx hb dX14_scan_172 rfl (lv_at hl 0 rfl) ?_
                              refine lv_goto (tgt := 180) hx hb dX14_scan_173 (by decide) ?_
                              refine g_calll (va_runV (As := [.int j31_1, .int v77_3]) (rest := [.ref a0_]) ⟨hx, hb, hml, hown, hts⟩ (r_X14_letters l dC dI L kd tys f H.size g.2.2.2.1 a0_ ma0_ ka0_ j31_1 (bd_sub b_12 (by decide)) v77_3 (bd_sub b_531 (by decide))) (cwV 2 hts (gV_ t_2381 t_2383 t_95 t_198 t_2384) rfl rfl rfl (by decide +kernel) ⟨(Nat.le_of_ble_eq_true rfl), (Nat.le_of_ble_eq_true rfl)⟩) (pre3V g hK ma0_ ka0_ (by decide) (q := (RX14, TX14, 67)) rfl) rfl rfl hl.1 rfl (lv_room (Nat.le_of_ble_eq_true rfl)) dX14_scan_180 ⟨(Nat.le_of_ble_eq_true rfl), (Nat.le_of_ble_eq_true rfl)⟩) g hK (by decide) (by decide) (fx' := [(14, 6, a0_, .int g161_14_6_a0_), (14, 7, a0_, .int g161_14_7_a0_), (14, 9, a0_, .int v77_3), (14, 10, a0_, .int y_14), (14, 5, a0_, .int x_7), (14, 8, a0_, .int j31_1)]) rfl (fun r_932 fr_932 H locs hp hMr_932 g => ?_)
                              refine g_put (C := RX14) (T := TX14) (N := 67) hx hb hts (mc_ inX14) tyX14 tyX14_ok nmX14 hown hK g ma0_ ka0_ (by decide) rfl 12 (by decide) (hts _ (List.mem_cons_of_mem _ t_2158)) (fun _ h9 => h9) rfl rfl okV_l rfl rfl (by decide) (Or.inr (Or.inl (by decide))) (fx' := [(14, 6, a0_, .int g161_14_6_a0_), (14, 7, a0_, .int g161_14_7_a0_), (14, 9, a0_, .int v77_3), (14, 10, a0_, .int y_14), (14, 5, a0_, .int x_7), (14, 8, a0_, .int j31_1)]) rfl dX14_scan_183 (fun f H locs hM_933 g => ?_)
                              have hl9 := lv_sub hl [0, 1, 2, 3] (by rfl : lv_pick [(3, .int v77_3), (2, .int r_3), (1, .int j31_1), (0, .ref a0_)] [0, 1, 2, 3] = [(3, .int v77_3), (2, .int r_3), (1, .int j31_1), (0, .ref a0_)])
                              have g9 := g.sub (fx' := [(14, 12, a0_, .long r_932), (14, 6, a0_, .int g161_14_6_a0_), (14, 7, a0_, .int g161_14_7_a0_), (14, 9, a0_, .int v77_3), (14, 10, a0_, .int y_14), (14, 5, a0_, .int x_7), (14, 8, a0_, .int j31_1)]) [0, 1, 2, 3, 4, 5, 6] rfl
                              exact join_905 r_932 _ _ _ _  g9  hl9
                          refine lv_aload_n hx hb dX14_scan_115 rfl (lv_at hl 3 rfl) ?_
                          refine lv_iload_n hx hb dX14_scan_116 rfl (lv_at hl 0 rfl) ?_
                          refine g_put (C := RX14) (T := TX14) (N := 67) hx hb hts (mc_ inX14) tyX14 tyX14_ok nmX14 hown hK g ma0_ ka0_ (by decide) rfl 9 (by decide) (hts _ (List.mem_cons_of_mem _ t_2155)) (fun _ h9 => h9) rfl rfl (okV_i (bd_sub b_531 (by decide))) rfl rfl (by decide) (Or.inr (Or.inl (by decide))) (fx' := [(14, 10, a0_, .int y_14), (14, 5, a0_, .int x_7), (14, 8, a0_, .int j31_1)]) rfl dX14_scan_117 (fun f H locs hM_934 g => ?_)
                          refine lv_aload_n hx hb dX14_scan_120 rfl (lv_at hl 3 rfl) ?_
                          refine lv_aload_n hx hb dX14_scan_121 rfl (lv_at hl 3 rfl) ?_
                          refine lv_iload_n hx hb dX14_scan_122 rfl (lv_at hl 2 rfl) ?_
                          refine lv_iload_n hx hb dX14_scan_123 rfl (lv_at hl 0 rfl) ?_
                          refine lv_iload_n hx hb dX14_scan_124 rfl (lv_at hl 2 rfl) ?_
                          refine lv_isub hx hb dX14_scan_125 ?_
                          refine lv_topi (fun y_935 ey_935 => ?_)
                          have ty_935 := sub_bd ey_935 b_531 b_12 (by decide)
                          have b_936 : bd (-3999) 3999 y_935 := sub_rg ty_935 b_531 b_12 (by decide)
                          refine g_calli (va_runV (As := [.int j31_1, .int y_935]) (rest := [.ref a0_]) ⟨hx, hb, hml, hown, hts⟩ (r_X14_keyAt l dC dI L kd tys f H.size g.2.2.2.1 adK adV a0_ ma0_ ka0_ j31_1 b_12 y_935 (bd_sub b_936 (by decide))) (cwV 2 hts (gV_ t_2374 t_2376 t_94 t_198 t_2377) rfl rfl rfl (by decide +kernel) ⟨(Nat.le_of_ble_eq_true rfl), (Nat.le_of_ble_eq_true rfl)⟩) (pre3VA g hK hAm ma0_ ka0_ (by decide) (q := (RX14, TX14, 67)) rfl) rfl rfl hl.1 rfl (lv_room (Nat.le_of_ble_eq_true rfl)) dX14_scan_126 ⟨(Nat.le_of_ble_eq_true rfl), (Nat.le_of_ble_eq_true rfl)⟩) g hK (by decide) (by decide) (fx' := [(14, 9, a0_, .int v77_3), (14, 10, a0_, .int y_14), (14, 5, a0_, .int x_7), (14, 8, a0_, .int j31_1)]) rfl (fun r_937 fr_937 H locs hp hMr_937 g => ?_)
                          refine g_put (C := RX14) (T := TX14) (N := 67) hx hb hts (mc_ inX14) tyX14 tyX14_ok nmX14 hown hK g ma0_ ka0_ (by decide) rfl 7 (by decide) (hts _ (List.mem_cons_of_mem _ t_2153)) (fun _ h9 => h9) rfl rfl (okV_i (bdT r_937)) rfl rfl (by decide) (Or.inr (Or.inl (by decide))) (fx' := [(14, 9, a0_, .int v77_3), (14, 10, a0_, .int y_14), (14, 5, a0_, .int x_7), (14, 8, a0_, .int j31_1)]) rfl dX14_scan_129 (fun f H locs hM_938 g => ?_)
                          refine lv_aload_n hx hb dX14_scan_132 rfl (lv_at hl 3 rfl) ?_
                          refine lv_aload_n hx hb dX14_scan_133 rfl (lv_at hl 3 rfl) ?_
                          refine g_getk (C := RX14) (T := TX14) (N := 67) hx hb hts (mc_ inX14) hown hK g rfl 7 (by decide) rfl (hts _ (List.mem_cons_of_mem _ t_2153)) (fun _ h9 => h9) 0 rfl dX14_scan_134 ?_
                          refine lv_iconst (v := (-1)) hx hb dX14_scan_137 (by decide) ?_
                          refine lv_icmp_eq (tgt := 145) hx hb dX14_scan_138 (by decide) (fun c_939 => ?_) (fun c_939 => ?_)
                          · have fc_939 := eq_f c_939
                            have b_940 : bd (-1) (-1) r_937 := eqX fc_939 (bdT r_937) kb_m1 (by decide)
                            refine lv_iload_n hx hb dX14_scan_145 rfl (lv_at hl 0 rfl) ?_
                            refine lv_iload_n hx hb dX14_scan_146 rfl (lv_at hl 2 rfl) ?_
                            refine lv_isub hx hb dX14_scan_147 ?_
                            refine lv_topi (fun y_941 ey_941 => ?_)
                            obtain rfl : y_935 = y_941 := ey_935.trans ey_941.symm
                            refine lv_bipush (v := 12) hx hb dX14_scan_148 (by decide) ?_
                            have kb_12 : bd 12 12 (12 : Int32) := ⟨by decide, by decide⟩
                            refine lv_icmp_le (tgt := 157) hx hb dX14_scan_150 (by decide) (fun c_942 => ?_) (fun c_942 => ?_)
                            · have fc_942 := le_f c_942
                              have b_943 : bd (-3999) 12 y_935 := leL fc_942 b_936 kb_12 (by decide)
                              refine lv_iconst (v := 1) hx hb dX14_scan_157 (by decide) ?_
                              refine g_put (C := RX14) (T := TX14) (N := 67) hx hb hts (mc_ inX14) tyX14 tyX14_ok nmX14 hown hK g ma0_ ka0_ (by decide) rfl 6 (by decide) (hts _ (List.mem_cons_of_mem _ t_2152)) (fun _ h9 => h9) rfl rfl (okV_i (bd_sub kb_1 (by decide))) rfl rfl (by decide) (Or.inr (Or.inl (by decide))) (fx' := [(14, 7, a0_, .int r_937), (14, 9, a0_, .int v77_3), (14, 10, a0_, .int y_14), (14, 5, a0_, .int x_7), (14, 8, a0_, .int j31_1)]) rfl dX14_scan_158 (fun f H locs hM_944 g => ?_)
                              have hl9 := lv_sub hl [0, 1, 2, 3] (by rfl : lv_pick [(3, .int v77_3), (2, .int r_3), (1, .int j31_1), (0, .ref a0_)] [0, 1, 2, 3] = [(3, .int v77_3), (2, .int r_3), (1, .int j31_1), (0, .ref a0_)])
                              have g9 := g.sub (fx' := [(14, 6, a0_, .int 1), (14, 7, a0_, .int r_937), (14, 9, a0_, .int v77_3), (14, 10, a0_, .int y_14), (14, 5, a0_, .int x_7), (14, 8, a0_, .int j31_1)]) [0, 1, 2, 3, 4, 5] rfl
                              exact join_904 1 r_937 _ _ _ _ (bd_sub kb_1 (by decide)) g9  hl9
                            · have fc_942 := nle_f c_942
                              have b_945 : bd 13 3999 y_935 := ltR fc_942 kb_12 b_936 (by decide)
                              refine lv_iconst (v := 0) hx hb dX14_scan_153 (by decide) ?_
                              refine lv_goto (tgt := 158) hx hb dX14_scan_154 (by decide) ?_
                              have kb_0 : bd 0 0 (0 : Int32) := ⟨by decide, by decide⟩
                              refine g_put (C := RX14) (T := TX14) (N := 67) hx hb hts (mc_ inX14) tyX14 tyX14_ok nmX14 hown hK g ma0_ ka0_ (by decide) rfl 6 (by decide) (hts _ (List.mem_cons_of_mem _ t_2152)) (fun _ h9 => h9) rfl rfl (okV_i (bd_sub kb_0 (by decide))) rfl rfl (by decide) (Or.inr (Or.inl (by decide))) (fx' := [(14, 7, a0_, .int r_937), (14, 9, a0_, .int v77_3), (14, 10, a0_, .int y_14), (14, 5, a0_, .int x_7), (14, 8, a0_, .int j31_1)]) rfl dX14_scan_158 (fun f H locs hM_946 g => ?_)
                              have hl9 := lv_sub hl [0, 1, 2, 3] (by rfl : lv_pick [(3, .int v77_3), (2, .int r_3), (1, .int j31_1), (0, .ref a0_)] [0, 1, 2, 3] = [(3, .int v77_3), (2, .int r_3), (1, .int j31_1), (0, .ref a0_)])
                              have g9 := g.sub (fx' := [(14, 6, a0_, .int 0), (14, 7, a0_, .int r_937), (14, 9, a0_, .int v77_3), (14, 10, a0_, .int y_14), (14, 5, a0_, .int x_7), (14, 8, a0_, .int j31_1)]) [0, 1, 2, 3, 4, 5] rfl
                              exact join_904 0 r_937 _ _ _ _ (bd_sub kb_0 (by decide)) g9  hl9
                          · have fc_939 := neq_f c_939
                            refine lv_iconst (v := 2) hx hb dX14_scan_141 (by decide) ?_
                            refine lv_goto (tgt := 158) hx hb dX14_scan_142 (by decide) ?_
                            have kb_2 : bd 2 2 (2 : Int32) := ⟨by decide, by decide⟩
                            refine g_put (C := RX14) (T := TX14) (N := 67) hx hb hts (mc_ inX14) tyX14 tyX14_ok nmX14 hown hK g ma0_ ka0_ (by decide) rfl 6 (by decide) (hts _ (List.mem_cons_of_mem _ t_2152)) (fun _ h9 => h9) rfl rfl (okV_i (bd_sub kb_2 (by decide))) rfl rfl (by decide) (Or.inr (Or.inl (by decide))) (fx' := [(14, 7, a0_, .int r_937), (14, 9, a0_, .int v77_3), (14, 10, a0_, .int y_14), (14, 5, a0_, .int x_7), (14, 8, a0_, .int j31_1)]) rfl dX14_scan_158 (fun f H locs hM_947 g => ?_)
                            have hl9 := lv_sub hl [0, 1, 2, 3] (by rfl : lv_pick [(3, .int v77_3), (2, .int r_3), (1, .int j31_1), (0, .ref a0_)] [0, 1, 2, 3] = [(3, .int v77_3), (2, .int r_3), (1, .int j31_1), (0, .ref a0_)])
                            have g9 := g.sub (fx' := [(14, 6, a0_, .int 2), (14, 7, a0_, .int r_937), (14, 9, a0_, .int v77_3), (14, 10, a0_, .int y_14), (14, 5, a0_, .int x_7), (14, 8, a0_, .int j31_1)]) [0, 1, 2, 3, 4, 5] rfl
                            exact join_904 2 r_937 _ _ _ _ (bd_sub kb_2 (by decide)) g9  hl9
                        · have fc_903 := eq_f c_903
                          have b_948 : bd 95 95 r_752 := eqX fc_903 h_754 kb_95 (by decide)
                          obtain ⟨y_949, ey_949⟩ : ∃ z : Int32, z = v77_3 + 1 := ⟨_, rfl⟩
                          refine lv_iinc (v := y_949) (lv' := [(3, .int y_949), (2, .int r_3), (1, .int j31_1), (0, .ref a0_)]) hx hb dX14_scan_109 hl (k := 0) rfl (by rw [ey_949]; rfl) (by decide) rfl (fun ls hl => ?_)
                          have ty_949 := add_bd ey_949 b_531 kb_1 (by decide)
                          have b_950 : bd 1 4000 y_949 := add_rg ty_949 b_531 kb_1 (by decide)
                          refine lv_goto (tgt := 77) hx hb dX14_scan_112 (by decide) ?_
                          have hl9 := lv_sub hl [0, 1, 2, 3] (by rfl : lv_pick [(3, .int y_949), (2, .int r_3), (1, .int j31_1), (0, .ref a0_)] [0, 1, 2, 3] = [(3, .int y_949), (2, .int r_3), (1, .int j31_1), (0, .ref a0_)])
                          have g9 := g.sub (fx' := [(14, 10, a0_, .int y_14), (14, 5, a0_, .int x_7), (14, 8, a0_, .int j31_1), (14, 9, a0_, .int g31_14_9_a0_)]) [0, 1, 2, 3] rfl
                          exact ih77  y_949 (bd_sub b_950 (by decide)) (by have h9_0 := b_950; unfold bd at h9_0; have h9_1 := bv77_3; unfold bd at h9_1; have h9_2 := kb_1; unfold bd at h9_2; have h9_3 := kb_95; unfold bd at h9_3; have h9_4 := kb_m1; unfold bd at h9_4; omega) _ _ _ _ g9  hl9
                    · obtain rfl : r_748 = 1 := h_750
                      have b_951 : bd 48 57 r_537 := eqX rfl h_539 h_751 (by decide)
                      refine lv_if_ne (tgt := 109) hx hb dX14_scan_96 (by decide) (fun c_ => ?_) (fun c_ => absurd c_ (by decide))
                      obtain ⟨y_952, ey_952⟩ : ∃ z : Int32, z = v77_3 + 1 := ⟨_, rfl⟩
                      refine lv_iinc (v := y_952) (lv' := [(3, .int y_952), (2, .int r_3), (1, .int j31_1), (0, .ref a0_)]) hx hb dX14_scan_109 hl (k := 0) rfl (by rw [ey_952]; rfl) (by decide) rfl (fun ls hl => ?_)
                      have ty_952 := add_bd ey_952 b_531 kb_1 (by decide)
                      have b_953 : bd 1 4000 y_952 := add_rg ty_952 b_531 kb_1 (by decide)
                      refine lv_goto (tgt := 77) hx hb dX14_scan_112 (by decide) ?_
                      have hl9 := lv_sub hl [0, 1, 2, 3] (by rfl : lv_pick [(3, .int y_952), (2, .int r_3), (1, .int j31_1), (0, .ref a0_)] [0, 1, 2, 3] = [(3, .int y_952), (2, .int r_3), (1, .int j31_1), (0, .ref a0_)])
                      have g9 := g.sub (fx' := [(14, 10, a0_, .int y_14), (14, 5, a0_, .int x_7), (14, 8, a0_, .int j31_1), (14, 9, a0_, .int g31_14_9_a0_)]) [0, 1, 2, 3] rfl
                      exact ih77  y_952 (bd_sub b_953 (by decide)) (by have h9_0 := b_953; unfold bd at h9_0; have h9_1 := bv77_3; unfold bd at h9_1; have h9_2 := kb_1; unfold bd at h9_2; have h9_3 := kb_m1; unfold bd at h9_3; omega) _ _ _ _ g9  hl9
                · obtain rfl : r_533 = 1 := h_535
                  have b_954 : bd 97 122 r_101 := eqX rfl h_103 h_536 (by decide)
                  refine lv_if_ne (tgt := 109) hx hb dX14_scan_85 (by decide) (fun c_ => ?_) (fun c_ => absurd c_ (by decide))
                  obtain ⟨y_955, ey_955⟩ : ∃ z : Int32, z = v77_3 + 1 := ⟨_, rfl⟩
                  refine lv_iinc (v := y_955) (lv' := [(3, .int y_955), (2, .int r_3), (1, .int j31_1), (0, .ref a0_)]) hx hb dX14_scan_109 hl (k := 0) rfl (by rw [ey_955]; rfl) (by decide) rfl (fun ls hl => ?_)
                  have ty_955 := add_bd ey_955 b_531 kb_1 (by decide)
                  have b_956 : bd 1 4000 y_955 := add_rg ty_955 b_531 kb_1 (by decide)
                  refine lv_goto (tgt := 77) hx hb dX14_scan_112 (by decide) ?_
                  have hl9 := lv_sub hl [0, 1, 2, 3] (by rfl : lv_pick [(3, .int y_955), (2, .int r_3), (1, .int j31_1), (0, .ref a0_)] [0, 1, 2, 3] = [(3, .int y_955), (2, .int r_3), (1, .int j31_1), (0, .ref a0_)])
                  have g9 := g.sub (fx' := [(14, 10, a0_, .int y_14), (14, 5, a0_, .int x_7), (14, 8, a0_, .int j31_1), (14, 9, a0_, .int g31_14_9_a0_)]) [0, 1, 2, 3] rfl
                  exact ih77  y_955 (bd_sub b_956 (by decide)) (by have h9_0 := b_956; unfold bd at h9_0; have h9_1 := bv77_3; unfold bd at h9_1; have h9_2 := kb_1; unfold bd at h9_2; have h9_3 := kb_m1; unfold bd at h9_3; omega) _ _ _ _ g9  hl9
          have hl9 := lv_sub hl [0, 1, 2, 3] (by rfl : lv_pick [(3, .int j31_1), (2, .int r_3), (1, .int j31_1), (0, .ref a0_)] [0, 1, 2, 3] = [(3, .int j31_1), (2, .int r_3), (1, .int j31_1), (0, .ref a0_)])
          have g9 := g.sub (fx' := [(14, 10, a0_, .int y_14), (14, 5, a0_, .int x_7), (14, 8, a0_, .int j31_1), (14, 9, a0_, .int g31_14_9_a0_)]) [0, 1, 2, 3] rfl
          exact loop_100 (8003) j31_1 (bd_sub b_12 (by decide)) (by have h9_0 := b_12; unfold bd at h9_0; have h9_1 := kb_1; unfold bd at h9_1; have h9_2 := kb_m1; unfold bd at h9_2; omega) _ _ _ _ g9  hl9
      · have fc_13 := eq_f c_13
        have b_957 : bd 0 (-1) r_3 := eqX fc_13 h_5 kb_m1 (by decide)
        exact bd_no b_957 (by decide)
  refine lv_aload_n hx hb dX14_scan_0 rfl (lv_at hl 0 rfl) ?_
  refine g_geti (C := RX14) (T := TX14) (N := 67) hx hb hts (mc_ inX14) hown hK g ma0_ ka0_ (by decide) rfl 9 (by decide) rfl (hts _ (List.mem_cons_of_mem _ t_2155)) (fun _ h9 => h9) rfl dX14_scan_1 (fun x_958 bx_958 g => ?_)
  refine lv_istore_n (lv' := [(1, .int x_958), (0, .ref a0_)]) hx hb dX14_scan_4 rfl hl (by decide) rfl (fun ls hl => ?_)
  have loop_959 : ∀ (n : Nat) (v5_1 : Int32), bd 0 8000 v5_1 → (8000 - v5_1.toInt < (n : Int)) → ∀ (f : Nat → va_E) (H : Heap) (locs : List Loc) (ls : Array Slot), G3 (dC, dI) L kd tys s f0 [(14, 6), (14, 7), (14, 8), (14, 9), (14, 10), (14, 11), (14, 12), (14, 13)] [] f H locs [(14, 9, a0_, .int x_958), (14, 10, a0_, .int y0_)] → lv_has ls 4 [(1, .int v5_1), (0, .ref a0_)] → W p l e ({ frames := 5, cells := 0, slots := 0, locals := 112 } : Room) s m [.ref a0_].toArray below meth c H locs 0 0 Q (F0 m 5 ls []) := by
    intro n5
    induction n5 with
    | zero =>
      intro v5_1 bv5_1 hm5 f H locs ls g  hl
      exact absurd hm5 (by have h9_v5_1 := bv5_1; unfold bd at h9_v5_1; omega)
    | succ n5 ih5 =>
      intro v5_1 bv5_1 hm5 f H locs ls g  hl
      refine lv_aload_n hx hb dX14_scan_5 rfl (lv_at hl 1 rfl) ?_
      refine lv_iload_n hx hb dX14_scan_6 rfl (lv_at hl 0 rfl) ?_
      refine g_calli (va_runV (As := [.int v5_1]) (rest := []) ⟨hx, hb, hml, hown, hts⟩ (r_X14_see l dC dI L kd tys f H.size g.2.2.2.1 a0_ ma0_ ka0_ v5_1 (bd_sub bv5_1 (by decide))) (cwV 1 hts (gV_ t_2364 t_2366 t_93 t_198 t_2367) rfl rfl rfl (by decide +kernel) ⟨(Nat.le_of_ble_eq_true rfl), (Nat.le_of_ble_eq_true rfl)⟩) (pre3V g hK ma0_ ka0_ (by decide) (q := (RX14, TX14, 67)) rfl) rfl rfl hl.1 rfl (lv_room (Nat.le_of_ble_eq_true rfl)) dX14_scan_7 ⟨(Nat.le_of_ble_eq_true rfl), (Nat.le_of_ble_eq_true rfl)⟩) g hK (by decide) (by decide) (fx' := [(14, 9, a0_, .int x_958), (14, 10, a0_, .int y0_)]) rfl (fun r_960 fr_960 H locs hp hMr_960 g => ?_)
      rcases hp with ⟨h_961, -⟩ | ⟨h_962, h_963, x_964, h_965, hF_966⟩
      · obtain rfl : r_960 = (-1) := h_961
        refine lv_bipush (v := 32) hx hb dX14_scan_10 (by decide) ?_
        refine lv_icmp_eq (tgt := 25) hx hb dX14_scan_12 (by decide) (fun c_ => absurd c_ (by decide)) (fun c_ => ?_)
        refine lv_aload_n hx hb dX14_scan_15 rfl (lv_at hl 1 rfl) ?_
        refine lv_iload_n hx hb dX14_scan_16 rfl (lv_at hl 0 rfl) ?_
        refine g_calli (va_runV (As := [.int v5_1]) (rest := []) ⟨hx, hb, hml, hown, hts⟩ (r_X14_see l dC dI L kd tys fr_960 H.size g.2.2.2.1 a0_ ma0_ ka0_ v5_1 (bd_sub bv5_1 (by decide))) (cwV 1 hts (gV_ t_2364 t_2366 t_93 t_198 t_2367) rfl rfl rfl (by decide +kernel) ⟨(Nat.le_of_ble_eq_true rfl), (Nat.le_of_ble_eq_true rfl)⟩) (pre3V g hK ma0_ ka0_ (by decide) (q := (RX14, TX14, 67)) rfl) rfl rfl hl.1 rfl (lv_room (Nat.le_of_ble_eq_true rfl)) dX14_scan_17 ⟨(Nat.le_of_ble_eq_true rfl), (Nat.le_of_ble_eq_true rfl)⟩) g hK (by decide) (by decide) (fx' := [(14, 9, a0_, .int x_958), (14, 10, a0_, .int y0_)]) rfl (fun r_967 fr_967 H locs hp hMr_967 g => ?_)
        rcases hp with ⟨h_968, -⟩ | ⟨h_969, h_970, x_971, h_972, hF_973⟩
        · obtain rfl : r_967 = (-1) := h_968
          refine lv_bipush (v := 10) hx hb dX14_scan_20 (by decide) ?_
          refine lv_icmp_ne (tgt := 31) hx hb dX14_scan_22 (by decide) (fun c_ => ?_) (fun c_ => absurd c_ (by decide))
          have hl9 := lv_sub hl [0, 1] (by rfl : lv_pick [(1, .int v5_1), (0, .ref a0_)] [0, 1] = [(1, .int v5_1), (0, .ref a0_)])
          have g9 := g.sub (fx' := [(14, 9, a0_, .int x_958), (14, 10, a0_, .int y0_)]) [0, 1] rfl
          exact join_1 v5_1 x_958 _ _ _ _ bv5_1 bx_958 g9  hl9
        · have b_974 : bd 0 3999 v5_1 := eqX rfl bv5_1 h_970 (by decide)
          have g := g.more hF_973
          refine lv_bipush (v := 10) hx hb dX14_scan_20 (by decide) ?_
          have kb_10 : bd 10 10 (10 : Int32) := ⟨by decide, by decide⟩
          refine lv_icmp_ne (tgt := 31) hx hb dX14_scan_22 (by decide) (fun c_975 => ?_) (fun c_975 => ?_)
          · have fc_975 := neq_f c_975
            have hl9 := lv_sub hl [0, 1] (by rfl : lv_pick [(1, .int v5_1), (0, .ref a0_)] [0, 1] = [(1, .int v5_1), (0, .ref a0_)])
            have g9 := g.sub (fx' := [(14, 9, a0_, .int x_958), (14, 10, a0_, .int y0_)]) [1, 2] rfl
            exact join_1 v5_1 x_958 _ _ _ _ (bd_sub b_974 (by decide)) bx_958 g9  hl9
          · have fc_975 := eq_f c_975
            have b_976 : bd 10 10 r_967 := eqX fc_975 h_969 kb_10 (by decide)
            have kb_1 : bd 1 1 (1 : Int32) := ⟨by decide, by decide⟩
            obtain ⟨y_977, ey_977⟩ : ∃ z : Int32, z = v5_1 + 1 := ⟨_, rfl⟩
            refine lv_iinc (v := y_977) (lv' := [(1, .int y_977), (0, .ref a0_)]) hx hb dX14_scan_25 hl (k := 0) rfl (by rw [ey_977]; rfl) (by decide) rfl (fun ls hl => ?_)
            have ty_977 := add_bd ey_977 b_974 kb_1 (by decide)
            have b_978 : bd 1 4000 y_977 := add_rg ty_977 b_974 kb_1 (by decide)
            refine lv_goto (tgt := 5) hx hb dX14_scan_28 (by decide) ?_
            have hl9 := lv_sub hl [0, 1] (by rfl : lv_pick [(1, .int y_977), (0, .ref a0_)] [0, 1] = [(1, .int y_977), (0, .ref a0_)])
            have g9 := g.sub (fx' := [(14, 9, a0_, .int x_958), (14, 10, a0_, .int y0_)]) [1, 2] rfl
            exact ih5  y_977 (bd_sub b_978 (by decide)) (by have h9_0 := b_978; unfold bd at h9_0; have h9_1 := bv5_1; unfold bd at h9_1; have h9_2 := kb_1; unfold bd at h9_2; have h9_3 := kb_10; unfold bd at h9_3; omega) _ _ _ _ g9  hl9
      · have b_979 : bd 0 3999 v5_1 := eqX rfl bv5_1 h_963 (by decide)
        have g := g.more hF_966
        refine lv_bipush (v := 32) hx hb dX14_scan_10 (by decide) ?_
        have kb_32 : bd 32 32 (32 : Int32) := ⟨by decide, by decide⟩
        refine lv_icmp_eq (tgt := 25) hx hb dX14_scan_12 (by decide) (fun c_980 => ?_) (fun c_980 => ?_)
        · have fc_980 := eq_f c_980
          have b_981 : bd 32 32 r_960 := eqX fc_980 h_962 kb_32 (by decide)
          have kb_1 : bd 1 1 (1 : Int32) := ⟨by decide, by decide⟩
          obtain ⟨y_982, ey_982⟩ : ∃ z : Int32, z = v5_1 + 1 := ⟨_, rfl⟩
          refine lv_iinc (v := y_982) (lv' := [(1, .int y_982), (0, .ref a0_)]) hx hb dX14_scan_25 hl (k := 0) rfl (by rw [ey_982]; rfl) (by decide) rfl (fun ls hl => ?_)
          have ty_982 := add_bd ey_982 b_979 kb_1 (by decide)
          have b_983 : bd 1 4000 y_982 := add_rg ty_982 b_979 kb_1 (by decide)
          refine lv_goto (tgt := 5) hx hb dX14_scan_28 (by decide) ?_
          have hl9 := lv_sub hl [0, 1] (by rfl : lv_pick [(1, .int y_982), (0, .ref a0_)] [0, 1] = [(1, .int y_982), (0, .ref a0_)])
          have g9 := g.sub (fx' := [(14, 9, a0_, .int x_958), (14, 10, a0_, .int y0_)]) [1, 2] rfl
          exact ih5  y_982 (bd_sub b_983 (by decide)) (by have h9_0 := b_983; unfold bd at h9_0; have h9_1 := bv5_1; unfold bd at h9_1; have h9_2 := kb_1; unfold bd at h9_2; have h9_3 := kb_32; unfold bd at h9_3; omega) _ _ _ _ g9  hl9
        · have fc_980 := neq_f c_980
          refine lv_aload_n hx hb dX14_scan_15 rfl (lv_at hl 1 rfl) ?_
          refine lv_iload_n hx hb dX14_scan_16 rfl (lv_at hl 0 rfl) ?_
          refine g_calli (va_runV (As := [.int v5_1]) (rest := []) ⟨hx, hb, hml, hown, hts⟩ (r_X14_see l dC dI L kd tys fr_960 H.size g.2.2.2.1 a0_ ma0_ ka0_ v5_1 (bd_sub b_979 (by decide))) (cwV 1 hts (gV_ t_2364 t_2366 t_93 t_198 t_2367) rfl rfl rfl (by decide +kernel) ⟨(Nat.le_of_ble_eq_true rfl), (Nat.le_of_ble_eq_true rfl)⟩) (pre3V g hK ma0_ ka0_ (by decide) (q := (RX14, TX14, 67)) rfl) rfl rfl hl.1 rfl (lv_room (Nat.le_of_ble_eq_true rfl)) dX14_scan_17 ⟨(Nat.le_of_ble_eq_true rfl), (Nat.le_of_ble_eq_true rfl)⟩) g hK (by decide) (by decide) (fx' := [(14, 5, a0_, .int x_964), (14, 9, a0_, .int x_958), (14, 10, a0_, .int y0_)]) rfl (fun r_984 fr_984 H locs hp hMr_984 g => ?_)
          rcases hp with ⟨h_985, -⟩ | ⟨h_986, h_987, x_988, h_989, hF_990⟩
          · obtain rfl : r_984 = (-1) := h_985
            refine lv_bipush (v := 10) hx hb dX14_scan_20 (by decide) ?_
            refine lv_icmp_ne (tgt := 31) hx hb dX14_scan_22 (by decide) (fun c_ => ?_) (fun c_ => absurd c_ (by decide))
            have hl9 := lv_sub hl [0, 1] (by rfl : lv_pick [(1, .int v5_1), (0, .ref a0_)] [0, 1] = [(1, .int v5_1), (0, .ref a0_)])
            have g9 := g.sub (fx' := [(14, 9, a0_, .int x_958), (14, 10, a0_, .int y0_)]) [1, 2] rfl
            exact join_1 v5_1 x_958 _ _ _ _ (bd_sub b_979 (by decide)) bx_958 g9  hl9
          · have g := g.more hF_990
            have e_991 := fx_same g 1 0 rfl rfl
            have g := g.sub (fx' := [(14, 5, a0_, .int x_964), (14, 9, a0_, .int x_958), (14, 10, a0_, .int y0_)]) [1, 2, 3] rfl
            refine lv_bipush (v := 10) hx hb dX14_scan_20 (by decide) ?_
            have kb_10 : bd 10 10 (10 : Int32) := ⟨by decide, by decide⟩
            refine lv_icmp_ne (tgt := 31) hx hb dX14_scan_22 (by decide) (fun c_992 => ?_) (fun c_992 => ?_)
            · have fc_992 := neq_f c_992
              have hl9 := lv_sub hl [0, 1] (by rfl : lv_pick [(1, .int v5_1), (0, .ref a0_)] [0, 1] = [(1, .int v5_1), (0, .ref a0_)])
              have g9 := g.sub (fx' := [(14, 9, a0_, .int x_958), (14, 10, a0_, .int y0_)]) [1, 2] rfl
              exact join_1 v5_1 x_958 _ _ _ _ (bd_sub b_979 (by decide)) bx_958 g9  hl9
            · have fc_992 := eq_f c_992
              have b_993 : bd 10 10 r_984 := eqX fc_992 h_986 kb_10 (by decide)
              have kb_1 : bd 1 1 (1 : Int32) := ⟨by decide, by decide⟩
              obtain ⟨y_994, ey_994⟩ : ∃ z : Int32, z = v5_1 + 1 := ⟨_, rfl⟩
              refine lv_iinc (v := y_994) (lv' := [(1, .int y_994), (0, .ref a0_)]) hx hb dX14_scan_25 hl (k := 0) rfl (by rw [ey_994]; rfl) (by decide) rfl (fun ls hl => ?_)
              have ty_994 := add_bd ey_994 b_979 kb_1 (by decide)
              have b_995 : bd 1 4000 y_994 := add_rg ty_994 b_979 kb_1 (by decide)
              refine lv_goto (tgt := 5) hx hb dX14_scan_28 (by decide) ?_
              have hl9 := lv_sub hl [0, 1] (by rfl : lv_pick [(1, .int y_994), (0, .ref a0_)] [0, 1] = [(1, .int y_994), (0, .ref a0_)])
              have g9 := g.sub (fx' := [(14, 9, a0_, .int x_958), (14, 10, a0_, .int y0_)]) [1, 2] rfl
              exact ih5  y_994 (bd_sub b_995 (by decide)) (by have h9_0 := b_995; unfold bd at h9_0; have h9_1 := bv5_1; unfold bd at h9_1; have h9_2 := kb_1; unfold bd at h9_2; have h9_3 := kb_10; unfold bd at h9_3; have h9_4 := kb_32; unfold bd at h9_4; omega) _ _ _ _ g9  hl9
  have hl9 := lv_sub hl [0, 1] (by rfl : lv_pick [(1, .int x_958), (0, .ref a0_)] [0, 1] = [(1, .int x_958), (0, .ref a0_)])
  have g9 := g.sub (fx' := [(14, 9, a0_, .int x_958), (14, 10, a0_, .int y0_)]) [0, 1] rfl
  exact loop_959 (16003) x_958 bx_958 (by have h9_0 := bx_958; unfold bd at h9_0; omega) _ _ _ _ g9  hl9
