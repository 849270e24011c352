set_option maxHeartbeats 4000000 in
set_option maxRecDepth 100000 in
theorem r_X14_word_2 (l : Launch) (dC : Nat → ClassId) (dI : Nat → Nat → Nat) (L : List Nat) (kd : Nat → Nat) (tys : List (ClassId × FieldType)) (f0 : Nat → va_E) (sz : Nat) (hWT : WT L kd tys f0) (adK adV : Nat → Nat) (a0_ : Nat) (ma0_ : a0_ ∈ L) (ka0_ : kd a0_ = 14) (x1_ : Int32) (t_ : Int32) (bt_ : bd 0 1201 t_) (hfx : Fs L kd f0 [(14, 10, a0_, .int t_)]) : MetE l yX14_word (.code yX14_word cX14_word 2 none :: lw_g) ({ frames := 7, cells := 0, slots := 0, locals := 155 }) (va_Pc [.ref a0_, .int x1_] (P3A (dC, dI) L tys f0 sz adK adV)) (q3E (dC, dI) L kd tys [(14, 6), (14, 7), (14, 8), (14, 9), (14, 10), (14, 11), (14, 12), (14, 13), (14, 14), (14, 15)] [] f0 sz (pRv (fun (f : Nat → va_E) => ((cF f0 a0_ + 1 ≤ cF f a0_) ∧ bd 0 1200 t_ ∧ ∃ z0_ : Int32, bd 0 1201 z0_ ∧ Fs L kd f [(14, 10, a0_, .int z0_)]))) (fun (f : Nat → va_E) => True)) 0 0 (pA L sz) := by
  refine MetE.ofW (cc := cX14_word) (maxL := 2) (ret := none) (by decide) rfl ?_
  intro p e s m args below meth c s₁ B hml hempty hv
  obtain ⟨rfl, ⟨hsz, hP, hK, hD0⟩, hAm⟩ := hv
  have hx := B.exec
  have hb := B.bytes
  have hr := B.returns
  have hts := atoms_spec (ws := (.code yX14_word cX14_word 2 none :: lw_g)) B.pre
  have hown : s.vm.findClass RX14 = some m.cls := findClass_of_methodNamed B.named
  have hlocks := B.notSynchronized
  subst hsz
  have g : G3 (dC, dI) L kd tys s f0 [(14, 6), (14, 7), (14, 8), (14, 9), (14, 10), (14, 11), (14, 12), (14, 13), (14, 14), (14, 15)] [] f0 s.heap [] [(14, 10, a0_, .int t_)] := G3.start hP hD0 hWT hfx
  have hl := lv_entry ([.ref a0_, .int x1_]) (n := 2) (Nat.le_of_ble_eq_true rfl)
  rw [lg_entry_eq]
  generalize (lg_sl ([.ref a0_, .int x1_]) ++ List.replicate (2 - (lg_sl ([.ref a0_, .int x1_])).length) Slot.unset).toArray = ls at hl ⊢
  have hl : lv_has ls 2 [(0, .ref a0_), (1, .int x1_)] := hl
  refine W_q (fun Q hQ => ?_)
  refine lv_aload_n hx hb dX14_word_0 rfl (lv_at hl 0 rfl) ?_
  refine lv_aload_n hx hb dX14_word_1 rfl (lv_at hl 0 rfl) ?_
  refine lv_iload_n hx hb dX14_word_2 rfl (lv_at hl 1 rfl) ?_
  have go_ := g
  refine g_calli (va_runV (As := [.int x1_]) (rest := [.ref a0_]) ⟨hx, hb, hml, hown, hts⟩ (r_X14_isWord l dC dI L kd tys f0 s.heap.size g.2.2.2.1 a0_ ma0_ ka0_ x1_) (cwV 1 hts (gV_ t_2399 t_2401 t_99 t_198 t_2402) rfl rfl rfl (by decide +kernel) ⟨(Nat.le_of_ble_eq_true rfl), (Nat.le_of_ble_eq_true rfl)⟩) (pre3V g hK ma0_ ka0_ (by decide) (q := (RX14, TX14, 67)) rfl) rfl rfl hl.1 rfl (lv_room (Nat.le_of_ble_eq_true rfl)) dX14_word_3 ⟨(Nat.le_of_ble_eq_true rfl), (Nat.le_of_ble_eq_true rfl)⟩) g hK (by decide) (by decide) (fx' := [(14, 10, a0_, .int t_)]) rfl (fun r_1 fr_1 H locs hp hMr_1 g => ?_)
  rcases hp with ⟨h_2, -⟩ | ⟨h_3, x_4, h_5, hF_6⟩
  · have hG_7 := cEq.frame hMr_1 go_.2.2.2.1 ma0_ ka0_ (by decide) (by decide) (rfl : cEq f0 a0_ (cF f0 a0_))
    have hG_8 := tEq.frame hMr_1 go_.2.2.2.1 ma0_ ka0_ (by decide) (by decide) (rfl : tEq f0 a0_ (tk f0 a0_))
    obtain rfl : r_1 = 0 := h_2
    refine lv_iconst (v := 1) hx hb dX14_word_6 (by decide) ?_
    refine lv_aload_n hx hb dX14_word_7 rfl (lv_at hl 0 rfl) ?_
    refine g_geti (C := RX14) (T := TX14) (N := 67) hx hb hts (mc_ inX14) hown hK g ma0_ ka0_ (by decide) rfl 8 (by decide) rfl (hts _ (List.mem_cons_of_mem _ t_2154)) (fun _ h9 => h9) rfl dX14_word_8 (fun x_9 bx_9 g => ?_)
    have kb_0 : bd 0 0 (0 : Int32) := ⟨by decide, by decide⟩
    have go_ := g
    refine g_callEv (As := [.int 0, .int 1, .int x_9]) (rest := []) ⟨hx, hb, hml, hown, hts⟩ (r_X14_need_2 l dC dI L kd tys fr_1 H.size g.2.2.2.1 a0_ ma0_ ka0_ 0 kb_0 1 x_9) (cwV 3 hts (gV_ t_2403 t_2405 t_100 t_198 t_2406) rfl rfl rfl (by decide +kernel) ⟨(Nat.le_of_ble_eq_true rfl), (Nat.le_of_ble_eq_true rfl)⟩) (pre3V g hK ma0_ ka0_ (by decide) (q := (RX14, TX14, 67)) rfl) rfl hl.1 rfl (lv_room (Nat.le_of_ble_eq_true rfl)) dX14_word_11 ⟨(Nat.le_of_ble_eq_true rfl), (Nat.le_of_ble_eq_true rfl)⟩ g hK (by decide) (by decide) (fx' := [(14, 8, a0_, .int x_9), (14, 10, a0_, .int t_)]) rfl (fun xr_10 fr_10 H locs mxr_10 kxr_10 hp hMr_10 g => ?_) (fun fr_10 H locs hp hMr_10 g => ?_)
    · have hG_11 := cEq.frame hMr_10 go_.2.2.2.1 ma0_ ka0_ (by decide) (by decide) hG_7
      have hG_12 := tEq.frame hMr_10 go_.2.2.2.1 ma0_ ka0_ (by decide) (by decide) hG_8
      subst hQ
      exact WX.leaves hempty hlocks (fun t ht hW => g_thrE g hK mxr_10 kxr_10 trivial ht hW) g.2.2.1.2.2
    · exact hp.elim
  · have hG_13 := cEq.frame hMr_1 go_.2.2.2.1 ma0_ ka0_ (by decide) (by decide) (rfl : cEq f0 a0_ (cF f0 a0_))
    have hG_14 := tEq.frame hMr_1 go_.2.2.2.1 ma0_ ka0_ (by decide) (by decide) (rfl : tEq f0 a0_ (tk f0 a0_))
    obtain rfl : r_1 = 1 := h_3
    have g := g.more hF_6
    refine lv_iconst (v := 1) hx hb dX14_word_6 (by decide) ?_
    refine lv_aload_n hx hb dX14_word_7 rfl (lv_at hl 0 rfl) ?_
    refine g_geti (C := RX14) (T := TX14) (N := 67) hx hb hts (mc_ inX14) hown hK g ma0_ ka0_ (by decide) rfl 8 (by decide) rfl (hts _ (List.mem_cons_of_mem _ t_2154)) (fun _ h9 => h9) rfl dX14_word_8 (fun x_15 bx_15 g => ?_)
    have hs_16 := sE_1 g 1 rfl (by have h9_0 := bt_; unfold bd at h9_0; have h9_1 := bx_15; unfold bd at h9_1; have h9_2 := h_5; unfold bd at h9_2; omega)
    have kb_1 : bd 1 1 (1 : Int32) := ⟨by decide, by decide⟩
    have go_ := g
    refine g_callEv (As := [.int 1, .int 1, .int x_15]) (rest := []) ⟨hx, hb, hml, hown, hts⟩ (r_X14_need_3 l dC dI L kd tys fr_1 H.size g.2.2.2.1 a0_ ma0_ ka0_ 1 kb_1 1 x_15) (cwV 3 hts (gV_ t_2403 t_2405 t_100 t_198 t_2406) rfl rfl rfl (by decide +kernel) ⟨(Nat.le_of_ble_eq_true rfl), (Nat.le_of_ble_eq_true rfl)⟩) (pre3V g hK ma0_ ka0_ (by decide) (q := (RX14, TX14, 67)) rfl) rfl hl.1 rfl (lv_room (Nat.le_of_ble_eq_true rfl)) dX14_word_11 ⟨(Nat.le_of_ble_eq_true rfl), (Nat.le_of_ble_eq_true rfl)⟩ g hK (by decide) (by decide) (fx' := [(14, 8, a0_, .int x_15), (14, 6, a0_, .int x_4), (14, 10, a0_, .int t_)]) rfl (fun xr_17 fr_17 H locs mxr_17 kxr_17 hp hMr_17 g => ?_) (fun fr_17 H locs hp hMr_17 g => ?_)
    · have hG_18 := cEq.frame hMr_17 go_.2.2.2.1 ma0_ ka0_ (by decide) (by decide) hG_13
      have hG_19 := tEq.frame hMr_17 go_.2.2.2.1 ma0_ ka0_ (by decide) (by decide) hG_14
      exact hp.elim
    · have hG_20 := cEq.frame hMr_17 go_.2.2.2.1 ma0_ ka0_ (by decide) (by decide) hG_13
      have hG_21 := tEq.frame hMr_17 go_.2.2.2.1 ma0_ ka0_ (by decide) (by decide) hG_14
      refine lv_aload_n hx hb dX14_word_14 rfl (lv_at hl 0 rfl) ?_
      have hs_22 := sE_1 g 1 rfl (by have h9_0 := bt_; unfold bd at h9_0; have h9_1 := bx_15; unfold bd at h9_1; have h9_2 := h_5; unfold bd at h9_2; have h8_0 := kb_1; unfold bd at h8_0; omega)
      have go_ := g
      refine g_callEv (As := []) (rest := []) ⟨hx, hb, hml, hown, hts⟩ (r_X14_next_2 l dC dI L kd tys fr_17 H.size g.2.2.2.1 adK adV a0_ ma0_ ka0_ t_ bt_ (g.fcts [2] rfl)) (cwV 0 hts (gV_ t_2411 t_2413 t_102 t_198 t_2414) rfl rfl rfl (by decide +kernel) ⟨(Nat.le_of_ble_eq_true rfl), (Nat.le_of_ble_eq_true rfl)⟩) (pre3VA g hK hAm ma0_ ka0_ (by decide) (q := (RX14, TX14, 67)) rfl) rfl hl.1 rfl (lv_room (Nat.le_of_ble_eq_true rfl)) dX14_word_15 ⟨(Nat.le_of_ble_eq_true rfl), (Nat.le_of_ble_eq_true rfl)⟩ g hK (by decide) (by decide) (fx' := []) rfl (fun xr_23 fr_23 H locs mxr_23 kxr_23 hp hMr_23 g => ?_) (fun fr_23 H locs hp hMr_23 g => ?_)
      · subst hQ
        exact WX.leaves hempty hlocks (fun t ht hW => g_thrE g hK mxr_23 kxr_23 trivial ht hW) g.2.2.1.2.2
      · obtain ⟨hx_24, h_25, x_26, h_27, hF_28⟩ := hp
        obtain ⟨E_29, hE_29⟩ : ∃ E : Int, cEq fr_23 a0_ E := ⟨_, rfl⟩
        have lE_29 : (cF f0 a0_) + 1 ≤ E_29 := by have h9 := hx_24; have h8 : cF _ _ = _ := hE_29; have h7 : cF _ _ = _ := hG_20; have h6 := hs_22; have h5 := tk_c (f := fr_17) (t := a0_); omega
        have b_30 : bd 0 1200 t_ := eqX rfl bt_ h_25 (by decide)
        have g := g.more hF_28
        subst hQ
        exact W.thenQ (W.vret hx hb hr (fun t ht hW => g_retE g hK ⟨rfl, ⟨(by have h9 : cF _ _ = _ := hE_29; omega), b_30, x_26, h_27, (g.fcts [0] rfl)⟩⟩ ht hW) g.2.2.1.2.2 dX14_word_18) (fun _ => MQ.toE)
set_option maxHeartbeats 4000000 in
set_option maxRecDepth 100000 in
theorem r_X14_numHere_2 (l : Launch) (dC : Nat → ClassId) (dI : Nat → Nat → Nat) (L : List Nat) (kd : Nat → Nat) (tys : List (ClassId × FieldType)) (f0 : Nat → va_E) (sz : Nat) (hWT : WT L kd tys f0) (adK adV : Nat → Nat) (a0_ : Nat) (ma0_ : a0_ ∈ L) (ka0_ : kd a0_ = 14) (t_ : Int32) (bt_ : bd 0 1201 t_) (hfx : Fs L kd f0 [(14, 10, a0_, .int t_)]) : MetE l yX14_numHere (.code yX14_numHere cX14_numHere 3 (some .int) :: lw_g) ({ frames := 7, cells := 0, slots := 0, locals := 155 }) (va_Pc [.ref a0_] (P3A (dC, dI) L tys f0 sz adK adV)) (q3E (dC, dI) L kd tys [(14, 6), (14, 7), (14, 8), (14, 9), (14, 10), (14, 11), (14, 12), (14, 13), (14, 14), (14, 15)] [] f0 sz (pRi (fun (r : Int32) (f : Nat → va_E) => ((cF f0 a0_ + 1 ≤ cF f a0_) ∧ bd 0 1200 t_ ∧ ∃ z0_ : Int32, bd 0 1201 z0_ ∧ Fs L kd f [(14, 10, a0_, .int z0_)]))) (fun (f : Nat → va_E) => True)) 0 0 (pA L sz) := by
  refine MetE.ofW (cc := cX14_numHere) (maxL := 3) (ret := (some .int)) (by decide) rfl ?_
  intro p e s m args below meth c s₁ B hml hempty hv
  obtain ⟨rfl, ⟨hsz, hP, hK, hD0⟩, hAm⟩ := hv
  have hx := B.exec
  have hb := B.bytes
  have hr := B.returns
  have hts := atoms_spec (ws := (.code yX14_numHere cX14_numHere 3 (some .int) :: lw_g)) B.pre
  have hown : s.vm.findClass RX14 = some m.cls := findClass_of_methodNamed B.named
  have hlocks := B.notSynchronized
  subst hsz
  have g : G3 (dC, dI) L kd tys s f0 [(14, 6), (14, 7), (14, 8), (14, 9), (14, 10), (14, 11), (14, 12), (14, 13), (14, 14), (14, 15)] [] f0 s.heap [] [(14, 10, a0_, .int t_)] := G3.start hP hD0 hWT hfx
  have hl := lv_entry ([.ref a0_]) (n := 3) (Nat.le_of_ble_eq_true rfl)
  rw [lg_entry_eq]
  generalize (lg_sl ([.ref a0_]) ++ List.replicate (3 - (lg_sl ([.ref a0_])).length) Slot.unset).toArray = ls at hl ⊢
  have hl : lv_has ls 3 [(0, .ref a0_)] := hl
  refine W_q (fun Q hQ => ?_)
  refine lv_aload_n hx hb dX14_numHere_0 rfl (lv_at hl 0 rfl) ?_
  refine lv_bipush (v := 45) hx hb dX14_numHere_1 (by decide) ?_
  have go_ := g
  refine g_calli (va_runV (As := [.int 45]) (rest := []) ⟨hx, hb, hml, hown, hts⟩ (r_X14_isSign l dC dI L kd tys f0 s.heap.size g.2.2.2.1 a0_ ma0_ ka0_ 45) (cwV 1 hts (gV_ t_2435 t_2437 t_108 t_198 t_2438) rfl rfl rfl (by decide +kernel) ⟨(Nat.le_of_ble_eq_true rfl), (Nat.le_of_ble_eq_true rfl)⟩) (pre3V g hK ma0_ ka0_ (by decide) (q := (RX14, TX14, 67)) rfl) rfl rfl hl.1 rfl (lv_room (Nat.le_of_ble_eq_true rfl)) dX14_numHere_3 ⟨(Nat.le_of_ble_eq_true rfl), (Nat.le_of_ble_eq_true rfl)⟩) g hK (by decide) (by decide) (fx' := [(14, 10, a0_, .int t_)]) rfl (fun r_1 fr_1 H locs hp hMr_1 g => ?_)
  rcases hp with ⟨h_2, -⟩ | ⟨h_3, x_4, h_5, hF_6⟩
  · have hG_7 := cEq.frame hMr_1 go_.2.2.2.1 ma0_ ka0_ (by decide) (by decide) (rfl : cEq f0 a0_ (cF f0 a0_))
    have hG_8 := tEq.frame hMr_1 go_.2.2.2.1 ma0_ ka0_ (by decide) (by decide) (rfl : tEq f0 a0_ (tk f0 a0_))
    obtain rfl : r_1 = 0 := h_2
    refine lv_istore_n (lv' := [(1, .int 0), (0, .ref a0_)]) hx hb dX14_numHere_6 rfl hl (by decide) rfl (fun ls hl => ?_)
    refine lv_iload_n hx hb dX14_numHere_7 rfl (lv_at hl 0 rfl) ?_
    refine lv_if_eq (tgt := 15) hx hb dX14_numHere_8 (by decide) (fun c_ => ?_) (fun c_ => absurd (by decide) c_)
    refine lv_aload_n hx hb dX14_numHere_15 rfl (lv_at hl 1 rfl) ?_
    refine lv_aload_n hx hb dX14_numHere_16 rfl (lv_at hl 1 rfl) ?_
    refine g_geti (C := RX14) (T := TX14) (N := 67) hx hb hts (mc_ inX14) hown hK g ma0_ ka0_ (by decide) rfl 6 (by decide) rfl (hts _ (List.mem_cons_of_mem _ t_2152)) (fun _ h9 => h9) rfl dX14_numHere_17 (fun x_9 bx_9 g => ?_)
    refine lv_iconst (v := 3) hx hb dX14_numHere_20 (by decide) ?_
    have kb_3 : bd 3 3 (3 : Int32) := ⟨by decide, by decide⟩
    refine lv_icmp_ne (tgt := 28) hx hb dX14_numHere_21 (by decide) (fun c_10 => ?_) (fun c_10 => ?_)
    · have fc_10 := neq_f c_10
      refine lv_iconst (v := 0) hx hb dX14_numHere_28 (by decide) ?_
      refine lv_iconst (v := 1) hx hb dX14_numHere_29 (by decide) ?_
      refine lv_aload_n hx hb dX14_numHere_30 rfl (lv_at hl 1 rfl) ?_
      refine g_geti (C := RX14) (T := TX14) (N := 67) hx hb hts (mc_ inX14) hown hK g ma0_ ka0_ (by decide) rfl 8 (by decide) rfl (hts _ (List.mem_cons_of_mem _ t_2154)) (fun _ h9 => h9) rfl dX14_numHere_31 (fun x_11 bx_11 g => ?_)
      have kb_0 : bd 0 0 (0 : Int32) := ⟨by decide, by decide⟩
      have go_ := g
      refine g_callEv (As := [.int 0, .int 1, .int x_11]) (rest := []) ⟨hx, hb, hml, hown, hts⟩ (r_X14_need_2 l dC dI L kd tys fr_1 H.size g.2.2.2.1 a0_ ma0_ ka0_ 0 kb_0 1 x_11) (cwV 3 hts (gV_ t_2403 t_2405 t_100 t_198 t_2406) rfl rfl rfl (by decide +kernel) ⟨(Nat.le_of_ble_eq_true rfl), (Nat.le_of_ble_eq_true rfl)⟩) (pre3V g hK ma0_ ka0_ (by decide) (q := (RX14, TX14, 67)) rfl) rfl hl.1 rfl (lv_room (Nat.le_of_ble_eq_true rfl)) dX14_numHere_34 ⟨(Nat.le_of_ble_eq_true rfl), (Nat.le_of_ble_eq_true rfl)⟩ g hK (by decide) (by decide) (fx' := [(14, 8, a0_, .int x_11), (14, 6, a0_, .int x_9), (14, 10, a0_, .int t_)]) rfl (fun xr_12 fr_12 H locs mxr_12 kxr_12 hp hMr_12 g => ?_) (fun fr_12 H locs hp hMr_12 g => ?_)
      · have hG_13 := cEq.frame hMr_12 go_.2.2.2.1 ma0_ ka0_ (by decide) (by decide) hG_7
        have hG_14 := tEq.frame hMr_12 go_.2.2.2.1 ma0_ ka0_ (by decide) (by decide) hG_8
        subst hQ
        exact WX.leaves hempty hlocks (fun t ht hW => g_thrE g hK mxr_12 kxr_12 trivial ht hW) g.2.2.1.2.2
      · exact hp.elim
    · have fc_10 := eq_f c_10
      have b_15 : bd 3 3 x_9 := eqX fc_10 bx_9 kb_3 (by decide)
      refine lv_iconst (v := 1) hx hb dX14_numHere_24 (by decide) ?_
      refine lv_goto (tgt := 29) hx hb dX14_numHere_25 (by decide) ?_
      refine lv_iconst (v := 1) hx hb dX14_numHere_29 (by decide) ?_
      refine lv_aload_n hx hb dX14_numHere_30 rfl (lv_at hl 1 rfl) ?_
      refine g_geti (C := RX14) (T := TX14) (N := 67) hx hb hts (mc_ inX14) hown hK g ma0_ ka0_ (by decide) rfl 8 (by decide) rfl (hts _ (List.mem_cons_of_mem _ t_2154)) (fun _ h9 => h9) rfl dX14_numHere_31 (fun x_16 bx_16 g => ?_)
      have hs_17 := sE_1 g 1 rfl (by have h9_0 := bt_; unfold bd at h9_0; have h9_1 := bx_16; unfold bd at h9_1; have h9_2 := b_15; unfold bd at h9_2; have h8_0 := kb_3; unfold bd at h8_0; omega)
      have kb_1 : bd 1 1 (1 : Int32) := ⟨by decide, by decide⟩
      have go_ := g
      refine g_callEv (As := [.int 1, .int 1, .int x_16]) (rest := []) ⟨hx, hb, hml, hown, hts⟩ (r_X14_need_3 l dC dI L kd tys fr_1 H.size g.2.2.2.1 a0_ ma0_ ka0_ 1 kb_1 1 x_16) (cwV 3 hts (gV_ t_2403 t_2405 t_100 t_198 t_2406) rfl rfl rfl (by decide +kernel) ⟨(Nat.le_of_ble_eq_true rfl), (Nat.le_of_ble_eq_true rfl)⟩) (pre3V g hK ma0_ ka0_ (by decide) (q := (RX14, TX14, 67)) rfl) rfl hl.1 rfl (lv_room (Nat.le_of_ble_eq_true rfl)) dX14_numHere_34 ⟨(Nat.le_of_ble_eq_true rfl), (Nat.le_of_ble_eq_true rfl)⟩ g hK (by decide) (by decide) (fx' := [(14, 8, a0_, .int x_16), (14, 6, a0_, .int x_9), (14, 10, a0_, .int t_)]) rfl (fun xr_18 fr_18 H locs mxr_18 kxr_18 hp hMr_18 g => ?_) (fun fr_18 H locs hp hMr_18 g => ?_)
      · have hG_19 := cEq.frame hMr_18 go_.2.2.2.1 ma0_ ka0_ (by decide) (by decide) hG_7
        have hG_20 := tEq.frame hMr_18 go_.2.2.2.1 ma0_ ka0_ (by decide) (by decide) hG_8
        exact hp.elim
      · have hG_21 := cEq.frame hMr_18 go_.2.2.2.1 ma0_ ka0_ (by decide) (by decide) hG_7
        have hG_22 := tEq.frame hMr_18 go_.2.2.2.1 ma0_ ka0_ (by decide) (by decide) hG_8
        refine lv_iload_n hx hb dX14_numHere_37 rfl (lv_at hl 0 rfl) ?_
        refine lv_if_eq (tgt := 49) hx hb dX14_numHere_38 (by decide) (fun c_ => ?_) (fun c_ => absurd (by decide) c_)
        refine lv_aload_n hx hb dX14_numHere_49 rfl (lv_at hl 1 rfl) ?_
        refine g_getl (C := RX14) (T := TX14) (N := 67) hx hb hts (mc_ inX14) hown hK g ma0_ ka0_ (by decide) rfl 11 (by decide) rfl (hts _ (List.mem_cons_of_mem _ t_2157)) (fun _ h9 => h9) rfl dX14_numHere_50 (fun x_23 g => ?_)
        refine lv_l2i hx hb dX14_numHere_53 rfl ?_
        refine lv_topi (fun y_24 ey_24 => ?_)
        refine lv_istore_n (lv' := [(2, .int y_24), (1, .int 0), (0, .ref a0_)]) hx hb dX14_numHere_54 rfl hl (by decide) rfl (fun ls hl => ?_)
        refine lv_aload_n hx hb dX14_numHere_55 rfl (lv_at hl 2 rfl) ?_
        have hs_25 := sE_1 g 2 rfl (by have h9_0 := bt_; unfold bd at h9_0; have h9_1 := bx_16; unfold bd at h9_1; have h9_2 := b_15; unfold bd at h9_2; have h8_0 := kb_1; unfold bd at h8_0; have h8_1 := kb_3; unfold bd at h8_1; omega)
        have go_ := g
        refine g_callEv (As := []) (rest := []) ⟨hx, hb, hml, hown, hts⟩ (r_X14_next_2 l dC dI L kd tys fr_18 H.size g.2.2.2.1 adK adV a0_ ma0_ ka0_ t_ bt_ (g.fcts [3] rfl)) (cwV 0 hts (gV_ t_2411 t_2413 t_102 t_198 t_2414) rfl rfl rfl (by decide +kernel) ⟨(Nat.le_of_ble_eq_true rfl), (Nat.le_of_ble_eq_true rfl)⟩) (pre3VA g hK hAm ma0_ ka0_ (by decide) (q := (RX14, TX14, 67)) rfl) rfl hl.1 rfl (lv_room (Nat.le_of_ble_eq_true rfl)) dX14_numHere_56 ⟨(Nat.le_of_ble_eq_true rfl), (Nat.le_of_ble_eq_true rfl)⟩ g hK (by decide) (by decide) (fx' := []) rfl (fun xr_26 fr_26 H locs mxr_26 kxr_26 hp hMr_26 g => ?_) (fun fr_26 H locs hp hMr_26 g => ?_)
        · subst hQ
          exact WX.leaves hempty hlocks (fun t ht hW => g_thrE g hK mxr_26 kxr_26 trivial ht hW) g.2.2.1.2.2
        · obtain ⟨hx_27, h_28, x_29, h_30, hF_31⟩ := hp
          obtain ⟨E_32, hE_32⟩ : ∃ E : Int, cEq fr_26 a0_ E := ⟨_, rfl⟩
          have lE_32 : (cF f0 a0_) + 1 ≤ E_32 := by have h9 := hx_27; have h8 : cF _ _ = _ := hE_32; have h7 : cF _ _ = _ := hG_21; have h6 := hs_25; have h5 := tk_c (f := fr_18) (t := a0_); omega
          have b_33 : bd 0 1200 t_ := eqX rfl bt_ h_28 (by decide)
          have g := g.more hF_31
          refine lv_iload_n hx hb dX14_numHere_59 rfl (lv_at hl 0 rfl) ?_
          subst hQ
          exact W.thenQ (W.iret (v := y_24) hx hb hr (fun t ht hW => g_retE g hK ⟨_, rfl, ⟨(by have h9 : cF _ _ = _ := hE_32; omega), b_33, x_29, h_30, (g.fcts [0] rfl)⟩⟩ ht hW) g.2.2.1.2.2 dX14_numHere_60) (fun _ => MQ.toE)
  · have hG_34 := cEq.frame hMr_1 go_.2.2.2.1 ma0_ ka0_ (by decide) (by decide) (rfl : cEq f0 a0_ (cF f0 a0_))
    have hG_35 := tEq.frame hMr_1 go_.2.2.2.1 ma0_ ka0_ (by decide) (by decide) (rfl : tEq f0 a0_ (tk f0 a0_))
    obtain rfl : r_1 = 1 := h_3
    have g := g.more hF_6
    refine lv_istore_n (lv' := [(1, .int 1), (0, .ref a0_)]) hx hb dX14_numHere_6 rfl hl (by decide) rfl (fun ls hl => ?_)
    refine lv_iload_n hx hb dX14_numHere_7 rfl (lv_at hl 0 rfl) ?_
    refine lv_if_eq (tgt := 15) hx hb dX14_numHere_8 (by decide) (fun c_ => absurd c_ (by decide)) (fun c_ => ?_)
    refine lv_aload_n hx hb dX14_numHere_11 rfl (lv_at hl 1 rfl) ?_
    have hs_36 := sE_1 g 0 rfl (by have h9_0 := bt_; unfold bd at h9_0; have h9_1 := h_5; unfold bd at h9_1; omega)
    have go_ := g
    refine g_callEv (As := []) (rest := []) ⟨hx, hb, hml, hown, hts⟩ (r_X14_next_2 l dC dI L kd tys fr_1 H.size g.2.2.2.1 adK adV a0_ ma0_ ka0_ t_ bt_ (g.fcts [1] rfl)) (cwV 0 hts (gV_ t_2411 t_2413 t_102 t_198 t_2414) rfl rfl rfl (by decide +kernel) ⟨(Nat.le_of_ble_eq_true rfl), (Nat.le_of_ble_eq_true rfl)⟩) (pre3VA g hK hAm ma0_ ka0_ (by decide) (q := (RX14, TX14, 67)) rfl) rfl hl.1 rfl (lv_room (Nat.le_of_ble_eq_true rfl)) dX14_numHere_12 ⟨(Nat.le_of_ble_eq_true rfl), (Nat.le_of_ble_eq_true rfl)⟩ g hK (by decide) (by decide) (fx' := []) rfl (fun xr_37 fr_37 H locs mxr_37 kxr_37 hp hMr_37 g => ?_) (fun fr_37 H locs hp hMr_37 g => ?_)
    · subst hQ
      exact WX.leaves hempty hlocks (fun t ht hW => g_thrE g hK mxr_37 kxr_37 trivial ht hW) g.2.2.1.2.2
    · obtain ⟨hx_38, h_39, x_40, h_41, hF_42⟩ := hp
      obtain ⟨E_43, hE_43⟩ : ∃ E : Int, cEq fr_37 a0_ E := ⟨_, rfl⟩
      have lE_43 : (cF f0 a0_) + 1 ≤ E_43 := by have h9 := hx_38; have h8 : cF _ _ = _ := hE_43; have h7 : cF _ _ = _ := hG_34; have h6 := hs_36; have h5 := tk_c (f := fr_1) (t := a0_); omega
      have b_44 : bd 0 1200 t_ := eqX rfl bt_ h_39 (by decide)
      have g := g.more hF_42
      refine lv_aload_n hx hb dX14_numHere_15 rfl (lv_at hl 1 rfl) ?_
      refine lv_aload_n hx hb dX14_numHere_16 rfl (lv_at hl 1 rfl) ?_
      refine g_geti (C := RX14) (T := TX14) (N := 67) hx hb hts (mc_ inX14) hown hK g ma0_ ka0_ (by decide) rfl 6 (by decide) rfl (hts _ (List.mem_cons_of_mem _ t_2152)) (fun _ h9 => h9) rfl dX14_numHere_17 (fun x_45 bx_45 g => ?_)
      refine lv_iconst (v := 3) hx hb dX14_numHere_20 (by decide) ?_
      have kb_3 : bd 3 3 (3 : Int32) := ⟨by decide, by decide⟩
      refine lv_icmp_ne (tgt := 28) hx hb dX14_numHere_21 (by decide) (fun c_46 => ?_) (fun c_46 => ?_)
      · have fc_46 := neq_f c_46
        refine lv_iconst (v := 0) hx hb dX14_numHere_28 (by decide) ?_
        refine lv_iconst (v := 1) hx hb dX14_numHere_29 (by decide) ?_
        refine lv_aload_n hx hb dX14_numHere_30 rfl (lv_at hl 1 rfl) ?_
        refine g_geti (C := RX14) (T := TX14) (N := 67) hx hb hts (mc_ inX14) hown hK g ma0_ ka0_ (by decide) rfl 8 (by decide) rfl (hts _ (List.mem_cons_of_mem _ t_2154)) (fun _ h9 => h9) rfl dX14_numHere_31 (fun x_47 bx_47 g => ?_)
        have kb_0 : bd 0 0 (0 : Int32) := ⟨by decide, by decide⟩
        have go_ := g
        refine g_callEv (As := [.int 0, .int 1, .int x_47]) (rest := []) ⟨hx, hb, hml, hown, hts⟩ (r_X14_need_2 l dC dI L kd tys fr_37 H.size g.2.2.2.1 a0_ ma0_ ka0_ 0 kb_0 1 x_47) (cwV 3 hts (gV_ t_2403 t_2405 t_100 t_198 t_2406) rfl rfl rfl (by decide +kernel) ⟨(Nat.le_of_ble_eq_true rfl), (Nat.le_of_ble_eq_true rfl)⟩) (pre3V g hK ma0_ ka0_ (by decide) (q := (RX14, TX14, 67)) rfl) rfl hl.1 rfl (lv_room (Nat.le_of_ble_eq_true rfl)) dX14_numHere_34 ⟨(Nat.le_of_ble_eq_true rfl), (Nat.le_of_ble_eq_true rfl)⟩ g hK (by decide) (by decide) (fx' := [(14, 8, a0_, .int x_47), (14, 6, a0_, .int x_45), (14, 10, a0_, .int x_40)]) rfl (fun xr_48 fr_48 H locs mxr_48 kxr_48 hp hMr_48 g => ?_) (fun fr_48 H locs hp hMr_48 g => ?_)
        · have hG_49 := cEq.frame hMr_48 go_.2.2.2.1 ma0_ ka0_ (by decide) (by decide) hE_43
          subst hQ
          exact WX.leaves hempty hlocks (fun t ht hW => g_thrE g hK mxr_48 kxr_48 trivial ht hW) g.2.2.1.2.2
        · exact hp.elim
      · have fc_46 := eq_f c_46
        have b_50 : bd 3 3 x_45 := eqX fc_46 bx_45 kb_3 (by decide)
        refine lv_iconst (v := 1) hx hb dX14_numHere_24 (by decide) ?_
        refine lv_goto (tgt := 29) hx hb dX14_numHere_25 (by decide) ?_
        refine lv_iconst (v := 1) hx hb dX14_numHere_29 (by decide) ?_
        refine lv_aload_n hx hb dX14_numHere_30 rfl (lv_at hl 1 rfl) ?_
        refine g_geti (C := RX14) (T := TX14) (N := 67) hx hb hts (mc_ inX14) hown hK g ma0_ ka0_ (by decide) rfl 8 (by decide) rfl (hts _ (List.mem_cons_of_mem _ t_2154)) (fun _ h9 => h9) rfl dX14_numHere_31 (fun x_51 bx_51 g => ?_)
        have hs_52 := sE_1 g 1 rfl (by have h9_0 := b_44; unfold bd at h9_0; have h9_1 := h_5; unfold bd at h9_1; have h9_2 := h_41; unfold bd at h9_2; have h9_3 := b_50; unfold bd at h9_3; have h9_4 := bx_51; unfold bd at h9_4; have h8_0 := kb_3; unfold bd at h8_0; omega)
        have kb_1 : bd 1 1 (1 : Int32) := ⟨by decide, by decide⟩
        have go_ := g
        refine g_callEv (As := [.int 1, .int 1, .int x_51]) (rest := []) ⟨hx, hb, hml, hown, hts⟩ (r_X14_need_3 l dC dI L kd tys fr_37 H.size g.2.2.2.1 a0_ ma0_ ka0_ 1 kb_1 1 x_51) (cwV 3 hts (gV_ t_2403 t_2405 t_100 t_198 t_2406) rfl rfl rfl (by decide +kernel) ⟨(Nat.le_of_ble_eq_true rfl), (Nat.le_of_ble_eq_true rfl)⟩) (pre3V g hK ma0_ ka0_ (by decide) (q := (RX14, TX14, 67)) rfl) rfl hl.1 rfl (lv_room (Nat.le_of_ble_eq_true rfl)) dX14_numHere_34 ⟨(Nat.le_of_ble_eq_true rfl), (Nat.le_of_ble_eq_true rfl)⟩ g hK (by decide) (by decide) (fx' := [(14, 8, a0_, .int x_51), (14, 6, a0_, .int x_45), (14, 10, a0_, .int x_40)]) rfl (fun xr_53 fr_53 H locs mxr_53 kxr_53 hp hMr_53 g => ?_) (fun fr_53 H locs hp hMr_53 g => ?_)
        · have hG_54 := cEq.frame hMr_53 go_.2.2.2.1 ma0_ ka0_ (by decide) (by decide) hE_43
          exact hp.elim
        · have hG_55 := cEq.frame hMr_53 go_.2.2.2.1 ma0_ ka0_ (by decide) (by decide) hE_43
          refine lv_iload_n hx hb dX14_numHere_37 rfl (lv_at hl 0 rfl) ?_
          refine lv_if_eq (tgt := 49) hx hb dX14_numHere_38 (by decide) (fun c_ => absurd c_ (by decide)) (fun c_ => ?_)
          refine lv_aload_n hx hb dX14_numHere_41 rfl (lv_at hl 1 rfl) ?_
          refine g_getl (C := RX14) (T := TX14) (N := 67) hx hb hts (mc_ inX14) hown hK g ma0_ ka0_ (by decide) rfl 11 (by decide) rfl (hts _ (List.mem_cons_of_mem _ t_2157)) (fun _ h9 => h9) rfl dX14_numHere_42 (fun x_56 g => ?_)
          refine lv_lneg hx hb dX14_numHere_45 ?_
          refine lv_topl (fun y_57 ey_57 => ?_)
          refine lv_goto (tgt := 53) hx hb dX14_numHere_46 (by decide) ?_
          refine lv_l2i hx hb dX14_numHere_53 rfl ?_
          refine lv_topi (fun y_58 ey_58 => ?_)
          refine lv_istore_n (lv' := [(2, .int y_58), (1, .int 1), (0, .ref a0_)]) hx hb dX14_numHere_54 rfl hl (by decide) rfl (fun ls hl => ?_)
          refine lv_aload_n hx hb dX14_numHere_55 rfl (lv_at hl 2 rfl) ?_
          have hs_59 := sE_1 g 2 rfl (by have h9_0 := b_44; unfold bd at h9_0; have h9_1 := h_5; unfold bd at h9_1; have h9_2 := h_41; unfold bd at h9_2; have h9_3 := b_50; unfold bd at h9_3; have h9_4 := bx_51; unfold bd at h9_4; have h8_0 := kb_1; unfold bd at h8_0; have h8_1 := kb_3; unfold bd at h8_1; omega)
          have go_ := g
          refine g_callEv (As := []) (rest := []) ⟨hx, hb, hml, hown, hts⟩ (r_X14_next_2 l dC dI L kd tys fr_53 H.size g.2.2.2.1 adK adV a0_ ma0_ ka0_ x_40 h_41 (g.fcts [3] rfl)) (cwV 0 hts (gV_ t_2411 t_2413 t_102 t_198 t_2414) rfl rfl rfl (by decide +kernel) ⟨(Nat.le_of_ble_eq_true rfl), (Nat.le_of_ble_eq_true rfl)⟩) (pre3VA g hK hAm ma0_ ka0_ (by decide) (q := (RX14, TX14, 67)) rfl) rfl hl.1 rfl (lv_room (Nat.le_of_ble_eq_true rfl)) dX14_numHere_56 ⟨(Nat.le_of_ble_eq_true rfl), (Nat.le_of_ble_eq_true rfl)⟩ g hK (by decide) (by decide) (fx' := []) rfl (fun xr_60 fr_60 H locs mxr_60 kxr_60 hp hMr_60 g => ?_) (fun fr_60 H locs hp hMr_60 g => ?_)
          · subst hQ
            exact WX.leaves hempty hlocks (fun t ht hW => g_thrE g hK mxr_60 kxr_60 trivial ht hW) g.2.2.1.2.2
          · obtain ⟨hx_61, h_62, x_63, h_64, hF_65⟩ := hp
            obtain ⟨E_66, hE_66⟩ : ∃ E : Int, cEq fr_60 a0_ E := ⟨_, rfl⟩
            have lE_66 : E_43 + 1 ≤ E_66 := by have h9 := hx_61; have h8 : cF _ _ = _ := hE_66; have h7 : cF _ _ = _ := hG_55; have h6 := hs_59; have h5 := tk_c (f := fr_53) (t := a0_); omega
            have b_67 : bd 0 1200 x_40 := eqX rfl h_41 h_62 (by decide)
            have g := g.more hF_65
            refine lv_iload_n hx hb dX14_numHere_59 rfl (lv_at hl 0 rfl) ?_
            subst hQ
            exact W.thenQ (W.iret (v := y_58) hx hb hr (fun t ht hW => g_retE g hK ⟨_, rfl, ⟨(by have h9 : cF _ _ = _ := hE_66; omega), b_44, x_63, h_64, (g.fcts [0] rfl)⟩⟩ ht hW) g.2.2.1.2.2 dX14_numHere_60) (fun _ => MQ.toE)
