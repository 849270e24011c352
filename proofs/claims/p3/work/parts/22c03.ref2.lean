set_option maxHeartbeats 4000000 in
set_option maxRecDepth 100000 in
theorem r_X14_next (l : Launch) (dC : Nat → ClassId) (dI : Nat → Nat → Nat) (L : List Nat) (kd : Nat → Nat) (tys : List (ClassId × FieldType)) (f0 : Nat → va_E) (sz : Nat) (hWT : WT L kd tys f0) (adK adV : Nat → Nat) (a0_ : Nat) (ma0_ : a0_ ∈ L) (ka0_ : kd a0_ = 14) : MetE l yX14_next (.code yX14_next cX14_next 1 none :: lw_g) ({ frames := 6, cells := 0, slots := 0, locals := 135 }) (va_Pc [.ref a0_] (P3A (dC, dI) L tys f0 sz adK adV)) (q3E (dC, dI) L kd tys [(14, 6), (14, 7), (14, 8), (14, 9), (14, 10), (14, 11), (14, 12), (14, 13), (14, 14), (14, 15)] [] f0 sz (pRv (fun (f : Nat → va_E) => (∃ z0_ : Int32, bd 0 1201 z0_ ∧ Fs L kd f [(14, 10, a0_, .int z0_)]))) (fun (f : Nat → va_E) => True)) 0 0 (pA L sz) := by
  refine MetE.ofW (cc := cX14_next) (maxL := 1) (ret := none) (by decide) rfl ?_
  intro p e s m args below meth c s₁ B hml hempty hv
  obtain ⟨rfl, ⟨hsz, hP, hK, hD0⟩, hAm⟩ := hv
  have hx := B.exec
  have hb := B.bytes
  have hr := B.returns
  have hts := atoms_spec (ws := (.code yX14_next cX14_next 1 none :: lw_g)) B.pre
  have hown : s.vm.findClass RX14 = some m.cls := findClass_of_methodNamed B.named
  have hlocks := B.notSynchronized
  subst hsz
  have g : G3 (dC, dI) L kd tys s f0 [(14, 6), (14, 7), (14, 8), (14, 9), (14, 10), (14, 11), (14, 12), (14, 13), (14, 14), (14, 15)] [] f0 s.heap [] [] := G3.start hP hD0 hWT Fs.nil
  have hl := lv_entry ([.ref a0_]) (n := 1) (Nat.le_of_ble_eq_true rfl)
  rw [lg_entry_eq]
  generalize (lg_sl ([.ref a0_]) ++ List.replicate (1 - (lg_sl ([.ref a0_])).length) Slot.unset).toArray = ls at hl ⊢
  have hl : lv_has ls 1 [(0, .ref a0_)] := hl
  refine W_q (fun Q hQ => ?_)
  refine lv_aload_n hx hb dX14_next_0 rfl (lv_at hl 0 rfl) ?_
  refine g_callEv (As := []) (rest := []) ⟨hx, hb, hml, hown, hts⟩ (r_X14_room l dC dI L kd tys f0 s.heap.size g.2.2.2.1 a0_ ma0_ ka0_) (cwV 0 hts (gV_ t_2415 t_2417 t_103 t_198 t_2418) rfl rfl rfl (by decide +kernel) ⟨(Nat.le_of_ble_eq_true rfl), (Nat.le_of_ble_eq_true rfl)⟩) (pre3V g hK ma0_ ka0_ (by decide) (q := (RX14, TX14, 67)) rfl) rfl hl.1 rfl (lv_room (Nat.le_of_ble_eq_true rfl)) dX14_next_1 ⟨(Nat.le_of_ble_eq_true rfl), (Nat.le_of_ble_eq_true rfl)⟩ g hK (by decide) (by decide) (fx' := []) rfl (fun xr_1 fr_1 H locs mxr_1 kxr_1 hp hMr_1 g => ?_) (fun fr_1 H locs hp hMr_1 g => ?_)
  · subst hQ
    exact WX.leaves hempty hlocks (fun t ht hW => g_thrE g hK mxr_1 kxr_1 trivial ht hW) g.2.2.1.2.2
  · obtain ⟨x_2, h_3, hF_4⟩ := hp
    have g := g.more hF_4
    refine lv_aload_n hx hb dX14_next_4 rfl (lv_at hl 0 rfl) ?_
    refine g_callv (va_runV (As := []) (rest := []) ⟨hx, hb, hml, hown, hts⟩ (r_X14_scan l dC dI L kd tys fr_1 H.size g.2.2.2.1 adK adV a0_ ma0_ ka0_ x_2 h_3 (g.fcts [0] rfl)) (cwV 0 hts (gV_ t_2360 t_2362 t_92 t_198 t_2363) rfl rfl rfl (by decide +kernel) ⟨(Nat.le_of_ble_eq_true rfl), (Nat.le_of_ble_eq_true rfl)⟩) (pre3VA g hK hAm ma0_ ka0_ (by decide) (q := (RX14, TX14, 67)) rfl) rfl rfl hl.1 rfl (lv_room (Nat.le_of_ble_eq_true rfl)) dX14_next_5 ⟨(Nat.le_of_ble_eq_true rfl), (Nat.le_of_ble_eq_true rfl)⟩) g hK (by decide) (by decide) (fx' := []) rfl (fun fr_5 H locs hp hMr_5 g => ?_)
    obtain ⟨x_6, h_7, hF_8⟩ := hp
    have g := g.more hF_8
    subst hQ
    exact W.thenQ (W.vret hx hb hr (fun t ht hW => g_retE g hK ⟨rfl, ⟨x_6, h_7, (g.fcts [0] rfl)⟩⟩ ht hW) g.2.2.1.2.2 dX14_next_8) (fun _ => MQ.toE)
set_option maxHeartbeats 4000000 in
set_option maxRecDepth 100000 in
theorem r_X14_sign (l : Launch) (dC : Nat → ClassId) (dI : Nat → Nat → Nat) (L : List Nat) (kd : Nat → Nat) (tys : List (ClassId × FieldType)) (f0 : Nat → va_E) (sz : Nat) (hWT : WT L kd tys f0) (adK adV : Nat → Nat) (a0_ : Nat) (ma0_ : a0_ ∈ L) (ka0_ : kd a0_ = 14) (x1_ : Int32) : MetE l yX14_sign (.code yX14_sign cX14_sign 2 none :: lw_g) ({ frames := 7, cells := 0, slots := 0, locals := 155 }) (va_Pc [.ref a0_, .int x1_] (P3A (dC, dI) L tys f0 sz adK adV)) (q3E (dC, dI) L kd tys [(14, 6), (14, 7), (14, 8), (14, 9), (14, 10), (14, 11), (14, 12), (14, 13), (14, 14), (14, 15)] [] f0 sz (pRv (fun (f : Nat → va_E) => (∃ z0_ : Int32, bd 0 1201 z0_ ∧ Fs L kd f [(14, 10, a0_, .int z0_)]))) (fun (f : Nat → va_E) => True)) 0 0 (pA L sz) := by
  refine MetE.ofW (cc := cX14_sign) (maxL := 2) (ret := none) (by decide) rfl ?_
  intro p e s m args below meth c s₁ B hml hempty hv
  obtain ⟨rfl, ⟨hsz, hP, hK, hD0⟩, hAm⟩ := hv
  have hx := B.exec
  have hb := B.bytes
  have hr := B.returns
  have hts := atoms_spec (ws := (.code yX14_sign cX14_sign 2 none :: lw_g)) B.pre
  have hown : s.vm.findClass RX14 = some m.cls := findClass_of_methodNamed B.named
  have hlocks := B.notSynchronized
  subst hsz
  have g : G3 (dC, dI) L kd tys s f0 [(14, 6), (14, 7), (14, 8), (14, 9), (14, 10), (14, 11), (14, 12), (14, 13), (14, 14), (14, 15)] [] f0 s.heap [] [] := G3.start hP hD0 hWT Fs.nil
  have hl := lv_entry ([.ref a0_, .int x1_]) (n := 2) (Nat.le_of_ble_eq_true rfl)
  rw [lg_entry_eq]
  generalize (lg_sl ([.ref a0_, .int x1_]) ++ List.replicate (2 - (lg_sl ([.ref a0_, .int x1_])).length) Slot.unset).toArray = ls at hl ⊢
  have hl : lv_has ls 2 [(0, .ref a0_), (1, .int x1_)] := hl
  refine W_q (fun Q hQ => ?_)
  refine lv_aload_n hx hb dX14_sign_0 rfl (lv_at hl 0 rfl) ?_
  refine lv_aload_n hx hb dX14_sign_1 rfl (lv_at hl 0 rfl) ?_
  refine lv_iload_n hx hb dX14_sign_2 rfl (lv_at hl 1 rfl) ?_
  refine g_calli (va_runV (As := [.int x1_]) (rest := [.ref a0_]) ⟨hx, hb, hml, hown, hts⟩ (r_X14_isSign l dC dI L kd tys f0 s.heap.size g.2.2.2.1 a0_ ma0_ ka0_ x1_) (cwV 1 hts (gV_ t_2435 t_2437 t_108 t_198 t_2438) rfl rfl rfl (by decide +kernel) ⟨(Nat.le_of_ble_eq_true rfl), (Nat.le_of_ble_eq_true rfl)⟩) (pre3V g hK ma0_ ka0_ (by decide) (q := (RX14, TX14, 67)) rfl) rfl rfl hl.1 rfl (lv_room (Nat.le_of_ble_eq_true rfl)) dX14_sign_3 ⟨(Nat.le_of_ble_eq_true rfl), (Nat.le_of_ble_eq_true rfl)⟩) g hK (by decide) (by decide) (fx' := []) rfl (fun r_1 fr_1 H locs hp hMr_1 g => ?_)
  rcases hp with ⟨h_2, -⟩ | ⟨h_3, x_4, h_5, hF_6⟩
  · obtain rfl : r_1 = 0 := h_2
    refine lv_iconst (v := 1) hx hb dX14_sign_6 (by decide) ?_
    refine lv_aload_n hx hb dX14_sign_7 rfl (lv_at hl 0 rfl) ?_
    refine g_geti (C := RX14) (T := TX14) (N := 67) hx hb hts (mc_ inX14) hown hK g ma0_ ka0_ (by decide) rfl 8 (by decide) rfl (hts _ (List.mem_cons_of_mem _ t_2154)) (fun _ h9 => h9) rfl dX14_sign_8 (fun x_7 bx_7 g => ?_)
    have kb_0 : bd 0 0 (0 : Int32) := ⟨by decide, by decide⟩
    refine g_callEv (As := [.int 0, .int 1, .int x_7]) (rest := []) ⟨hx, hb, hml, hown, hts⟩ (r_X14_need_2 l dC dI L kd tys fr_1 H.size g.2.2.2.1 a0_ ma0_ ka0_ 0 kb_0 1 x_7) (cwV 3 hts (gV_ t_2403 t_2405 t_100 t_198 t_2406) rfl rfl rfl (by decide +kernel) ⟨(Nat.le_of_ble_eq_true rfl), (Nat.le_of_ble_eq_true rfl)⟩) (pre3V g hK ma0_ ka0_ (by decide) (q := (RX14, TX14, 67)) rfl) rfl hl.1 rfl (lv_room (Nat.le_of_ble_eq_true rfl)) dX14_sign_11 ⟨(Nat.le_of_ble_eq_true rfl), (Nat.le_of_ble_eq_true rfl)⟩ g hK (by decide) (by decide) (fx' := [(14, 8, a0_, .int x_7)]) rfl (fun xr_8 fr_8 H locs mxr_8 kxr_8 hp hMr_8 g => ?_) (fun fr_8 H locs hp hMr_8 g => ?_)
    · subst hQ
      exact WX.leaves hempty hlocks (fun t ht hW => g_thrE g hK mxr_8 kxr_8 trivial ht hW) g.2.2.1.2.2
    · exact hp.elim
  · obtain rfl : r_1 = 1 := h_3
    have g := g.more hF_6
    refine lv_iconst (v := 1) hx hb dX14_sign_6 (by decide) ?_
    refine lv_aload_n hx hb dX14_sign_7 rfl (lv_at hl 0 rfl) ?_
    refine g_geti (C := RX14) (T := TX14) (N := 67) hx hb hts (mc_ inX14) hown hK g ma0_ ka0_ (by decide) rfl 8 (by decide) rfl (hts _ (List.mem_cons_of_mem _ t_2154)) (fun _ h9 => h9) rfl dX14_sign_8 (fun x_9 bx_9 g => ?_)
    have kb_1 : bd 1 1 (1 : Int32) := ⟨by decide, by decide⟩
    refine g_callEv (As := [.int 1, .int 1, .int x_9]) (rest := []) ⟨hx, hb, hml, hown, hts⟩ (r_X14_need_3 l dC dI L kd tys fr_1 H.size g.2.2.2.1 a0_ ma0_ ka0_ 1 kb_1 1 x_9) (cwV 3 hts (gV_ t_2403 t_2405 t_100 t_198 t_2406) rfl rfl rfl (by decide +kernel) ⟨(Nat.le_of_ble_eq_true rfl), (Nat.le_of_ble_eq_true rfl)⟩) (pre3V g hK ma0_ ka0_ (by decide) (q := (RX14, TX14, 67)) rfl) rfl hl.1 rfl (lv_room (Nat.le_of_ble_eq_true rfl)) dX14_sign_11 ⟨(Nat.le_of_ble_eq_true rfl), (Nat.le_of_ble_eq_true rfl)⟩ g hK (by decide) (by decide) (fx' := [(14, 8, a0_, .int x_9), (14, 6, a0_, .int x_4)]) rfl (fun xr_10 fr_10 H locs mxr_10 kxr_10 hp hMr_10 g => ?_) (fun fr_10 H locs hp hMr_10 g => ?_)
    · exact hp.elim
    · refine lv_aload_n hx hb dX14_sign_14 rfl (lv_at hl 0 rfl) ?_
      refine g_callEv (As := []) (rest := []) ⟨hx, hb, hml, hown, hts⟩ (r_X14_next l dC dI L kd tys fr_10 H.size g.2.2.2.1 adK adV a0_ ma0_ ka0_) (cwV 0 hts (gV_ t_2411 t_2413 t_102 t_198 t_2414) rfl rfl rfl (by decide +kernel) ⟨(Nat.le_of_ble_eq_true rfl), (Nat.le_of_ble_eq_true rfl)⟩) (pre3VA g hK hAm ma0_ ka0_ (by decide) (q := (RX14, TX14, 67)) rfl) rfl hl.1 rfl (lv_room (Nat.le_of_ble_eq_true rfl)) dX14_sign_15 ⟨(Nat.le_of_ble_eq_true rfl), (Nat.le_of_ble_eq_true rfl)⟩ g hK (by decide) (by decide) (fx' := []) rfl (fun xr_11 fr_11 H locs mxr_11 kxr_11 hp hMr_11 g => ?_) (fun fr_11 H locs hp hMr_11 g => ?_)
      · subst hQ
        exact WX.leaves hempty hlocks (fun t ht hW => g_thrE g hK mxr_11 kxr_11 trivial ht hW) g.2.2.1.2.2
      · obtain ⟨x_12, h_13, hF_14⟩ := hp
        have g := g.more hF_14
        subst hQ
        exact W.thenQ (W.vret hx hb hr (fun t ht hW => g_retE g hK ⟨rfl, ⟨x_12, h_13, (g.fcts [0] rfl)⟩⟩ ht hW) g.2.2.1.2.2 dX14_sign_18) (fun _ => MQ.toE)
set_option maxHeartbeats 4000000 in
set_option maxRecDepth 100000 in
theorem r_X14_numHere (l : Launch) (dC : Nat → ClassId) (dI : Nat → Nat → Nat) (L : List Nat) (kd : Nat → Nat) (tys : List (ClassId × FieldType)) (f0 : Nat → va_E) (sz : Nat) (hWT : WT L kd tys f0) (adK adV : Nat → Nat) (a0_ : Nat) (ma0_ : a0_ ∈ L) (ka0_ : kd a0_ = 14) : MetE l yX14_numHere (.code yX14_numHere cX14_numHere 3 (some .int) :: lw_g) ({ frames := 7, cells := 0, slots := 0, locals := 155 }) (va_Pc [.ref a0_] (P3A (dC, dI) L tys f0 sz adK adV)) (q3E (dC, dI) L kd tys [(14, 6), (14, 7), (14, 8), (14, 9), (14, 10), (14, 11), (14, 12), (14, 13), (14, 14), (14, 15)] [] f0 sz (pRi (fun (r : Int32) (f : Nat → va_E) => (∃ z0_ : Int32, bd 0 1201 z0_ ∧ Fs L kd f [(14, 10, a0_, .int z0_)]))) (fun (f : Nat → va_E) => True)) 0 0 (pA L sz) := by
  refine MetE.ofW (cc := cX14_numHere) (maxL := 3) (ret := (some .int)) (by decide) rfl ?_
  intro p e s m args below meth c s₁ B hml hempty hv
  obtain ⟨rfl, ⟨hsz, hP, hK, hD0⟩, hAm⟩ := hv
  have hx := B.exec
  have hb := B.bytes
  have hr := B.returns
  have hts := atoms_spec (ws := (.code yX14_numHere cX14_numHere 3 (some .int) :: lw_g)) B.pre
  have hown : s.vm.findClass RX14 = some m.cls := findClass_of_methodNamed B.named
  have hlocks := B.notSynchronized
  subst hsz
  have g : G3 (dC, dI) L kd tys s f0 [(14, 6), (14, 7), (14, 8), (14, 9), (14, 10), (14, 11), (14, 12), (14, 13), (14, 14), (14, 15)] [] f0 s.heap [] [] := G3.start hP hD0 hWT Fs.nil
  have hl := lv_entry ([.ref a0_]) (n := 3) (Nat.le_of_ble_eq_true rfl)
  rw [lg_entry_eq]
  generalize (lg_sl ([.ref a0_]) ++ List.replicate (3 - (lg_sl ([.ref a0_])).length) Slot.unset).toArray = ls at hl ⊢
  have hl : lv_has ls 3 [(0, .ref a0_)] := hl
  refine W_q (fun Q hQ => ?_)
  refine lv_aload_n hx hb dX14_numHere_0 rfl (lv_at hl 0 rfl) ?_
  refine lv_bipush (v := 45) hx hb dX14_numHere_1 (by decide) ?_
  refine g_calli (va_runV (As := [.int 45]) (rest := []) ⟨hx, hb, hml, hown, hts⟩ (r_X14_isSign l dC dI L kd tys f0 s.heap.size g.2.2.2.1 a0_ ma0_ ka0_ 45) (cwV 1 hts (gV_ t_2435 t_2437 t_108 t_198 t_2438) rfl rfl rfl (by decide +kernel) ⟨(Nat.le_of_ble_eq_true rfl), (Nat.le_of_ble_eq_true rfl)⟩) (pre3V g hK ma0_ ka0_ (by decide) (q := (RX14, TX14, 67)) rfl) rfl rfl hl.1 rfl (lv_room (Nat.le_of_ble_eq_true rfl)) dX14_numHere_3 ⟨(Nat.le_of_ble_eq_true rfl), (Nat.le_of_ble_eq_true rfl)⟩) g hK (by decide) (by decide) (fx' := []) rfl (fun r_1 fr_1 H locs hp hMr_1 g => ?_)
  rcases hp with ⟨h_2, -⟩ | ⟨h_3, x_4, h_5, hF_6⟩
  · obtain rfl : r_1 = 0 := h_2
    refine lv_istore_n (lv' := [(1, .int 0), (0, .ref a0_)]) hx hb dX14_numHere_6 rfl hl (by decide) rfl (fun ls hl => ?_)
    refine lv_iload_n hx hb dX14_numHere_7 rfl (lv_at hl 0 rfl) ?_
    refine lv_if_eq (tgt := 15) hx hb dX14_numHere_8 (by decide) (fun c_ => ?_) (fun c_ => absurd (by decide) c_)
    refine lv_aload_n hx hb dX14_numHere_15 rfl (lv_at hl 1 rfl) ?_
    refine lv_aload_n hx hb dX14_numHere_16 rfl (lv_at hl 1 rfl) ?_
    refine g_geti (C := RX14) (T := TX14) (N := 67) hx hb hts (mc_ inX14) hown hK g ma0_ ka0_ (by decide) rfl 6 (by decide) rfl (hts _ (List.mem_cons_of_mem _ t_2152)) (fun _ h9 => h9) rfl dX14_numHere_17 (fun x_7 bx_7 g => ?_)
    refine lv_iconst (v := 3) hx hb dX14_numHere_20 (by decide) ?_
    have kb_3 : bd 3 3 (3 : Int32) := ⟨by decide, by decide⟩
    refine lv_icmp_ne (tgt := 28) hx hb dX14_numHere_21 (by decide) (fun c_8 => ?_) (fun c_8 => ?_)
    · have fc_8 := neq_f c_8
      refine lv_iconst (v := 0) hx hb dX14_numHere_28 (by decide) ?_
      refine lv_iconst (v := 1) hx hb dX14_numHere_29 (by decide) ?_
      refine lv_aload_n hx hb dX14_numHere_30 rfl (lv_at hl 1 rfl) ?_
      refine g_geti (C := RX14) (T := TX14) (N := 67) hx hb hts (mc_ inX14) hown hK g ma0_ ka0_ (by decide) rfl 8 (by decide) rfl (hts _ (List.mem_cons_of_mem _ t_2154)) (fun _ h9 => h9) rfl dX14_numHere_31 (fun x_9 bx_9 g => ?_)
      have kb_0 : bd 0 0 (0 : Int32) := ⟨by decide, by decide⟩
      refine g_callEv (As := [.int 0, .int 1, .int x_9]) (rest := []) ⟨hx, hb, hml, hown, hts⟩ (r_X14_need_2 l dC dI L kd tys fr_1 H.size g.2.2.2.1 a0_ ma0_ ka0_ 0 kb_0 1 x_9) (cwV 3 hts (gV_ t_2403 t_2405 t_100 t_198 t_2406) rfl rfl rfl (by decide +kernel) ⟨(Nat.le_of_ble_eq_true rfl), (Nat.le_of_ble_eq_true rfl)⟩) (pre3V g hK ma0_ ka0_ (by decide) (q := (RX14, TX14, 67)) rfl) rfl hl.1 rfl (lv_room (Nat.le_of_ble_eq_true rfl)) dX14_numHere_34 ⟨(Nat.le_of_ble_eq_true rfl), (Nat.le_of_ble_eq_true rfl)⟩ g hK (by decide) (by decide) (fx' := [(14, 8, a0_, .int x_9), (14, 6, a0_, .int x_7)]) rfl (fun xr_10 fr_10 H locs mxr_10 kxr_10 hp hMr_10 g => ?_) (fun fr_10 H locs hp hMr_10 g => ?_)
      · subst hQ
        exact WX.leaves hempty hlocks (fun t ht hW => g_thrE g hK mxr_10 kxr_10 trivial ht hW) g.2.2.1.2.2
      · exact hp.elim
    · have fc_8 := eq_f c_8
      have b_11 : bd 3 3 x_7 := eqX fc_8 bx_7 kb_3 (by decide)
      refine lv_iconst (v := 1) hx hb dX14_numHere_24 (by decide) ?_
      refine lv_goto (tgt := 29) hx hb dX14_numHere_25 (by decide) ?_
      refine lv_iconst (v := 1) hx hb dX14_numHere_29 (by decide) ?_
      refine lv_aload_n hx hb dX14_numHere_30 rfl (lv_at hl 1 rfl) ?_
      refine g_geti (C := RX14) (T := TX14) (N := 67) hx hb hts (mc_ inX14) hown hK g ma0_ ka0_ (by decide) rfl 8 (by decide) rfl (hts _ (List.mem_cons_of_mem _ t_2154)) (fun _ h9 => h9) rfl dX14_numHere_31 (fun x_12 bx_12 g => ?_)
      have kb_1 : bd 1 1 (1 : Int32) := ⟨by decide, by decide⟩
      refine g_callEv (As := [.int 1, .int 1, .int x_12]) (rest := []) ⟨hx, hb, hml, hown, hts⟩ (r_X14_need_3 l dC dI L kd tys fr_1 H.size g.2.2.2.1 a0_ ma0_ ka0_ 1 kb_1 1 x_12) (cwV 3 hts (gV_ t_2403 t_2405 t_100 t_198 t_2406) rfl rfl rfl (by decide +kernel) ⟨(Nat.le_of_ble_eq_true rfl), (Nat.le_of_ble_eq_true rfl)⟩) (pre3V g hK ma0_ ka0_ (by decide) (q := (RX14, TX14, 67)) rfl) rfl hl.1 rfl (lv_room (Nat.le_of_ble_eq_true rfl)) dX14_numHere_34 ⟨(Nat.le_of_ble_eq_true rfl), (Nat.le_of_ble_eq_true rfl)⟩ g hK (by decide) (by decide) (fx' := [(14, 8, a0_, .int x_12), (14, 6, a0_, .int x_7)]) rfl (fun xr_13 fr_13 H locs mxr_13 kxr_13 hp hMr_13 g => ?_) (fun fr_13 H locs hp hMr_13 g => ?_)
      · exact hp.elim
      · refine lv_iload_n hx hb dX14_numHere_37 rfl (lv_at hl 0 rfl) ?_
        refine lv_if_eq (tgt := 49) hx hb dX14_numHere_38 (by decide) (fun c_ => ?_) (fun c_ => absurd (by decide) c_)
        refine lv_aload_n hx hb dX14_numHere_49 rfl (lv_at hl 1 rfl) ?_
        refine g_getl (C := RX14) (T := TX14) (N := 67) hx hb hts (mc_ inX14) hown hK g ma0_ ka0_ (by decide) rfl 11 (by decide) rfl (hts _ (List.mem_cons_of_mem _ t_2157)) (fun _ h9 => h9) rfl dX14_numHere_50 (fun x_14 g => ?_)
        refine lv_l2i hx hb dX14_numHere_53 rfl ?_
        refine lv_topi (fun y_15 ey_15 => ?_)
        refine lv_istore_n (lv' := [(2, .int y_15), (1, .int 0), (0, .ref a0_)]) hx hb dX14_numHere_54 rfl hl (by decide) rfl (fun ls hl => ?_)
        refine lv_aload_n hx hb dX14_numHere_55 rfl (lv_at hl 2 rfl) ?_
        refine g_callEv (As := []) (rest := []) ⟨hx, hb, hml, hown, hts⟩ (r_X14_next l dC dI L kd tys fr_13 H.size g.2.2.2.1 adK adV a0_ ma0_ ka0_) (cwV 0 hts (gV_ t_2411 t_2413 t_102 t_198 t_2414) rfl rfl rfl (by decide +kernel) ⟨(Nat.le_of_ble_eq_true rfl), (Nat.le_of_ble_eq_true rfl)⟩) (pre3VA g hK hAm ma0_ ka0_ (by decide) (q := (RX14, TX14, 67)) rfl) rfl hl.1 rfl (lv_room (Nat.le_of_ble_eq_true rfl)) dX14_numHere_56 ⟨(Nat.le_of_ble_eq_true rfl), (Nat.le_of_ble_eq_true rfl)⟩ g hK (by decide) (by decide) (fx' := []) rfl (fun xr_16 fr_16 H locs mxr_16 kxr_16 hp hMr_16 g => ?_) (fun fr_16 H locs hp hMr_16 g => ?_)
        · subst hQ
          exact WX.leaves hempty hlocks (fun t ht hW => g_thrE g hK mxr_16 kxr_16 trivial ht hW) g.2.2.1.2.2
        · obtain ⟨x_17, h_18, hF_19⟩ := hp
          have g := g.more hF_19
          refine lv_iload_n hx hb dX14_numHere_59 rfl (lv_at hl 0 rfl) ?_
          subst hQ
          exact W.thenQ (W.iret (v := y_15) hx hb hr (fun t ht hW => g_retE g hK ⟨_, rfl, ⟨x_17, h_18, (g.fcts [0] rfl)⟩⟩ ht hW) g.2.2.1.2.2 dX14_numHere_60) (fun _ => MQ.toE)
  · obtain rfl : r_1 = 1 := h_3
    have g := g.more hF_6
    refine lv_istore_n (lv' := [(1, .int 1), (0, .ref a0_)]) hx hb dX14_numHere_6 rfl hl (by decide) rfl (fun ls hl => ?_)
    refine lv_iload_n hx hb dX14_numHere_7 rfl (lv_at hl 0 rfl) ?_
    refine lv_if_eq (tgt := 15) hx hb dX14_numHere_8 (by decide) (fun c_ => absurd c_ (by decide)) (fun c_ => ?_)
    refine lv_aload_n hx hb dX14_numHere_11 rfl (lv_at hl 1 rfl) ?_
    refine g_callEv (As := []) (rest := []) ⟨hx, hb, hml, hown, hts⟩ (r_X14_next l dC dI L kd tys fr_1 H.size g.2.2.2.1 adK adV a0_ ma0_ ka0_) (cwV 0 hts (gV_ t_2411 t_2413 t_102 t_198 t_2414) rfl rfl rfl (by decide +kernel) ⟨(Nat.le_of_ble_eq_true rfl), (Nat.le_of_ble_eq_true rfl)⟩) (pre3VA g hK hAm ma0_ ka0_ (by decide) (q := (RX14, TX14, 67)) rfl) rfl hl.1 rfl (lv_room (Nat.le_of_ble_eq_true rfl)) dX14_numHere_12 ⟨(Nat.le_of_ble_eq_true rfl), (Nat.le_of_ble_eq_true rfl)⟩ g hK (by decide) (by decide) (fx' := []) rfl (fun xr_20 fr_20 H locs mxr_20 kxr_20 hp hMr_20 g => ?_) (fun fr_20 H locs hp hMr_20 g => ?_)
    · subst hQ
      exact WX.leaves hempty hlocks (fun t ht hW => g_thrE g hK mxr_20 kxr_20 trivial ht hW) g.2.2.1.2.2
    · obtain ⟨x_21, h_22, hF_23⟩ := hp
      have g := g.more hF_23
      refine lv_aload_n hx hb dX14_numHere_15 rfl (lv_at hl 1 rfl) ?_
      refine lv_aload_n hx hb dX14_numHere_16 rfl (lv_at hl 1 rfl) ?_
      refine g_geti (C := RX14) (T := TX14) (N := 67) hx hb hts (mc_ inX14) hown hK g ma0_ ka0_ (by decide) rfl 6 (by decide) rfl (hts _ (List.mem_cons_of_mem _ t_2152)) (fun _ h9 => h9) rfl dX14_numHere_17 (fun x_24 bx_24 g => ?_)
      refine lv_iconst (v := 3) hx hb dX14_numHere_20 (by decide) ?_
      have kb_3 : bd 3 3 (3 : Int32) := ⟨by decide, by decide⟩
      refine lv_icmp_ne (tgt := 28) hx hb dX14_numHere_21 (by decide) (fun c_25 => ?_) (fun c_25 => ?_)
      · have fc_25 := neq_f c_25
        refine lv_iconst (v := 0) hx hb dX14_numHere_28 (by decide) ?_
        refine lv_iconst (v := 1) hx hb dX14_numHere_29 (by decide) ?_
        refine lv_aload_n hx hb dX14_numHere_30 rfl (lv_at hl 1 rfl) ?_
        refine g_geti (C := RX14) (T := TX14) (N := 67) hx hb hts (mc_ inX14) hown hK g ma0_ ka0_ (by decide) rfl 8 (by decide) rfl (hts _ (List.mem_cons_of_mem _ t_2154)) (fun _ h9 => h9) rfl dX14_numHere_31 (fun x_26 bx_26 g => ?_)
        have kb_0 : bd 0 0 (0 : Int32) := ⟨by decide, by decide⟩
        refine g_callEv (As := [.int 0, .int 1, .int x_26]) (rest := []) ⟨hx, hb, hml, hown, hts⟩ (r_X14_need_2 l dC dI L kd tys fr_20 H.size g.2.2.2.1 a0_ ma0_ ka0_ 0 kb_0 1 x_26) (cwV 3 hts (gV_ t_2403 t_2405 t_100 t_198 t_2406) rfl rfl rfl (by decide +kernel) ⟨(Nat.le_of_ble_eq_true rfl), (Nat.le_of_ble_eq_true rfl)⟩) (pre3V g hK ma0_ ka0_ (by decide) (q := (RX14, TX14, 67)) rfl) rfl hl.1 rfl (lv_room (Nat.le_of_ble_eq_true rfl)) dX14_numHere_34 ⟨(Nat.le_of_ble_eq_true rfl), (Nat.le_of_ble_eq_true rfl)⟩ g hK (by decide) (by decide) (fx' := [(14, 8, a0_, .int x_26), (14, 6, a0_, .int x_24), (14, 10, a0_, .int x_21)]) rfl (fun xr_27 fr_27 H locs mxr_27 kxr_27 hp hMr_27 g => ?_) (fun fr_27 H locs hp hMr_27 g => ?_)
        · subst hQ
          exact WX.leaves hempty hlocks (fun t ht hW => g_thrE g hK mxr_27 kxr_27 trivial ht hW) g.2.2.1.2.2
        · exact hp.elim
      · have fc_25 := eq_f c_25
        have b_28 : bd 3 3 x_24 := eqX fc_25 bx_24 kb_3 (by decide)
        refine lv_iconst (v := 1) hx hb dX14_numHere_24 (by decide) ?_
        refine lv_goto (tgt := 29) hx hb dX14_numHere_25 (by decide) ?_
        refine lv_iconst (v := 1) hx hb dX14_numHere_29 (by decide) ?_
        refine lv_aload_n hx hb dX14_numHere_30 rfl (lv_at hl 1 rfl) ?_
        refine g_geti (C := RX14) (T := TX14) (N := 67) hx hb hts (mc_ inX14) hown hK g ma0_ ka0_ (by decide) rfl 8 (by decide) rfl (hts _ (List.mem_cons_of_mem _ t_2154)) (fun _ h9 => h9) rfl dX14_numHere_31 (fun x_29 bx_29 g => ?_)
        have kb_1 : bd 1 1 (1 : Int32) := ⟨by decide, by decide⟩
        refine g_callEv (As := [.int 1, .int 1, .int x_29]) (rest := []) ⟨hx, hb, hml, hown, hts⟩ (r_X14_need_3 l dC dI L kd tys fr_20 H.size g.2.2.2.1 a0_ ma0_ ka0_ 1 kb_1 1 x_29) (cwV 3 hts (gV_ t_2403 t_2405 t_100 t_198 t_2406) rfl rfl rfl (by decide +kernel) ⟨(Nat.le_of_ble_eq_true rfl), (Nat.le_of_ble_eq_true rfl)⟩) (pre3V g hK ma0_ ka0_ (by decide) (q := (RX14, TX14, 67)) rfl) rfl hl.1 rfl (lv_room (Nat.le_of_ble_eq_true rfl)) dX14_numHere_34 ⟨(Nat.le_of_ble_eq_true rfl), (Nat.le_of_ble_eq_true rfl)⟩ g hK (by decide) (by decide) (fx' := [(14, 8, a0_, .int x_29), (14, 6, a0_, .int x_24), (14, 10, a0_, .int x_21)]) rfl (fun xr_30 fr_30 H locs mxr_30 kxr_30 hp hMr_30 g => ?_) (fun fr_30 H locs hp hMr_30 g => ?_)
        · exact hp.elim
        · refine lv_iload_n hx hb dX14_numHere_37 rfl (lv_at hl 0 rfl) ?_
          refine lv_if_eq (tgt := 49) hx hb dX14_numHere_38 (by decide) (fun c_ => absurd c_ (by decide)) (fun c_ => ?_)
          refine lv_aload_n hx hb dX14_numHere_41 rfl (lv_at hl 1 rfl) ?_
          refine g_getl (C := RX14) (T := TX14) (N := 67) hx hb hts (mc_ inX14) hown hK g ma0_ ka0_ (by decide) rfl 11 (by decide) rfl (hts _ (List.mem_cons_of_mem _ t_2157)) (fun _ h9 => h9) rfl dX14_numHere_42 (fun x_31 g => ?_)
          refine lv_lneg hx hb dX14_numHere_45 ?_
          refine lv_topl (fun y_32 ey_32 => ?_)
          refine lv_goto (tgt := 53) hx hb dX14_numHere_46 (by decide) ?_
          refine lv_l2i hx hb dX14_numHere_53 rfl ?_
          refine lv_topi (fun y_33 ey_33 => ?_)
          refine lv_istore_n (lv' := [(2, .int y_33), (1, .int 1), (0, .ref a0_)]) hx hb dX14_numHere_54 rfl hl (by decide) rfl (fun ls hl => ?_)
          refine lv_aload_n hx hb dX14_numHere_55 rfl (lv_at hl 2 rfl) ?_
          refine g_callEv (As := []) (rest := []) ⟨hx, hb, hml, hown, hts⟩ (r_X14_next l dC dI L kd tys fr_30 H.size g.2.2.2.1 adK adV a0_ ma0_ ka0_) (cwV 0 hts (gV_ t_2411 t_2413 t_102 t_198 t_2414) rfl rfl rfl (by decide +kernel) ⟨(Nat.le_of_ble_eq_true rfl), (Nat.le_of_ble_eq_true rfl)⟩) (pre3VA g hK hAm ma0_ ka0_ (by decide) (q := (RX14, TX14, 67)) rfl) rfl hl.1 rfl (lv_room (Nat.le_of_ble_eq_true rfl)) dX14_numHere_56 ⟨(Nat.le_of_ble_eq_true rfl), (Nat.le_of_ble_eq_true rfl)⟩ g hK (by decide) (by decide) (fx' := []) rfl (fun xr_34 fr_34 H locs mxr_34 kxr_34 hp hMr_34 g => ?_) (fun fr_34 H locs hp hMr_34 g => ?_)
          · subst hQ
            exact WX.leaves hempty hlocks (fun t ht hW => g_thrE g hK mxr_34 kxr_34 trivial ht hW) g.2.2.1.2.2
          · obtain ⟨x_35, h_36, hF_37⟩ := hp
            have g := g.more hF_37
            refine lv_iload_n hx hb dX14_numHere_59 rfl (lv_at hl 0 rfl) ?_
            subst hQ
            exact W.thenQ (W.iret (v := y_33) hx hb hr (fun t ht hW => g_retE g hK ⟨_, rfl, ⟨x_35, h_36, (g.fcts [0] rfl)⟩⟩ ht hW) g.2.2.1.2.2 dX14_numHere_60) (fun _ => MQ.toE)
set_option maxHeartbeats 4000000 in
set_option maxRecDepth 100000 in
theorem r_X14_opening (l : Launch) (dC : Nat → ClassId) (dI : Nat → Nat → Nat) (L : List Nat) (kd : Nat → Nat) (tys : List (ClassId × FieldType)) (f0 : Nat → va_E) (sz : Nat) (hWT : WT L kd tys f0) (adK adV : Nat → Nat) (a0_ : Nat) (ma0_ : a0_ ∈ L) (ka0_ : kd a0_ = 14) (x1_ : Int32) : MetE l yX14_opening (.code yX14_opening cX14_opening 2 none :: lw_g) ({ frames := 7, cells := 0, slots := 0, locals := 155 }) (va_Pc [.ref a0_, .int x1_] (P3A (dC, dI) L tys f0 sz adK adV)) (q3E (dC, dI) L kd tys [(14, 6), (14, 7), (14, 8), (14, 9), (14, 10), (14, 11), (14, 12), (14, 13), (14, 14), (14, 15), (14, 25)] [] f0 sz (pRv (fun (f : Nat → va_E) => (∃ z0_ : Int32, bd 0 1201 z0_ ∧ ∃ z1_ : Int32, bd 1 40 z1_ ∧ Fs L kd f [(14, 10, a0_, .int z0_), (14, 25, a0_, .int z1_)]))) (fun (f : Nat → va_E) => True)) 0 0 (pA L sz) := by
  refine MetE.ofW (cc := cX14_opening) (maxL := 2) (ret := none) (by decide) rfl ?_
  intro p e s m args below meth c s₁ B hml hempty hv
  obtain ⟨rfl, ⟨hsz, hP, hK, hD0⟩, hAm⟩ := hv
  have hx := B.exec
  have hb := B.bytes
  have hr := B.returns
  have hts := atoms_spec (ws := (.code yX14_opening cX14_opening 2 none :: lw_g)) B.pre
  have hown : s.vm.findClass RX14 = some m.cls := findClass_of_methodNamed B.named
  have hlocks := B.notSynchronized
  subst hsz
  have g : G3 (dC, dI) L kd tys s f0 [(14, 6), (14, 7), (14, 8), (14, 9), (14, 10), (14, 11), (14, 12), (14, 13), (14, 14), (14, 15), (14, 25)] [] f0 s.heap [] [] := G3.start hP hD0 hWT Fs.nil
  have hl := lv_entry ([.ref a0_, .int x1_]) (n := 2) (Nat.le_of_ble_eq_true rfl)
  rw [lg_entry_eq]
  generalize (lg_sl ([.ref a0_, .int x1_]) ++ List.replicate (2 - (lg_sl ([.ref a0_, .int x1_])).length) Slot.unset).toArray = ls at hl ⊢
  have hl : lv_has ls 2 [(0, .ref a0_), (1, .int x1_)] := hl
  refine W_q (fun Q hQ => ?_)
  refine lv_aload_n hx hb dX14_opening_0 rfl (lv_at hl 0 rfl) ?_
  refine lv_aload_n hx hb dX14_opening_1 rfl (lv_at hl 0 rfl) ?_
  refine lv_iload_n hx hb dX14_opening_2 rfl (lv_at hl 1 rfl) ?_
  refine g_calli (va_runV (As := [.int x1_]) (rest := [.ref a0_]) ⟨hx, hb, hml, hown, hts⟩ (r_X14_isSign l dC dI L kd tys f0 s.heap.size g.2.2.2.1 a0_ ma0_ ka0_ x1_) (cwV 1 hts (gV_ t_2435 t_2437 t_108 t_198 t_2438) rfl rfl rfl (by decide +kernel) ⟨(Nat.le_of_ble_eq_true rfl), (Nat.le_of_ble_eq_true rfl)⟩) (pre3V g hK ma0_ ka0_ (by decide) (q := (RX14, TX14, 67)) rfl) rfl rfl hl.1 rfl (lv_room (Nat.le_of_ble_eq_true rfl)) dX14_opening_3 ⟨(Nat.le_of_ble_eq_true rfl), (Nat.le_of_ble_eq_true rfl)⟩) g hK (by decide) (by decide) (fx' := []) rfl (fun r_1 fr_1 H locs hp hMr_1 g => ?_)
  rcases hp with ⟨h_2, -⟩ | ⟨h_3, x_4, h_5, hF_6⟩
  · obtain rfl : r_1 = 0 := h_2
    refine lv_iconst (v := 1) hx hb dX14_opening_6 (by decide) ?_
    refine lv_aload_n hx hb dX14_opening_7 rfl (lv_at hl 0 rfl) ?_
    refine g_geti (C := RX14) (T := TX14) (N := 67) hx hb hts (mc_ inX14) hown hK g ma0_ ka0_ (by decide) rfl 8 (by decide) rfl (hts _ (List.mem_cons_of_mem _ t_2154)) (fun _ h9 => h9) rfl dX14_opening_8 (fun x_7 bx_7 g => ?_)
    have kb_0 : bd 0 0 (0 : Int32) := ⟨by decide, by decide⟩
    refine g_callEv (As := [.int 0, .int 1, .int x_7]) (rest := []) ⟨hx, hb, hml, hown, hts⟩ (r_X14_need_2 l dC dI L kd tys fr_1 H.size g.2.2.2.1 a0_ ma0_ ka0_ 0 kb_0 1 x_7) (cwV 3 hts (gV_ t_2403 t_2405 t_100 t_198 t_2406) rfl rfl rfl (by decide +kernel) ⟨(Nat.le_of_ble_eq_true rfl), (Nat.le_of_ble_eq_true rfl)⟩) (pre3V g hK ma0_ ka0_ (by decide) (q := (RX14, TX14, 67)) rfl) rfl hl.1 rfl (lv_room (Nat.le_of_ble_eq_true rfl)) dX14_opening_11 ⟨(Nat.le_of_ble_eq_true rfl), (Nat.le_of_ble_eq_true rfl)⟩ g hK (by decide) (by decide) (fx' := [(14, 8, a0_, .int x_7)]) rfl (fun xr_8 fr_8 H locs mxr_8 kxr_8 hp hMr_8 g => ?_) (fun fr_8 H locs hp hMr_8 g => ?_)
    · subst hQ
      exact WX.leaves hempty hlocks (fun t ht hW => g_thrE g hK mxr_8 kxr_8 trivial ht hW) g.2.2.1.2.2
    · exact hp.elim
  · obtain rfl : r_1 = 1 := h_3
    have g := g.more hF_6
    refine lv_iconst (v := 1) hx hb dX14_opening_6 (by decide) ?_
    refine lv_aload_n hx hb dX14_opening_7 rfl (lv_at hl 0 rfl) ?_
    refine g_geti (C := RX14) (T := TX14) (N := 67) hx hb hts (mc_ inX14) hown hK g ma0_ ka0_ (by decide) rfl 8 (by decide) rfl (hts _ (List.mem_cons_of_mem _ t_2154)) (fun _ h9 => h9) rfl dX14_opening_8 (fun x_9 bx_9 g => ?_)
    have kb_1 : bd 1 1 (1 : Int32) := ⟨by decide, by decide⟩
    refine g_callEv (As := [.int 1, .int 1, .int x_9]) (rest := []) ⟨hx, hb, hml, hown, hts⟩ (r_X14_need_3 l dC dI L kd tys fr_1 H.size g.2.2.2.1 a0_ ma0_ ka0_ 1 kb_1 1 x_9) (cwV 3 hts (gV_ t_2403 t_2405 t_100 t_198 t_2406) rfl rfl rfl (by decide +kernel) ⟨(Nat.le_of_ble_eq_true rfl), (Nat.le_of_ble_eq_true rfl)⟩) (pre3V g hK ma0_ ka0_ (by decide) (q := (RX14, TX14, 67)) rfl) rfl hl.1 rfl (lv_room (Nat.le_of_ble_eq_true rfl)) dX14_opening_11 ⟨(Nat.le_of_ble_eq_true rfl), (Nat.le_of_ble_eq_true rfl)⟩ g hK (by decide) (by decide) (fx' := [(14, 8, a0_, .int x_9), (14, 6, a0_, .int x_4)]) rfl (fun xr_10 fr_10 H locs mxr_10 kxr_10 hp hMr_10 g => ?_) (fun fr_10 H locs hp hMr_10 g => ?_)
    · exact hp.elim
    · refine lv_aload_n hx hb dX14_opening_14 rfl (lv_at hl 0 rfl) ?_
      refine lv_aload_n hx hb dX14_opening_15 rfl (lv_at hl 0 rfl) ?_
      refine g_getk (C := RX14) (T := TX14) (N := 67) hx hb hts (mc_ inX14) hown hK g rfl 8 (by decide) rfl (hts _ (List.mem_cons_of_mem _ t_2154)) (fun _ h9 => h9) 0 rfl dX14_opening_16 ?_
      refine g_callEv (As := [.int x_9]) (rest := []) ⟨hx, hb, hml, hown, hts⟩ (r_X14_opens l dC dI L kd tys fr_10 H.size g.2.2.2.1 a0_ ma0_ ka0_ x_9) (cwV 1 hts (gV_ t_2488 t_2490 t_119 t_198 t_2491) rfl rfl rfl (by decide +kernel) ⟨(Nat.le_of_ble_eq_true rfl), (Nat.le_of_ble_eq_true rfl)⟩) (pre3V g hK ma0_ ka0_ (by decide) (q := (RX14, TX14, 67)) rfl) rfl hl.1 rfl (lv_room (Nat.le_of_ble_eq_true rfl)) dX14_opening_19 ⟨(Nat.le_of_ble_eq_true rfl), (Nat.le_of_ble_eq_true rfl)⟩ g hK (by decide) (by decide) (fx' := [(14, 8, a0_, .int x_9), (14, 6, a0_, .int x_4)]) rfl (fun xr_11 fr_11 H locs mxr_11 kxr_11 hp hMr_11 g => ?_) (fun fr_11 H locs hp hMr_11 g => ?_)
      · subst hQ
        exact WX.leaves hempty hlocks (fun t ht hW => g_thrE g hK mxr_11 kxr_11 trivial ht hW) g.2.2.1.2.2
      · obtain ⟨x_12, h_13, hF_14⟩ := hp
        have g := g.more hF_14
        refine lv_aload_n hx hb dX14_opening_22 rfl (lv_at hl 0 rfl) ?_
        refine g_callEv (As := []) (rest := []) ⟨hx, hb, hml, hown, hts⟩ (r_X14_next l dC dI L kd tys fr_11 H.size g.2.2.2.1 adK adV a0_ ma0_ ka0_) (cwV 0 hts (gV_ t_2411 t_2413 t_102 t_198 t_2414) rfl rfl rfl (by decide +kernel) ⟨(Nat.le_of_ble_eq_true rfl), (Nat.le_of_ble_eq_true rfl)⟩) (pre3VA g hK hAm ma0_ ka0_ (by decide) (q := (RX14, TX14, 67)) rfl) rfl hl.1 rfl (lv_room (Nat.le_of_ble_eq_true rfl)) dX14_opening_23 ⟨(Nat.le_of_ble_eq_true rfl), (Nat.le_of_ble_eq_true rfl)⟩ g hK (by decide) (by decide) (fx' := [(14, 25, a0_, .int x_12)]) rfl (fun xr_15 fr_15 H locs mxr_15 kxr_15 hp hMr_15 g => ?_) (fun fr_15 H locs hp hMr_15 g => ?_)
        · subst hQ
          exact WX.leaves hempty hlocks (fun t ht hW => g_thrE g hK mxr_15 kxr_15 trivial ht hW) g.2.2.1.2.2
        · obtain ⟨x_16, h_17, hF_18⟩ := hp
          have g := g.more hF_18
          subst hQ
          exact W.thenQ (W.vret hx hb hr (fun t ht hW => g_retE g hK ⟨rfl, ⟨x_16, h_17, x_12, h_13, (g.fcts [0, 1] rfl)⟩⟩ ht hW) g.2.2.1.2.2 dX14_opening_26) (fun _ => MQ.toE)
set_option maxHeartbeats 4000000 in
set_option maxRecDepth 100000 in
theorem r_X14_takes (l : Launch) (dC : Nat → ClassId) (dI : Nat → Nat → Nat) (L : List Nat) (kd : Nat → Nat) (tys : List (ClassId × FieldType)) (f0 : Nat → va_E) (sz : Nat) (hWT : WT L kd tys f0) (adK adV : Nat → Nat) (a0_ : Nat) (ma0_ : a0_ ∈ L) (ka0_ : kd a0_ = 14) (x1_ : Int32) : MetE l yX14_takes (.code yX14_takes cX14_takes 3 (some .boolean) :: lw_g) ({ frames := 7, cells := 0, slots := 0, locals := 155 }) (va_Pc [.ref a0_, .int x1_] (P3A (dC, dI) L tys f0 sz adK adV)) (q3E (dC, dI) L kd tys [(14, 6), (14, 7), (14, 8), (14, 9), (14, 10), (14, 11), (14, 12), (14, 13), (14, 14), (14, 15)] [] f0 sz (pRi (fun (r : Int32) (f : Nat → va_E) => (r = 0 ∧ True) ∨ (r = 1 ∧ ∃ z0_ : Int32, bd 0 1201 z0_ ∧ Fs L kd f [(14, 10, a0_, .int z0_)]))) (fun (f : Nat → va_E) => True)) 0 0 (pA L sz) := by
  refine MetE.ofW (cc := cX14_takes) (maxL := 3) (ret := (some .boolean)) (by decide) rfl ?_
  intro p e s m args below meth c s₁ B hml hempty hv
  obtain ⟨rfl, ⟨hsz, hP, hK, hD0⟩, hAm⟩ := hv
  have hx := B.exec
  have hb := B.bytes
  have hr := B.returns
  have hts := atoms_spec (ws := (.code yX14_takes cX14_takes 3 (some .boolean) :: lw_g)) B.pre
  have hown : s.vm.findClass RX14 = some m.cls := findClass_of_methodNamed B.named
  have hlocks := B.notSynchronized
  subst hsz
  have g : G3 (dC, dI) L kd tys s f0 [(14, 6), (14, 7), (14, 8), (14, 9), (14, 10), (14, 11), (14, 12), (14, 13), (14, 14), (14, 15)] [] f0 s.heap [] [] := G3.start hP hD0 hWT Fs.nil
  have hl := lv_entry ([.ref a0_, .int x1_]) (n := 3) (Nat.le_of_ble_eq_true rfl)
  rw [lg_entry_eq]
  generalize (lg_sl ([.ref a0_, .int x1_]) ++ List.replicate (3 - (lg_sl ([.ref a0_, .int x1_])).length) Slot.unset).toArray = ls at hl ⊢
  have hl : lv_has ls 3 [(0, .ref a0_), (1, .int x1_)] := hl
  refine W_q (fun Q hQ => ?_)
  refine lv_aload_n hx hb dX14_takes_0 rfl (lv_at hl 0 rfl) ?_
  refine lv_iload_n hx hb dX14_takes_1 rfl (lv_at hl 1 rfl) ?_
  refine g_calli (va_runV (As := [.int x1_]) (rest := []) ⟨hx, hb, hml, hown, hts⟩ (r_X14_isWord l dC dI L kd tys f0 s.heap.size g.2.2.2.1 a0_ ma0_ ka0_ x1_) (cwV 1 hts (gV_ t_2399 t_2401 t_99 t_198 t_2402) rfl rfl rfl (by decide +kernel) ⟨(Nat.le_of_ble_eq_true rfl), (Nat.le_of_ble_eq_true rfl)⟩) (pre3V g hK ma0_ ka0_ (by decide) (q := (RX14, TX14, 67)) rfl) rfl rfl hl.1 rfl (lv_room (Nat.le_of_ble_eq_true rfl)) dX14_takes_2 ⟨(Nat.le_of_ble_eq_true rfl), (Nat.le_of_ble_eq_true rfl)⟩) g hK (by decide) (by decide) (fx' := []) rfl (fun r_1 fr_1 H locs hp hMr_1 g => ?_)
  rcases hp with ⟨h_2, -⟩ | ⟨h_3, x_4, h_5, hF_6⟩
  · obtain rfl : r_1 = 0 := h_2
    refine lv_istore_n (lv' := [(2, .int 0), (0, .ref a0_), (1, .int x1_)]) hx hb dX14_takes_5 rfl hl (by decide) rfl (fun ls hl => ?_)
    refine lv_iload_n hx hb dX14_takes_6 rfl (lv_at hl 0 rfl) ?_
    refine lv_if_eq (tgt := 14) hx hb dX14_takes_7 (by decide) (fun c_ => ?_) (fun c_ => absurd (by decide) c_)
    refine lv_iload_n hx hb dX14_takes_14 rfl (lv_at hl 0 rfl) ?_
    subst hQ
    have kb_0 : bd 0 0 (0 : Int32) := ⟨by decide, by decide⟩
    exact W.thenQ (W.zret (v := 0) hx hb hr (nar_z (bd_sub kb_0 (by decide) : bd 0 1 _).1 (bd_sub kb_0 (by decide) : bd 0 1 _).2) (fun t ht hW => g_retE g hK ⟨_, rfl, Or.inl ⟨rfl, trivial⟩⟩ ht hW) g.2.2.1.2.2 dX14_takes_15) (fun _ => MQ.toE)
  · obtain rfl : r_1 = 1 := h_3
    have g := g.more hF_6
    refine lv_istore_n (lv' := [(2, .int 1), (0, .ref a0_), (1, .int x1_)]) hx hb dX14_takes_5 rfl hl (by decide) rfl (fun ls hl => ?_)
    refine lv_iload_n hx hb dX14_takes_6 rfl (lv_at hl 0 rfl) ?_
    refine lv_if_eq (tgt := 14) hx hb dX14_takes_7 (by decide) (fun c_ => absurd c_ (by decide)) (fun c_ => ?_)
    refine lv_aload_n hx hb dX14_takes_10 rfl (lv_at hl 1 rfl) ?_
    refine g_callEv (As := []) (rest := []) ⟨hx, hb, hml, hown, hts⟩ (r_X14_next l dC dI L kd tys fr_1 H.size g.2.2.2.1 adK adV a0_ ma0_ ka0_) (cwV 0 hts (gV_ t_2411 t_2413 t_102 t_198 t_2414) rfl rfl rfl (by decide +kernel) ⟨(Nat.le_of_ble_eq_true rfl), (Nat.le_of_ble_eq_true rfl)⟩) (pre3VA g hK hAm ma0_ ka0_ (by decide) (q := (RX14, TX14, 67)) rfl) rfl hl.1 rfl (lv_room (Nat.le_of_ble_eq_true rfl)) dX14_takes_11 ⟨(Nat.le_of_ble_eq_true rfl), (Nat.le_of_ble_eq_true rfl)⟩ g hK (by decide) (by decide) (fx' := []) rfl (fun xr_7 fr_7 H locs mxr_7 kxr_7 hp hMr_7 g => ?_) (fun fr_7 H locs hp hMr_7 g => ?_)
    · subst hQ
      exact WX.leaves hempty hlocks (fun t ht hW => g_thrE g hK mxr_7 kxr_7 trivial ht hW) g.2.2.1.2.2
    · obtain ⟨x_8, h_9, hF_10⟩ := hp
      have g := g.more hF_10
      refine lv_iload_n hx hb dX14_takes_14 rfl (lv_at hl 0 rfl) ?_
      subst hQ
      have kb_1 : bd 1 1 (1 : Int32) := ⟨by decide, by decide⟩
      exact W.thenQ (W.zret (v := 1) hx hb hr (nar_z (bd_sub kb_1 (by decide) : bd 0 1 _).1 (bd_sub kb_1 (by decide) : bd 0 1 _).2) (fun t ht hW => g_retE g hK ⟨_, rfl, Or.inr (⟨rfl, x_8, h_9, (g.fcts [0] rfl)⟩)⟩ ht hW) g.2.2.1.2.2 dX14_takes_15) (fun _ => MQ.toE)
set_option maxHeartbeats 4000000 in
set_option maxRecDepth 100000 in
theorem r_X14_word (l : Launch) (dC : Nat → ClassId) (dI : Nat → Nat → Nat) (L : List Nat) (kd : Nat → Nat) (tys : List (ClassId × FieldType)) (f0 : Nat → va_E) (sz : Nat) (hWT : WT L kd tys f0) (adK adV : Nat → Nat) (a0_ : Nat) (ma0_ : a0_ ∈ L) (ka0_ : kd a0_ = 14) (x1_ : Int32) : MetE l yX14_word (.code yX14_word cX14_word 2 none :: lw_g) ({ frames := 7, cells := 0, slots := 0, locals := 155 }) (va_Pc [.ref a0_, .int x1_] (P3A (dC, dI) L tys f0 sz adK adV)) (q3E (dC, dI) L kd tys [(14, 6), (14, 7), (14, 8), (14, 9), (14, 10), (14, 11), (14, 12), (14, 13), (14, 14), (14, 15)] [] f0 sz (pRv (fun (f : Nat → va_E) => (∃ z0_ : Int32, bd 0 1201 z0_ ∧ Fs L kd f [(14, 10, a0_, .int z0_)]))) (fun (f : Nat → va_E) => True)) 0 0 (pA L sz) := by
  refine MetE.ofW (cc := cX14_word) (maxL := 2) (ret := none) (by decide) rfl ?_
  intro p e s m args below meth c s₁ B hml hempty hv
  obtain ⟨rfl, ⟨hsz, hP, hK, hD0⟩, hAm⟩ := hv
  have hx := B.exec
  have hb := B.bytes
  have hr := B.returns
  have hts := atoms_spec (ws := (.code yX14_word cX14_word 2 none :: lw_g)) B.pre
  have hown : s.vm.findClass RX14 = some m.cls := findClass_of_methodNamed B.named
  have hlocks := B.notSynchronized
  subst hsz
  have g : G3 (dC, dI) L kd tys s f0 [(14, 6), (14, 7), (14, 8), (14, 9), (14, 10), (14, 11), (14, 12), (14, 13), (14, 14), (14, 15)] [] f0 s.heap [] [] := G3.start hP hD0 hWT Fs.nil
  have hl := lv_entry ([.ref a0_, .int x1_]) (n := 2) (Nat.le_of_ble_eq_true rfl)
  rw [lg_entry_eq]
  generalize (lg_sl ([.ref a0_, .int x1_]) ++ List.replicate (2 - (lg_sl ([.ref a0_, .int x1_])).length) Slot.unset).toArray = ls at hl ⊢
  have hl : lv_has ls 2 [(0, .ref a0_), (1, .int x1_)] := hl
  refine W_q (fun Q hQ => ?_)
  refine lv_aload_n hx hb dX14_word_0 rfl (lv_at hl 0 rfl) ?_
  refine lv_aload_n hx hb dX14_word_1 rfl (lv_at hl 0 rfl) ?_
  refine lv_iload_n hx hb dX14_word_2 rfl (lv_at hl 1 rfl) ?_
  refine g_calli (va_runV (As := [.int x1_]) (rest := [.ref a0_]) ⟨hx, hb, hml, hown, hts⟩ (r_X14_isWord l dC dI L kd tys f0 s.heap.size g.2.2.2.1 a0_ ma0_ ka0_ x1_) (cwV 1 hts (gV_ t_2399 t_2401 t_99 t_198 t_2402) rfl rfl rfl (by decide +kernel) ⟨(Nat.le_of_ble_eq_true rfl), (Nat.le_of_ble_eq_true rfl)⟩) (pre3V g hK ma0_ ka0_ (by decide) (q := (RX14, TX14, 67)) rfl) rfl rfl hl.1 rfl (lv_room (Nat.le_of_ble_eq_true rfl)) dX14_word_3 ⟨(Nat.le_of_ble_eq_true rfl), (Nat.le_of_ble_eq_true rfl)⟩) g hK (by decide) (by decide) (fx' := []) rfl (fun r_1 fr_1 H locs hp hMr_1 g => ?_)
  rcases hp with ⟨h_2, -⟩ | ⟨h_3, x_4, h_5, hF_6⟩
  · obtain rfl : r_1 = 0 := h_2
    refine lv_iconst (v := 1) hx hb dX14_word_6 (by decide) ?_
    refine lv_aload_n hx hb dX14_word_7 rfl (lv_at hl 0 rfl) ?_
    refine g_geti (C := RX14) (T := TX14) (N := 67) hx hb hts (mc_ inX14) hown hK g ma0_ ka0_ (by decide) rfl 8 (by decide) rfl (hts _ (List.mem_cons_of_mem _ t_2154)) (fun _ h9 => h9) rfl dX14_word_8 (fun x_7 bx_7 g => ?_)
    have kb_0 : bd 0 0 (0 : Int32) := ⟨by decide, by decide⟩
    refine g_callEv (As := [.int 0, .int 1, .int x_7]) (rest := []) ⟨hx, hb, hml, hown, hts⟩ (r_X14_need_2 l dC dI L kd tys fr_1 H.size g.2.2.2.1 a0_ ma0_ ka0_ 0 kb_0 1 x_7) (cwV 3 hts (gV_ t_2403 t_2405 t_100 t_198 t_2406) rfl rfl rfl (by decide +kernel) ⟨(Nat.le_of_ble_eq_true rfl), (Nat.le_of_ble_eq_true rfl)⟩) (pre3V g hK ma0_ ka0_ (by decide) (q := (RX14, TX14, 67)) rfl) rfl hl.1 rfl (lv_room (Nat.le_of_ble_eq_true rfl)) dX14_word_11 ⟨(Nat.le_of_ble_eq_true rfl), (Nat.le_of_ble_eq_true rfl)⟩ g hK (by decide) (by decide) (fx' := [(14, 8, a0_, .int x_7)]) rfl (fun xr_8 fr_8 H locs mxr_8 kxr_8 hp hMr_8 g => ?_) (fun fr_8 H locs hp hMr_8 g => ?_)
    · subst hQ
      exact WX.leaves hempty hlocks (fun t ht hW => g_thrE g hK mxr_8 kxr_8 trivial ht hW) g.2.2.1.2.2
    · exact hp.elim
  · obtain rfl : r_1 = 1 := h_3
    have g := g.more hF_6
    refine lv_iconst (v := 1) hx hb dX14_word_6 (by decide) ?_
    refine lv_aload_n hx hb dX14_word_7 rfl (lv_at hl 0 rfl) ?_
    refine g_geti (C := RX14) (T := TX14) (N := 67) hx hb hts (mc_ inX14) hown hK g ma0_ ka0_ (by decide) rfl 8 (by decide) rfl (hts _ (List.mem_cons_of_mem _ t_2154)) (fun _ h9 => h9) rfl dX14_word_8 (fun x_9 bx_9 g => ?_)
    have kb_1 : bd 1 1 (1 : Int32) := ⟨by decide, by decide⟩
    refine g_callEv (As := [.int 1, .int 1, .int x_9]) (rest := []) ⟨hx, hb, hml, hown, hts⟩ (r_X14_need_3 l dC dI L kd tys fr_1 H.size g.2.2.2.1 a0_ ma0_ ka0_ 1 kb_1 1 x_9) (cwV 3 hts (gV_ t_2403 t_2405 t_100 t_198 t_2406) rfl rfl rfl (by decide +kernel) ⟨(Nat.le_of_ble_eq_true rfl), (Nat.le_of_ble_eq_true rfl)⟩) (pre3V g hK ma0_ ka0_ (by decide) (q := (RX14, TX14, 67)) rfl) rfl hl.1 rfl (lv_room (Nat.le_of_ble_eq_true rfl)) dX14_word_11 ⟨(Nat.le_of_ble_eq_true rfl), (Nat.le_of_ble_eq_true rfl)⟩ g hK (by decide) (by decide) (fx' := [(14, 8, a0_, .int x_9), (14, 6, a0_, .int x_4)]) rfl (fun xr_10 fr_10 H locs mxr_10 kxr_10 hp hMr_10 g => ?_) (fun fr_10 H locs hp hMr_10 g => ?_)
    · exact hp.elim
    · refine lv_aload_n hx hb dX14_word_14 rfl (lv_at hl 0 rfl) ?_
      refine g_callEv (As := []) (rest := []) ⟨hx, hb, hml, hown, hts⟩ (r_X14_next l dC dI L kd tys fr_10 H.size g.2.2.2.1 adK adV a0_ ma0_ ka0_) (cwV 0 hts (gV_ t_2411 t_2413 t_102 t_198 t_2414) rfl rfl rfl (by decide +kernel) ⟨(Nat.le_of_ble_eq_true rfl), (Nat.le_of_ble_eq_true rfl)⟩) (pre3VA g hK hAm ma0_ ka0_ (by decide) (q := (RX14, TX14, 67)) rfl) rfl hl.1 rfl (lv_room (Nat.le_of_ble_eq_true rfl)) dX14_word_15 ⟨(Nat.le_of_ble_eq_true rfl), (Nat.le_of_ble_eq_true rfl)⟩ g hK (by decide) (by decide) (fx' := []) rfl (fun xr_11 fr_11 H locs mxr_11 kxr_11 hp hMr_11 g => ?_) (fun fr_11 H locs hp hMr_11 g => ?_)
      · subst hQ
        exact WX.leaves hempty hlocks (fun t ht hW => g_thrE g hK mxr_11 kxr_11 trivial ht hW) g.2.2.1.2.2
      · obtain ⟨x_12, h_13, hF_14⟩ := hp
        have g := g.more hF_14
        subst hQ
        exact W.thenQ (W.vret hx hb hr (fun t ht hW => g_retE g hK ⟨rfl, ⟨x_12, h_13, (g.fcts [0] rfl)⟩⟩ ht hW) g.2.2.1.2.2 dX14_word_18) (fun _ => MQ.toE)
