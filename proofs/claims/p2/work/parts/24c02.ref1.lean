set_option maxHeartbeats 4000000 in
set_option maxRecDepth 100000 in
theorem r_X14_model (l : Launch) (dC : Nat → ClassId) (dI : Nat → Nat → Nat) (L : List Nat) (kd : Nat → Nat) (tys : List (ClassId × FieldType)) (f0 : Nat → va_E) (sz : Nat) (hWT : WT L kd tys f0) (a0_ : Nat) (ma0_ : a0_ ∈ L) (ka0_ : kd a0_ = 14) (x1_ : Int32) (x2_ : Int32) : Met l yX14_model (.code yX14_model cX14_model 3 (some .int) :: lw_g) ({ frames := 2, cells := 0, slots := 0, locals := 46 }) (va_Pc [.ref a0_, .int x1_, .int x2_] (P3 (dC, dI) L tys f0 sz)) (va_Qi (fun (r : Int32) (f : Nat → va_E) => (r = (-2) ∧ True) ∨ (r = 1 ∧ bd 0 7 x1_ ∧ bd (-1) 7 x2_ ∧ True)) (Q3 (dC, dI) L kd tys [] [211] f0 sz) (pA L sz)) 0 0 (pA L sz) := by
  refine Met.ofW (cc := cX14_model) (maxL := 3) (ret := (some .int)) (by decide) rfl ?_
  intro p e s m args below meth c s₁ B hml hv
  obtain ⟨rfl, hsz, hP, hK, hD0⟩ := hv
  have hx := B.exec
  have hb := B.bytes
  have hr := B.returns
  have hts := atoms_spec (ws := (.code yX14_model cX14_model 3 (some .int) :: lw_g)) B.pre
  have hown : s.vm.findClass RX14 = some m.cls := findClass_of_methodNamed B.named
  have hlocks := B.notSynchronized
  subst hsz
  have g : G3 (dC, dI) L kd tys s f0 [] [211] f0 s.heap [] [] := G3.start hP hD0 hWT Fs.nil
  have hl := lv_entry ([.ref a0_, .int x1_, .int x2_]) (n := 3) (Nat.le_of_ble_eq_true rfl)
  rw [lg_entry_eq]
  generalize (lg_sl ([.ref a0_, .int x1_, .int x2_]) ++ List.replicate (3 - (lg_sl ([.ref a0_, .int x1_, .int x2_])).length) Slot.unset).toArray = ls at hl ⊢
  have hl : lv_has ls 3 [(0, .ref a0_), (1, .int x1_), (2, .int x2_)] := hl
  refine W_q (fun Q hQ => ?_)
  refine lv_aload_n hx hb dX14_model_0 rfl (lv_at hl 0 rfl) ?_
  refine lv_iload_n hx hb dX14_model_1 rfl (lv_at hl 1 rfl) ?_
  refine g_calli (va_runV (As := [.int x1_]) (rest := []) ⟨hx, hb, hml, hown, hts⟩ (r_X14_isClass l dC dI L kd tys f0 s.heap.size g.2.2.2.1 a0_ ma0_ ka0_ x1_) (cwV 1 hts (gV_ t_2574 t_2576 t_137 t_198 t_2577) rfl rfl rfl (by decide +kernel) ⟨(Nat.le_of_ble_eq_true rfl), (Nat.le_of_ble_eq_true rfl)⟩) (pre3V g hK ma0_ ka0_ (by decide) (q := (RX14, TX14, 67)) rfl) rfl rfl hl.1 rfl (lv_room (Nat.le_of_ble_eq_true rfl)) dX14_model_2 ⟨(Nat.le_of_ble_eq_true rfl), (Nat.le_of_ble_eq_true rfl)⟩) g hK (by decide) (by decide) (fx' := []) rfl (fun r_1 fr_1 H locs hp hMr_1 g => ?_)
  rcases hp with ⟨h_2, -⟩ | ⟨h_3, h_4, -⟩
  · obtain rfl : r_1 = 0 := h_2
    refine lv_if_eq (tgt := 21) hx hb dX14_model_5 (by decide) (fun c_ => ?_) (fun c_ => absurd (by decide) c_)
    refine lv_bipush (v := (-2)) hx hb dX14_model_21 (by decide) ?_
    subst hQ
    exact W.iret (v := (-2)) hx hb hr (fun t ht hW => ⟨⟨_, _, rfl, Or.inl ⟨rfl, trivial⟩, q3_of g hK ht hW⟩, g.2.2.1.F ht⟩) g.2.2.1.2.2 dX14_model_23
  · obtain rfl : r_1 = 1 := h_3
    have b_5 : bd 0 7 x1_ := eqX rfl (bdT x1_) h_4 (by decide)
    refine lv_if_eq (tgt := 21) hx hb dX14_model_5 (by decide) (fun c_ => absurd c_ (by decide)) (fun c_ => ?_)
    refine lv_iload_n hx hb dX14_model_8 rfl (lv_at hl 2 rfl) ?_
    refine lv_iconst (v := (-1)) hx hb dX14_model_9 (by decide) ?_
    have kb_m1 : bd (-1) (-1) ((-1) : Int32) := ⟨by decide, by decide⟩
    refine lv_icmp_eq (tgt := 24) hx hb dX14_model_10 (by decide) (fun c_6 => ?_) (fun c_6 => ?_)
    · have fc_6 := eq_f c_6
      have b_7 : bd (-1) (-1) x2_ := eqX fc_6 (bdT x2_) kb_m1 (by decide)
      refine lv_aload_n hx hb dX14_model_24 rfl (lv_at hl 0 rfl) ?_
      refine g_getr (K := 12) (C := RX14) (T := TX14) (N := 67) hx hb hts (mc_ inX14) hown hK g ma0_ ka0_ (by decide) rfl 1 (by decide) rfl (hts _ (List.mem_cons_of_mem _ t_2147)) (fun _ h9 => h9) rfl dX14_model_25 (fun a_8 ma_8 ka_8 g => ?_)
      refine g_getr (K := 211) (C := RX12) (T := TX12) (N := 60) hx hb hts (mc_ inX12) hown hK g ma_8 ka_8 (by decide) rfl 59 (by decide) rfl (hts _ (List.mem_cons_of_mem _ t_2020)) (fun _ h9 => h9) rfl dX14_model_28 (fun a_9 ma_9 ka_9 g => ?_)
      refine lv_iload_n hx hb dX14_model_31 rfl (lv_at hl 1 rfl) ?_
      refine lv_iload_n hx hb dX14_model_32 rfl (lv_at hl 2 rfl) ?_
      refine g_iast hx hb hK g ma_9 ka_9 (by decide) rfl (in_bd b_5 (by decide)) (bd_sub b_7 (by decide)) (by decide) dX14_model_33 (fun f H locs hM_10 g => ?_)
      refine lv_iconst (v := 1) hx hb dX14_model_34 (by decide) ?_
      subst hQ
      exact W.iret (v := 1) hx hb hr (fun t ht hW => ⟨⟨_, _, rfl, Or.inr (⟨rfl, b_5, (bd_sub b_7 (by decide)), trivial⟩), q3_of g hK ht hW⟩, g.2.2.1.F ht⟩) g.2.2.1.2.2 dX14_model_35
    · have fc_6 := neq_f c_6
      refine lv_aload_n hx hb dX14_model_13 rfl (lv_at hl 0 rfl) ?_
      refine lv_iload_n hx hb dX14_model_14 rfl (lv_at hl 2 rfl) ?_
      refine g_calli (va_runV (As := [.int x2_]) (rest := []) ⟨hx, hb, hml, hown, hts⟩ (r_X14_isClass l dC dI L kd tys fr_1 H.size g.2.2.2.1 a0_ ma0_ ka0_ x2_) (cwV 1 hts (gV_ t_2574 t_2576 t_137 t_198 t_2577) rfl rfl rfl (by decide +kernel) ⟨(Nat.le_of_ble_eq_true rfl), (Nat.le_of_ble_eq_true rfl)⟩) (pre3V g hK ma0_ ka0_ (by decide) (q := (RX14, TX14, 67)) rfl) rfl rfl hl.1 rfl (lv_room (Nat.le_of_ble_eq_true rfl)) dX14_model_15 ⟨(Nat.le_of_ble_eq_true rfl), (Nat.le_of_ble_eq_true rfl)⟩) g hK (by decide) (by decide) (fx' := []) rfl (fun r_11 fr_11 H locs hp hMr_11 g => ?_)
      rcases hp with ⟨h_12, -⟩ | ⟨h_13, h_14, -⟩
      · obtain rfl : r_11 = 0 := h_12
        refine lv_if_ne (tgt := 24) hx hb dX14_model_18 (by decide) (fun c_ => absurd c_ (by decide)) (fun c_ => ?_)
        refine lv_bipush (v := (-2)) hx hb dX14_model_21 (by decide) ?_
        subst hQ
        exact W.iret (v := (-2)) hx hb hr (fun t ht hW => ⟨⟨_, _, rfl, Or.inl ⟨rfl, trivial⟩, q3_of g hK ht hW⟩, g.2.2.1.F ht⟩) g.2.2.1.2.2 dX14_model_23
      · obtain rfl : r_11 = 1 := h_13
        have b_15 : bd 0 7 x2_ := eqX rfl (bdT x2_) h_14 (by decide)
        refine lv_if_ne (tgt := 24) hx hb dX14_model_18 (by decide) (fun c_ => ?_) (fun c_ => absurd c_ (by decide))
        refine lv_aload_n hx hb dX14_model_24 rfl (lv_at hl 0 rfl) ?_
        refine g_getr (K := 12) (C := RX14) (T := TX14) (N := 67) hx hb hts (mc_ inX14) hown hK g ma0_ ka0_ (by decide) rfl 1 (by decide) rfl (hts _ (List.mem_cons_of_mem _ t_2147)) (fun _ h9 => h9) rfl dX14_model_25 (fun a_16 ma_16 ka_16 g => ?_)
        refine g_getr (K := 211) (C := RX12) (T := TX12) (N := 60) hx hb hts (mc_ inX12) hown hK g ma_16 ka_16 (by decide) rfl 59 (by decide) rfl (hts _ (List.mem_cons_of_mem _ t_2020)) (fun _ h9 => h9) rfl dX14_model_28 (fun a_17 ma_17 ka_17 g => ?_)
        refine lv_iload_n hx hb dX14_model_31 rfl (lv_at hl 1 rfl) ?_
        refine lv_iload_n hx hb dX14_model_32 rfl (lv_at hl 2 rfl) ?_
        refine g_iast hx hb hK g ma_17 ka_17 (by decide) rfl (in_bd b_5 (by decide)) (bd_sub b_15 (by decide)) (by decide) dX14_model_33 (fun f H locs hM_18 g => ?_)
        refine lv_iconst (v := 1) hx hb dX14_model_34 (by decide) ?_
        subst hQ
        exact W.iret (v := 1) hx hb hr (fun t ht hW => ⟨⟨_, _, rfl, Or.inr (⟨rfl, b_5, (bd_sub b_15 (by decide)), trivial⟩), q3_of g hK ht hW⟩, g.2.2.1.F ht⟩) g.2.2.1.2.2 dX14_model_35
set_option maxHeartbeats 4000000 in
set_option maxRecDepth 100000 in
theorem r_X14_ends (l : Launch) (dC : Nat → ClassId) (dI : Nat → Nat → Nat) (L : List Nat) (kd : Nat → Nat) (tys : List (ClassId × FieldType)) (f0 : Nat → va_E) (sz : Nat) (hWT : WT L kd tys f0) (a0_ : Nat) (ma0_ : a0_ ∈ L) (ka0_ : kd a0_ = 14) (x1_ : Int32) : MetE l yX14_ends (.code yX14_ends cX14_ends 2 none :: lw_g) ({ frames := 0, cells := 0, slots := 0, locals := 0 }) (va_Pc [.ref a0_, .int x1_] (P3 (dC, dI) L tys f0 sz)) (q3E (dC, dI) L kd tys [(14, 31)] [] f0 sz (pRv (fun (f : Nat → va_E) => False)) (fun (f : Nat → va_E) => True)) 0 0 (pA L sz) := by
  refine MetE.ofW (cc := cX14_ends) (maxL := 2) (ret := none) (by decide) rfl ?_
  intro p e s m args below meth c s₁ B hml hempty hv
  obtain ⟨rfl, hsz, hP, hK, hD0⟩ := hv
  have hx := B.exec
  have hb := B.bytes
  have hr := B.returns
  have hts := atoms_spec (ws := (.code yX14_ends cX14_ends 2 none :: lw_g)) B.pre
  have hown : s.vm.findClass RX14 = some m.cls := findClass_of_methodNamed B.named
  have hlocks := B.notSynchronized
  subst hsz
  have g : G3 (dC, dI) L kd tys s f0 [(14, 31)] [] f0 s.heap [] [] := G3.start hP hD0 hWT Fs.nil
  have hl := lv_entry ([.ref a0_, .int x1_]) (n := 2) (Nat.le_of_ble_eq_true rfl)
  rw [lg_entry_eq]
  generalize (lg_sl ([.ref a0_, .int x1_]) ++ List.replicate (2 - (lg_sl ([.ref a0_, .int x1_])).length) Slot.unset).toArray = ls at hl ⊢
  have hl : lv_has ls 2 [(0, .ref a0_), (1, .int x1_)] := hl
  refine W_q (fun Q hQ => ?_)
  refine lv_aload_n hx hb dX14_ends_0 rfl (lv_at hl 0 rfl) ?_
  refine lv_iload_n hx hb dX14_ends_1 rfl (lv_at hl 1 rfl) ?_
  refine g_put (C := RX14) (T := TX14) (N := 67) hx hb hts (mc_ inX14) tyX14 tyX14_ok nmX14 hown hK g ma0_ ka0_ (by decide) rfl 31 (by decide) (hts _ (List.mem_cons_of_mem _ t_2177)) (fun _ h9 => h9) rfl rfl (okV_i (bdT x1_)) rfl rfl (by decide) (Or.inr (Or.inl (by decide))) (fx' := []) rfl dX14_ends_2 (fun f H locs hM_1 g => ?_)
  refine lv_aload_n hx hb dX14_ends_5 rfl (lv_at hl 0 rfl) ?_
  refine g_getr (K := 13) (C := RX14) (T := TX14) (N := 67) hx hb hts (mc_ inX14) hown hK g ma0_ ka0_ (by decide) rfl 0 (by decide) rfl (hts _ (List.mem_cons_of_mem _ t_2146)) (fun _ h9 => h9) rfl dX14_ends_6 (fun a_2 ma_2 ka_2 g => ?_)
  subst hQ
  exact e_athrow hx hb hempty hlocks (fun t ht hW => g_thrE g hK ma_2 ka_2 trivial ht hW) g.2.2.1.2.2 dX14_ends_9
set_option maxHeartbeats 4000000 in
set_option maxRecDepth 100000 in
theorem r_X14_throwsWord (l : Launch) (dC : Nat → ClassId) (dI : Nat → Nat → Nat) (L : List Nat) (kd : Nat → Nat) (tys : List (ClassId × FieldType)) (f0 : Nat → va_E) (sz : Nat) (hWT : WT L kd tys f0) (a0_ : Nat) (ma0_ : a0_ ∈ L) (ka0_ : kd a0_ = 14) (x1_ : Int64) (x2_ : Int64) : MetE l yX14_throwsWord (.code yX14_throwsWord cX14_throwsWord 5 none :: lw_g) ({ frames := 1, cells := 0, slots := 0, locals := 21 }) (va_Pc [.ref a0_, .long x1_, .long x2_] (P3 (dC, dI) L tys f0 sz)) (q3E (dC, dI) L kd tys [(14, 31), (14, 32), (14, 33), (14, 39), (14, 40)] [] f0 sz (pRv (fun (f : Nat → va_E) => False)) (fun (f : Nat → va_E) => True)) 0 0 (pA L sz) := by
  refine MetE.ofW (cc := cX14_throwsWord) (maxL := 5) (ret := none) (by decide) rfl ?_
  intro p e s m args below meth c s₁ B hml hempty hv
  obtain ⟨rfl, hsz, hP, hK, hD0⟩ := hv
  have hx := B.exec
  have hb := B.bytes
  have hr := B.returns
  have hts := atoms_spec (ws := (.code yX14_throwsWord cX14_throwsWord 5 none :: lw_g)) B.pre
  have hown : s.vm.findClass RX14 = some m.cls := findClass_of_methodNamed B.named
  have hlocks := B.notSynchronized
  subst hsz
  have g : G3 (dC, dI) L kd tys s f0 [(14, 31), (14, 32), (14, 33), (14, 39), (14, 40)] [] f0 s.heap [] [] := G3.start hP hD0 hWT Fs.nil
  have hl := lv_entry ([.ref a0_, .long x1_, .long x2_]) (n := 5) (Nat.le_of_ble_eq_true rfl)
  rw [lg_entry_eq]
  generalize (lg_sl ([.ref a0_, .long x1_, .long x2_]) ++ List.replicate (5 - (lg_sl ([.ref a0_, .long x1_, .long x2_])).length) Slot.unset).toArray = ls at hl ⊢
  have hl : lv_has ls 5 [(0, .ref a0_), (1, .long x1_), (3, .long x2_)] := hl
  refine W_q (fun Q hQ => ?_)
  refine lv_aload_n hx hb dX14_throwsWord_0 rfl (lv_at hl 0 rfl) ?_
  refine lv_lload_n hx hb dX14_throwsWord_1 rfl (lv_at hl 1 rfl) ?_
  refine g_put (C := RX14) (T := TX14) (N := 67) hx hb hts (mc_ inX14) tyX14 tyX14_ok nmX14 hown hK g ma0_ ka0_ (by decide) rfl 32 (by decide) (hts _ (List.mem_cons_of_mem _ t_2178)) (fun _ h9 => h9) rfl rfl okV_l rfl rfl (by decide) (Or.inr (Or.inl (by decide))) (fx' := []) rfl dX14_throwsWord_2 (fun f H locs hM_1 g => ?_)
  refine lv_aload_n hx hb dX14_throwsWord_5 rfl (lv_at hl 0 rfl) ?_
  refine lv_lload_n hx hb dX14_throwsWord_6 rfl (lv_at hl 2 rfl) ?_
  refine g_put (C := RX14) (T := TX14) (N := 67) hx hb hts (mc_ inX14) tyX14 tyX14_ok nmX14 hown hK g ma0_ ka0_ (by decide) rfl 33 (by decide) (hts _ (List.mem_cons_of_mem _ t_2179)) (fun _ h9 => h9) rfl rfl okV_l rfl rfl (by decide) (Or.inr (Or.inl (by decide))) (fx' := [(14, 32, a0_, .long x1_)]) rfl dX14_throwsWord_7 (fun f H locs hM_2 g => ?_)
  refine lv_aload_n hx hb dX14_throwsWord_10 rfl (lv_at hl 0 rfl) ?_
  refine lv_lload_n hx hb dX14_throwsWord_11 rfl (lv_at hl 1 rfl) ?_
  refine g_put (C := RX14) (T := TX14) (N := 67) hx hb hts (mc_ inX14) tyX14 tyX14_ok nmX14 hown hK g ma0_ ka0_ (by decide) rfl 39 (by decide) (hts _ (List.mem_cons_of_mem _ t_2185)) (fun _ h9 => h9) rfl rfl okV_l rfl rfl (by decide) (Or.inr (Or.inl (by decide))) (fx' := [(14, 33, a0_, .long x2_), (14, 32, a0_, .long x1_)]) rfl dX14_throwsWord_12 (fun f H locs hM_3 g => ?_)
  refine lv_aload_n hx hb dX14_throwsWord_15 rfl (lv_at hl 0 rfl) ?_
  refine lv_lload_n hx hb dX14_throwsWord_16 rfl (lv_at hl 2 rfl) ?_
  refine g_put (C := RX14) (T := TX14) (N := 67) hx hb hts (mc_ inX14) tyX14 tyX14_ok nmX14 hown hK g ma0_ ka0_ (by decide) rfl 40 (by decide) (hts _ (List.mem_cons_of_mem _ t_2186)) (fun _ h9 => h9) rfl rfl okV_l rfl rfl (by decide) (Or.inr (Or.inl (by decide))) (fx' := [(14, 39, a0_, .long x1_), (14, 33, a0_, .long x2_), (14, 32, a0_, .long x1_)]) rfl dX14_throwsWord_17 (fun f H locs hM_4 g => ?_)
  refine lv_aload_n hx hb dX14_throwsWord_20 rfl (lv_at hl 0 rfl) ?_
  refine lv_iconst (v := 1) hx hb dX14_throwsWord_21 (by decide) ?_
  refine g_callEv (As := [.int 1]) (rest := []) ⟨hx, hb, hml, hown, hts⟩ (r_X14_ends l dC dI L kd tys f H.size g.2.2.2.1 a0_ ma0_ ka0_ 1) (cwV 1 hts (gV_ t_2651 t_2653 t_150 t_198 t_2654) rfl rfl rfl (by decide +kernel) ⟨(Nat.le_of_ble_eq_true rfl), (Nat.le_of_ble_eq_true rfl)⟩) (pre3V g hK ma0_ ka0_ (by decide) (q := (RX14, TX14, 67)) rfl) rfl hl.1 rfl (lv_room (Nat.le_of_ble_eq_true rfl)) dX14_throwsWord_22 ⟨(Nat.le_of_ble_eq_true rfl), (Nat.le_of_ble_eq_true rfl)⟩ g hK (by decide) (by decide) (fx' := [(14, 40, a0_, .long x2_), (14, 39, a0_, .long x1_), (14, 33, a0_, .long x2_), (14, 32, a0_, .long x1_)]) rfl (fun xr_5 fr_5 H locs mxr_5 kxr_5 hp hMr_5 g => ?_) (fun fr_5 H locs hp hMr_5 g => ?_)
  · subst hQ
    exact WX.leaves hempty hlocks (fun t ht hW => g_thrE g hK mxr_5 kxr_5 trivial ht hW) g.2.2.1.2.2
  · exact hp.elim
set_option maxHeartbeats 4000000 in
set_option maxRecDepth 100000 in
theorem r_X14_step (l : Launch) (dC : Nat → ClassId) (dI : Nat → Nat → Nat) (L : List Nat) (kd : Nat → Nat) (tys : List (ClassId × FieldType)) (f0 : Nat → va_E) (sz : Nat) (hWT : WT L kd tys f0) (a0_ : Nat) (ma0_ : a0_ ∈ L) (ka0_ : kd a0_ = 14) : MetE l yX14_step (.code yX14_step cX14_step 1 none :: lw_g) ({ frames := 1, cells := 0, slots := 0, locals := 21 }) (va_Pc [.ref a0_] (P3 (dC, dI) L tys f0 sz)) (q3E (dC, dI) L kd tys [(14, 31), (14, 34)] [] f0 sz (pRv (fun (f : Nat → va_E) => (∃ z0_ : Int32, bd (-2147483648) 300 z0_ ∧ Fs L kd f [(14, 34, a0_, .int z0_)]))) (fun (f : Nat → va_E) => True)) 0 0 (pA L sz) := by
  refine MetE.ofW (cc := cX14_step) (maxL := 1) (ret := none) (by decide) rfl ?_
  intro p e s m args below meth c s₁ B hml hempty hv
  obtain ⟨rfl, hsz, hP, hK, hD0⟩ := hv
  have hx := B.exec
  have hb := B.bytes
  have hr := B.returns
  have hts := atoms_spec (ws := (.code yX14_step cX14_step 1 none :: lw_g)) B.pre
  have hown : s.vm.findClass RX14 = some m.cls := findClass_of_methodNamed B.named
  have hlocks := B.notSynchronized
  subst hsz
  have g : G3 (dC, dI) L kd tys s f0 [(14, 31), (14, 34)] [] f0 s.heap [] [] := G3.start hP hD0 hWT Fs.nil
  have hl := lv_entry ([.ref a0_]) (n := 1) (Nat.le_of_ble_eq_true rfl)
  rw [lg_entry_eq]
  generalize (lg_sl ([.ref a0_]) ++ List.replicate (1 - (lg_sl ([.ref a0_])).length) Slot.unset).toArray = ls at hl ⊢
  have hl : lv_has ls 1 [(0, .ref a0_)] := hl
  refine W_q (fun Q hQ => ?_)
  refine lv_aload_n hx hb dX14_step_0 rfl (lv_at hl 0 rfl) ?_
  refine lv_dup hx hb dX14_step_1 rfl ?_
  refine g_geti (C := RX14) (T := TX14) (N := 67) hx hb hts (mc_ inX14) hown hK g ma0_ ka0_ (by decide) rfl 34 (by decide) rfl (hts _ (List.mem_cons_of_mem _ t_2180)) (fun _ h9 => h9) rfl dX14_step_2 (fun x_1 bx_1 g => ?_)
  refine lv_iconst (v := 1) hx hb dX14_step_5 (by decide) ?_
  have kb_1 : bd 1 1 (1 : Int32) := ⟨by decide, by decide⟩
  refine lv_iadd hx hb dX14_step_6 ?_
  refine lv_topi (fun y_2 ey_2 => ?_)
  refine g_put (C := RX14) (T := TX14) (N := 67) hx hb hts (mc_ inX14) tyX14 tyX14_ok nmX14 hown hK g ma0_ ka0_ (by decide) rfl 34 (by decide) (hts _ (List.mem_cons_of_mem _ t_2180)) (fun _ h9 => h9) rfl rfl (okV_i (bdT y_2)) rfl rfl (by decide) (Or.inr (Or.inl (by decide))) (fx' := []) rfl dX14_step_7 (fun f H locs hM_3 g => ?_)
  refine lv_aload_n hx hb dX14_step_10 rfl (lv_at hl 0 rfl) ?_
  refine g_getk (C := RX14) (T := TX14) (N := 67) hx hb hts (mc_ inX14) hown hK g rfl 34 (by decide) rfl (hts _ (List.mem_cons_of_mem _ t_2180)) (fun _ h9 => h9) 0 rfl dX14_step_11 ?_
  refine lv_sipush (v := 300) hx hb dX14_step_14 (by decide) ?_
  have kb_300 : bd 300 300 (300 : Int32) := ⟨by decide, by decide⟩
  refine lv_icmp_le (tgt := 25) hx hb dX14_step_17 (by decide) (fun c_4 => ?_) (fun c_4 => ?_)
  · have fc_4 := le_f c_4
    have b_5 : bd (-2147483648) 300 y_2 := leL fc_4 (bdT y_2) kb_300 (by decide)
    subst hQ
    exact W.thenQ (W.vret hx hb hr (fun t ht hW => g_retE g hK ⟨rfl, ⟨y_2, b_5, (g.fcts [0] rfl)⟩⟩ ht hW) g.2.2.1.2.2 dX14_step_25) (fun _ => MQ.toE)
  · have fc_4 := nle_f c_4
    have b_6 : bd 301 2147483647 y_2 := ltR fc_4 kb_300 (bdT y_2) (by decide)
    refine lv_aload_n hx hb dX14_step_20 rfl (lv_at hl 0 rfl) ?_
    refine lv_iconst (v := 2) hx hb dX14_step_21 (by decide) ?_
    refine g_callEv (As := [.int 2]) (rest := []) ⟨hx, hb, hml, hown, hts⟩ (r_X14_ends l dC dI L kd tys f H.size g.2.2.2.1 a0_ ma0_ ka0_ 2) (cwV 1 hts (gV_ t_2651 t_2653 t_150 t_198 t_2654) rfl rfl rfl (by decide +kernel) ⟨(Nat.le_of_ble_eq_true rfl), (Nat.le_of_ble_eq_true rfl)⟩) (pre3V g hK ma0_ ka0_ (by decide) (q := (RX14, TX14, 67)) rfl) rfl hl.1 rfl (lv_room (Nat.le_of_ble_eq_true rfl)) dX14_step_22 ⟨(Nat.le_of_ble_eq_true rfl), (Nat.le_of_ble_eq_true rfl)⟩ g hK (by decide) (by decide) (fx' := [(14, 34, a0_, .int y_2)]) rfl (fun xr_7 fr_7 H locs mxr_7 kxr_7 hp hMr_7 g => ?_) (fun fr_7 H locs hp hMr_7 g => ?_)
    · subst hQ
      exact WX.leaves hempty hlocks (fun t ht hW => g_thrE g hK mxr_7 kxr_7 trivial ht hW) g.2.2.1.2.2
    · exact hp.elim
set_option maxHeartbeats 4000000 in
set_option maxRecDepth 100000 in
theorem r_X14_classHere (l : Launch) (dC : Nat → ClassId) (dI : Nat → Nat → Nat) (L : List Nat) (kd : Nat → Nat) (tys : List (ClassId × FieldType)) (f0 : Nat → va_E) (sz : Nat) (hWT : WT L kd tys f0) (a0_ : Nat) (ma0_ : a0_ ∈ L) (ka0_ : kd a0_ = 14) : Met l yX14_classHere (.code yX14_classHere cX14_classHere 1 (some .int) :: lw_g) ({ frames := 0, cells := 0, slots := 0, locals := 0 }) (va_Pc [.ref a0_] (P3 (dC, dI) L tys f0 sz)) (va_Qi (fun (r : Int32) (f : Nat → va_E) => (bd (-1) 7 r ∧ True)) (Q3 (dC, dI) L kd tys [] [] f0 sz) (pA L sz)) 0 0 (pA L sz) := by
  refine Met.ofW (cc := cX14_classHere) (maxL := 1) (ret := (some .int)) (by decide) rfl ?_
  intro p e s m args below meth c s₁ B hml hv
  obtain ⟨rfl, hsz, hP, hK, hD0⟩ := hv
  have hx := B.exec
  have hb := B.bytes
  have hr := B.returns
  have hts := atoms_spec (ws := (.code yX14_classHere cX14_classHere 1 (some .int) :: lw_g)) B.pre
  have hown : s.vm.findClass RX14 = some m.cls := findClass_of_methodNamed B.named
  have hlocks := B.notSynchronized
  subst hsz
  have g : G3 (dC, dI) L kd tys s f0 [] [] f0 s.heap [] [] := G3.start hP hD0 hWT Fs.nil
  have hl := lv_entry ([.ref a0_]) (n := 1) (Nat.le_of_ble_eq_true rfl)
  rw [lg_entry_eq]
  generalize (lg_sl ([.ref a0_]) ++ List.replicate (1 - (lg_sl ([.ref a0_])).length) Slot.unset).toArray = ls at hl ⊢
  have hl : lv_has ls 1 [(0, .ref a0_)] := hl
  refine W_q (fun Q hQ => ?_)
  refine lv_aload_n hx hb dX14_classHere_0 rfl (lv_at hl 0 rfl) ?_
  refine g_getr (K := 215) (C := RX14) (T := TX14) (N := 67) hx hb hts (mc_ inX14) hown hK g ma0_ ka0_ (by decide) rfl 27 (by decide) rfl (hts _ (List.mem_cons_of_mem _ t_2173)) (fun _ h9 => h9) rfl dX14_classHere_1 (fun a_1 ma_1 ka_1 g => ?_)
  refine lv_aload_n hx hb dX14_classHere_4 rfl (lv_at hl 0 rfl) ?_
  refine g_getr (K := 220) (C := RX14) (T := TX14) (N := 67) hx hb hts (mc_ inX14) hown hK g ma0_ ka0_ (by decide) rfl 43 (by decide) rfl (hts _ (List.mem_cons_of_mem _ t_2189)) (fun _ h9 => h9) rfl dX14_classHere_5 (fun a_2 ma_2 ka_2 g => ?_)
  refine lv_aload_n hx hb dX14_classHere_8 rfl (lv_at hl 0 rfl) ?_
  refine g_geti (C := RX14) (T := TX14) (N := 67) hx hb hts (mc_ inX14) hown hK g ma0_ ka0_ (by decide) rfl 35 (by decide) rfl (hts _ (List.mem_cons_of_mem _ t_2181)) (fun _ h9 => h9) rfl dX14_classHere_9 (fun x_3 bx_3 g => ?_)
  refine g_iald hx hb hK g ma_2 ka_2 (by decide) rfl (in_bd bx_3 (by decide)) dX14_classHere_12 (fun x_4 bx_4 cx_4 => ?_)
  refine g_iald hx hb hK g ma_1 ka_1 (by decide) rfl (in_bd bx_4 (by decide)) dX14_classHere_13 (fun x_5 bx_5 cx_5 => ?_)
  subst hQ
  exact W.iret (v := x_5) hx hb hr (fun t ht hW => ⟨⟨_, _, rfl, ⟨bx_5, trivial⟩, q3_of g hK ht hW⟩, g.2.2.1.F ht⟩) g.2.2.1.2.2 dX14_classHere_14
set_option maxHeartbeats 4000000 in
set_option maxRecDepth 100000 in
theorem r_X14_nothingTold (l : Launch) (dC : Nat → ClassId) (dI : Nat → Nat → Nat) (L : List Nat) (kd : Nat → Nat) (tys : List (ClassId × FieldType)) (f0 : Nat → va_E) (sz : Nat) (hWT : WT L kd tys f0) (a0_ : Nat) (ma0_ : a0_ ∈ L) (ka0_ : kd a0_ = 14) : Met l yX14_nothingTold (.code yX14_nothingTold cX14_nothingTold 2 none :: lw_g) ({ frames := 0, cells := 0, slots := 0, locals := 0 }) (va_Pc [.ref a0_] (P3 (dC, dI) L tys f0 sz)) (va_Qv (fun (f : Nat → va_E) => (True)) (Q3 (dC, dI) L kd tys [] [228, 229] f0 sz) (pA L sz)) 0 0 (pA L sz) := by
  refine Met.ofW (cc := cX14_nothingTold) (maxL := 2) (ret := none) (by decide) rfl ?_
  intro p e s m args below meth c s₁ B hml hv
  obtain ⟨rfl, hsz, hP, hK, hD0⟩ := hv
  have hx := B.exec
  have hb := B.bytes
  have hr := B.returns
  have hts := atoms_spec (ws := (.code yX14_nothingTold cX14_nothingTold 2 none :: lw_g)) B.pre
  have hown : s.vm.findClass RX14 = some m.cls := findClass_of_methodNamed B.named
  have hlocks := B.notSynchronized
  subst hsz
  have g : G3 (dC, dI) L kd tys s f0 [] [228, 229] f0 s.heap [] [] := G3.start hP hD0 hWT Fs.nil
  have hl := lv_entry ([.ref a0_]) (n := 2) (Nat.le_of_ble_eq_true rfl)
  rw [lg_entry_eq]
  generalize (lg_sl ([.ref a0_]) ++ List.replicate (2 - (lg_sl ([.ref a0_])).length) Slot.unset).toArray = ls at hl ⊢
  have hl : lv_has ls 2 [(0, .ref a0_)] := hl
  refine W_q (fun Q hQ => ?_)
  refine lv_iconst (v := 0) hx hb dX14_nothingTold_0 (by decide) ?_
  refine lv_istore_n (lv' := [(1, .int 0), (0, .ref a0_)]) hx hb dX14_nothingTold_1 rfl hl (by decide) rfl (fun ls hl => ?_)
  have loop_1 : ∀ (n : Nat) (v2_1 : Int32), bd 0 4 v2_1 → (4 - v2_1.toInt < (n : Int)) → ∀ (f : Nat → va_E) (H : Heap) (locs : List Loc) (ls : Array Slot), G3 (dC, dI) L kd tys s f0 [] [228, 229] f H locs [] → lv_has ls 2 [(1, .int v2_1), (0, .ref a0_)] → W p l e ({ frames := 0, cells := 0, slots := 0, locals := 0 } : Room) s m [.ref a0_].toArray below meth c H locs 0 0 Q (F0 m 2 ls []) := by
    intro n2
    induction n2 with
    | zero =>
      intro v2_1 bv2_1 hm2 f H locs ls g  hl
      exact absurd hm2 (by have h9_v2_1 := bv2_1; unfold bd at h9_v2_1; omega)
    | succ n2 ih2 =>
      intro v2_1 bv2_1 hm2 f H locs ls g  hl
      refine lv_iload_n hx hb dX14_nothingTold_2 rfl (lv_at hl 0 rfl) ?_
      refine lv_iconst (v := 4) hx hb dX14_nothingTold_3 (by decide) ?_
      have kb_4 : bd 4 4 (4 : Int32) := ⟨by decide, by decide⟩
      refine lv_icmp_ge (tgt := 20) hx hb dX14_nothingTold_4 (by decide) (fun c_2 => ?_) (fun c_2 => ?_)
      · have fc_2 := le_f c_2
        have b_3 : bd 4 4 v2_1 := leR fc_2 kb_4 bv2_1 (by decide)
        refine lv_aload_n hx hb dX14_nothingTold_20 rfl (lv_at hl 1 rfl) ?_
        refine g_getr (K := 229) (C := RX14) (T := TX14) (N := 67) hx hb hts (mc_ inX14) hown hK g ma0_ ka0_ (by decide) rfl 57 (by decide) rfl (hts _ (List.mem_cons_of_mem _ t_2203)) (fun _ h9 => h9) rfl dX14_nothingTold_21 (fun a_4 ma_4 ka_4 g => ?_)
        refine lv_iconst (v := 0) hx hb dX14_nothingTold_24 (by decide) ?_
        refine lv_iconst (v := (-1)) hx hb dX14_nothingTold_25 (by decide) ?_
        have kb_m1 : bd (-1) (-1) ((-1) : Int32) := ⟨by decide, by decide⟩
        refine g_iast hx hb hK g ma_4 ka_4 (by decide) rfl (by unfold vp_in; decide) (bd_sub kb_m1 (by decide)) (by decide) dX14_nothingTold_26 (fun f H locs hM_5 g => ?_)
        refine lv_aload_n hx hb dX14_nothingTold_27 rfl (lv_at hl 1 rfl) ?_
        refine g_getk (C := RX14) (T := TX14) (N := 67) hx hb hts (mc_ inX14) hown hK g rfl 57 (by decide) rfl (hts _ (List.mem_cons_of_mem _ t_2203)) (fun _ h9 => h9) 0 rfl dX14_nothingTold_28 ?_
        refine lv_iconst (v := 1) hx hb dX14_nothingTold_31 (by decide) ?_
        refine lv_iconst (v := (-1)) hx hb dX14_nothingTold_32 (by decide) ?_
        refine g_iast hx hb hK g ma_4 ka_4 (by decide) rfl (by unfold vp_in; decide) (bd_sub kb_m1 (by decide)) (by decide) dX14_nothingTold_33 (fun f H locs hM_6 g => ?_)
        subst hQ
        exact W.vret hx hb hr (fun t ht hW => ⟨⟨_, rfl, trivial, q3_of g hK ht hW⟩, g.2.2.1.F ht⟩) g.2.2.1.2.2 dX14_nothingTold_34
      · have fc_2 := nle_f c_2
        have b_7 : bd 0 3 v2_1 := ltL fc_2 bv2_1 kb_4 (by decide)
        refine lv_aload_n hx hb dX14_nothingTold_7 rfl (lv_at hl 1 rfl) ?_
        refine g_getr (K := 228) (C := RX14) (T := TX14) (N := 67) hx hb hts (mc_ inX14) hown hK g ma0_ ka0_ (by decide) rfl 56 (by decide) rfl (hts _ (List.mem_cons_of_mem _ t_2202)) (fun _ h9 => h9) rfl dX14_nothingTold_8 (fun a_8 ma_8 ka_8 g => ?_)
        refine lv_iload_n hx hb dX14_nothingTold_11 rfl (lv_at hl 0 rfl) ?_
        refine lv_iconst (v := (-1)) hx hb dX14_nothingTold_12 (by decide) ?_
        have kb_m1 : bd (-1) (-1) ((-1) : Int32) := ⟨by decide, by decide⟩
        refine g_iast hx hb hK g ma_8 ka_8 (by decide) rfl (in_bd b_7 (by decide)) (bd_sub kb_m1 (by decide)) (by decide) dX14_nothingTold_13 (fun f H locs hM_9 g => ?_)
        have kb_1 : bd 1 1 (1 : Int32) := ⟨by decide, by decide⟩
        obtain ⟨y_10, ey_10⟩ : ∃ z : Int32, z = v2_1 + 1 := ⟨_, rfl⟩
        refine lv_iinc (v := y_10) (lv' := [(1, .int y_10), (0, .ref a0_)]) hx hb dX14_nothingTold_14 hl (k := 0) rfl (by rw [ey_10]; rfl) (by decide) rfl (fun ls hl => ?_)
        have ty_10 := add_bd ey_10 b_7 kb_1 (by decide)
        have b_11 : bd 1 4 y_10 := add_rg ty_10 b_7 kb_1 (by decide)
        refine lv_goto (tgt := 2) hx hb dX14_nothingTold_17 (by decide) ?_
        have hl9 := lv_sub hl [0, 1] (by rfl : lv_pick [(1, .int y_10), (0, .ref a0_)] [0, 1] = [(1, .int y_10), (0, .ref a0_)])
        have g9 := g.sub (fx' := []) [] rfl
        exact ih2  y_10 (bd_sub b_11 (by decide)) (by have h9_0 := b_11; unfold bd at h9_0; have h9_1 := bv2_1; unfold bd at h9_1; have h9_2 := kb_1; unfold bd at h9_2; have h9_3 := kb_4; unfold bd at h9_3; have h9_4 := kb_m1; unfold bd at h9_4; omega) _ _ _ _ g9  hl9
  have kb_0 : bd 0 0 (0 : Int32) := ⟨by decide, by decide⟩
  have hl9 := lv_sub hl [0, 1] (by rfl : lv_pick [(1, .int 0), (0, .ref a0_)] [0, 1] = [(1, .int 0), (0, .ref a0_)])
  have g9 := g.sub (fx' := []) [] rfl
  exact loop_1 (11) 0 (bd_sub kb_0 (by decide)) (by have h9_0 := kb_0; unfold bd at h9_0; omega) _ _ _ _ g9  hl9
set_option maxHeartbeats 4000000 in
set_option maxRecDepth 100000 in
theorem r_X14_untold (l : Launch) (dC : Nat → ClassId) (dI : Nat → Nat → Nat) (L : List Nat) (kd : Nat → Nat) (tys : List (ClassId × FieldType)) (f0 : Nat → va_E) (sz : Nat) (hWT : WT L kd tys f0) (a0_ : Nat) (ma0_ : a0_ ∈ L) (ka0_ : kd a0_ = 14) : Met l yX14_untold (.code yX14_untold cX14_untold 1 none :: lw_g) ({ frames := 1, cells := 0, slots := 0, locals := 21 }) (va_Pc [.ref a0_] (P3 (dC, dI) L tys f0 sz)) (va_Qv (fun (f : Nat → va_E) => (Fs L kd f [(14, 30, a0_, .int 0), (14, 55, a0_, .int 0)])) (Q3 (dC, dI) L kd tys [(14, 30), (14, 39), (14, 40), (14, 55)] [228, 229] f0 sz) (pA L sz)) 0 0 (pA L sz) := by
  refine Met.ofW (cc := cX14_untold) (maxL := 1) (ret := none) (by decide) rfl ?_
  intro p e s m args below meth c s₁ B hml hv
  obtain ⟨rfl, hsz, hP, hK, hD0⟩ := hv
  have hx := B.exec
  have hb := B.bytes
  have hr := B.returns
  have hts := atoms_spec (ws := (.code yX14_untold cX14_untold 1 none :: lw_g)) B.pre
  have hown : s.vm.findClass RX14 = some m.cls := findClass_of_methodNamed B.named
  have hlocks := B.notSynchronized
  subst hsz
  have g : G3 (dC, dI) L kd tys s f0 [(14, 30), (14, 39), (14, 40), (14, 55)] [228, 229] f0 s.heap [] [] := G3.start hP hD0 hWT Fs.nil
  have hl := lv_entry ([.ref a0_]) (n := 1) (Nat.le_of_ble_eq_true rfl)
  rw [lg_entry_eq]
  generalize (lg_sl ([.ref a0_]) ++ List.replicate (1 - (lg_sl ([.ref a0_])).length) Slot.unset).toArray = ls at hl ⊢
  have hl : lv_has ls 1 [(0, .ref a0_)] := hl
  refine W_q (fun Q hQ => ?_)
  refine lv_aload_n hx hb dX14_untold_0 rfl (lv_at hl 0 rfl) ?_
  refine lv_iconst (v := 0) hx hb dX14_untold_1 (by decide) ?_
  have kb_0 : bd 0 0 (0 : Int32) := ⟨by decide, by decide⟩
  refine g_put (C := RX14) (T := TX14) (N := 67) hx hb hts (mc_ inX14) tyX14 tyX14_ok nmX14 hown hK g ma0_ ka0_ (by decide) rfl 55 (by decide) (hts _ (List.mem_cons_of_mem _ t_2201)) (fun _ h9 => h9) rfl rfl (okV_i (bd_sub kb_0 (by decide))) rfl rfl (by decide) (Or.inr (Or.inl (by decide))) (fx' := []) rfl dX14_untold_2 (fun f H locs hM_1 g => ?_)
  refine lv_aload_n hx hb dX14_untold_5 rfl (lv_at hl 0 rfl) ?_
  refine lv_iconst (v := 0) hx hb dX14_untold_6 (by decide) ?_
  refine g_put (C := RX14) (T := TX14) (N := 67) hx hb hts (mc_ inX14) tyX14 tyX14_ok nmX14 hown hK g ma0_ ka0_ (by decide) rfl 30 (by decide) (hts _ (List.mem_cons_of_mem _ t_2176)) (fun _ h9 => h9) rfl rfl (okV_i (bd_sub kb_0 (by decide))) rfl rfl (by decide) (Or.inr (Or.inl (by decide))) (fx' := [(14, 55, a0_, .int 0)]) rfl dX14_untold_7 (fun f H locs hM_2 g => ?_)
  refine lv_aload_n hx hb dX14_untold_10 rfl (lv_at hl 0 rfl) ?_
  refine lv_lconst (v := 0) hx hb dX14_untold_11 (by decide) ?_
  refine g_put (C := RX14) (T := TX14) (N := 67) hx hb hts (mc_ inX14) tyX14 tyX14_ok nmX14 hown hK g ma0_ ka0_ (by decide) rfl 39 (by decide) (hts _ (List.mem_cons_of_mem _ t_2185)) (fun _ h9 => h9) rfl rfl okV_l rfl rfl (by decide) (Or.inr (Or.inl (by decide))) (fx' := [(14, 30, a0_, .int 0), (14, 55, a0_, .int 0)]) rfl dX14_untold_12 (fun f H locs hM_3 g => ?_)
  refine lv_aload_n hx hb dX14_untold_15 rfl (lv_at hl 0 rfl) ?_
  refine lv_lconst (v := 0) hx hb dX14_untold_16 (by decide) ?_
  refine g_put (C := RX14) (T := TX14) (N := 67) hx hb hts (mc_ inX14) tyX14 tyX14_ok nmX14 hown hK g ma0_ ka0_ (by decide) rfl 40 (by decide) (hts _ (List.mem_cons_of_mem _ t_2186)) (fun _ h9 => h9) rfl rfl okV_l rfl rfl (by decide) (Or.inr (Or.inl (by decide))) (fx' := [(14, 39, a0_, .long 0), (14, 30, a0_, .int 0), (14, 55, a0_, .int 0)]) rfl dX14_untold_17 (fun f H locs hM_4 g => ?_)
  refine lv_aload_n hx hb dX14_untold_20 rfl (lv_at hl 0 rfl) ?_
  refine g_callv (va_runV (As := []) (rest := []) ⟨hx, hb, hml, hown, hts⟩ (r_X14_nothingTold l dC dI L kd tys f H.size g.2.2.2.1 a0_ ma0_ ka0_) (cwV 0 hts (gV_ t_2142 t_2144 t_91 t_198 t_2145) rfl rfl rfl (by decide +kernel) ⟨(Nat.le_of_ble_eq_true rfl), (Nat.le_of_ble_eq_true rfl)⟩) (pre3V g hK ma0_ ka0_ (by decide) (q := (RX14, TX14, 67)) rfl) rfl rfl hl.1 rfl (lv_room (Nat.le_of_ble_eq_true rfl)) dX14_untold_21 ⟨(Nat.le_of_ble_eq_true rfl), (Nat.le_of_ble_eq_true rfl)⟩) g hK (by decide) (by decide) (fx' := [(14, 40, a0_, .long 0), (14, 39, a0_, .long 0), (14, 30, a0_, .int 0), (14, 55, a0_, .int 0)]) rfl (fun fr_5 H locs hp hMr_5 g => ?_)
  subst hQ
  exact W.vret hx hb hr (fun t ht hW => ⟨⟨_, rfl, (g.fcts [2, 3] rfl), q3_of g hK ht hW⟩, g.2.2.1.F ht⟩) g.2.2.1.2.2 dX14_untold_24
set_option maxHeartbeats 4000000 in
set_option maxRecDepth 100000 in
theorem r_X14_tells (l : Launch) (dC : Nat → ClassId) (dI : Nat → Nat → Nat) (L : List Nat) (kd : Nat → Nat) (tys : List (ClassId × FieldType)) (f0 : Nat → va_E) (sz : Nat) (hWT : WT L kd tys f0) (a0_ : Nat) (ma0_ : a0_ ∈ L) (ka0_ : kd a0_ = 14) (x1_ : Int32) (x2_ : Int32) (x3_ : Int32) (x4_ : Int32) : Met l yX14_tells (.code yX14_tells cX14_tells 5 none :: lw_g) ({ frames := 0, cells := 0, slots := 0, locals := 0 }) (va_Pc [.ref a0_, .int x1_, .int x2_, .int x3_, .int x4_] (P3 (dC, dI) L tys f0 sz)) (va_Qv (fun (f : Nat → va_E) => (True)) (Q3 (dC, dI) L kd tys [] [228] f0 sz) (pA L sz)) 0 0 (pA L sz) := by
  refine Met.ofW (cc := cX14_tells) (maxL := 5) (ret := none) (by decide) rfl ?_
  intro p e s m args below meth c s₁ B hml hv
  obtain ⟨rfl, hsz, hP, hK, hD0⟩ := hv
  have hx := B.exec
  have hb := B.bytes
  have hr := B.returns
  have hts := atoms_spec (ws := (.code yX14_tells cX14_tells 5 none :: lw_g)) B.pre
  have hown : s.vm.findClass RX14 = some m.cls := findClass_of_methodNamed B.named
  have hlocks := B.notSynchronized
  subst hsz
  have g : G3 (dC, dI) L kd tys s f0 [] [228] f0 s.heap [] [] := G3.start hP hD0 hWT Fs.nil
  have hl := lv_entry ([.ref a0_, .int x1_, .int x2_, .int x3_, .int x4_]) (n := 5) (Nat.le_of_ble_eq_true rfl)
  rw [lg_entry_eq]
  generalize (lg_sl ([.ref a0_, .int x1_, .int x2_, .int x3_, .int x4_]) ++ List.replicate (5 - (lg_sl ([.ref a0_, .int x1_, .int x2_, .int x3_, .int x4_])).length) Slot.unset).toArray = ls at hl ⊢
  have hl : lv_has ls 5 [(0, .ref a0_), (1, .int x1_), (2, .int x2_), (3, .int x3_), (4, .int x4_)] := hl
  refine W_q (fun Q hQ => ?_)
  refine lv_aload_n hx hb dX14_tells_0 rfl (lv_at hl 0 rfl) ?_
  refine g_getr (K := 228) (C := RX14) (T := TX14) (N := 67) hx hb hts (mc_ inX14) hown hK g ma0_ ka0_ (by decide) rfl 56 (by decide) rfl (hts _ (List.mem_cons_of_mem _ t_2202)) (fun _ h9 => h9) rfl dX14_tells_1 (fun a_1 ma_1 ka_1 g => ?_)
  refine lv_iconst (v := 0) hx hb dX14_tells_4 (by decide) ?_
  refine lv_iload_n hx hb dX14_tells_5 rfl (lv_at hl 1 rfl) ?_
  refine g_iast hx hb hK g ma_1 ka_1 (by decide) rfl (by unfold vp_in; decide) (bdT x1_) (by decide) dX14_tells_6 (fun f H locs hM_2 g => ?_)
  refine lv_aload_n hx hb dX14_tells_7 rfl (lv_at hl 0 rfl) ?_
  refine g_getk (C := RX14) (T := TX14) (N := 67) hx hb hts (mc_ inX14) hown hK g rfl 56 (by decide) rfl (hts _ (List.mem_cons_of_mem _ t_2202)) (fun _ h9 => h9) 0 rfl dX14_tells_8 ?_
  refine lv_iconst (v := 1) hx hb dX14_tells_11 (by decide) ?_
  refine lv_iload_n hx hb dX14_tells_12 rfl (lv_at hl 2 rfl) ?_
  refine g_iast hx hb hK g ma_1 ka_1 (by decide) rfl (by unfold vp_in; decide) (bdT x2_) (by decide) dX14_tells_13 (fun f H locs hM_3 g => ?_)
  refine lv_aload_n hx hb dX14_tells_14 rfl (lv_at hl 0 rfl) ?_
  refine g_getk (C := RX14) (T := TX14) (N := 67) hx hb hts (mc_ inX14) hown hK g rfl 56 (by decide) rfl (hts _ (List.mem_cons_of_mem _ t_2202)) (fun _ h9 => h9) 0 rfl dX14_tells_15 ?_
  refine lv_iconst (v := 2) hx hb dX14_tells_18 (by decide) ?_
  refine lv_iload_n hx hb dX14_tells_19 rfl (lv_at hl 3 rfl) ?_
  refine g_iast hx hb hK g ma_1 ka_1 (by decide) rfl (by unfold vp_in; decide) (bdT x3_) (by decide) dX14_tells_20 (fun f H locs hM_4 g => ?_)
  refine lv_aload_n hx hb dX14_tells_21 rfl (lv_at hl 0 rfl) ?_
  refine g_getk (C := RX14) (T := TX14) (N := 67) hx hb hts (mc_ inX14) hown hK g rfl 56 (by decide) rfl (hts _ (List.mem_cons_of_mem _ t_2202)) (fun _ h9 => h9) 0 rfl dX14_tells_22 ?_
  refine lv_iconst (v := 3) hx hb dX14_tells_25 (by decide) ?_
  refine lv_iload hx hb dX14_tells_26 (lv_at hl 4 rfl) ?_
  refine g_iast hx hb hK g ma_1 ka_1 (by decide) rfl (by unfold vp_in; decide) (bdT x4_) (by decide) dX14_tells_28 (fun f H locs hM_5 g => ?_)
  subst hQ
  exact W.vret hx hb hr (fun t ht hW => ⟨⟨_, rfl, trivial, q3_of g hK ht hW⟩, g.2.2.1.F ht⟩) g.2.2.1.2.2 dX14_tells_29
set_option maxHeartbeats 4000000 in
set_option maxRecDepth 100000 in
theorem r_X14_clear (l : Launch) (dC : Nat → ClassId) (dI : Nat → Nat → Nat) (L : List Nat) (kd : Nat → Nat) (tys : List (ClassId × FieldType)) (f0 : Nat → va_E) (sz : Nat) (hWT : WT L kd tys f0) (a0_ : Nat) (ma0_ : a0_ ∈ L) (ka0_ : kd a0_ = 14) : Met l yX14_clear (.code yX14_clear cX14_clear 2 (some .int) :: lw_g) ({ frames := 0, cells := 0, slots := 0, locals := 0 }) (va_Pc [.ref a0_] (P3 (dC, dI) L tys f0 sz)) (va_Qi (fun (r : Int32) (f : Nat → va_E) => (bd 0 10 r ∧ Fs L kd f [(14, 53, a0_, .int 1), (14, 52, a0_, .int 0), (14, 51, a0_, .int 0)])) (Q3 (dC, dI) L kd tys [(14, 51), (14, 52), (14, 53)] [] f0 sz) (pA L sz)) 0 0 (pA L sz) := by
  refine Met.ofW (cc := cX14_clear) (maxL := 2) (ret := (some .int)) (by decide) rfl ?_
  intro p e s m args below meth c s₁ B hml hv
  obtain ⟨rfl, hsz, hP, hK, hD0⟩ := hv
  have hx := B.exec
  have hb := B.bytes
  have hr := B.returns
  have hts := atoms_spec (ws := (.code yX14_clear cX14_clear 2 (some .int) :: lw_g)) B.pre
  have hown : s.vm.findClass RX14 = some m.cls := findClass_of_methodNamed B.named
  have hlocks := B.notSynchronized
  subst hsz
  have g : G3 (dC, dI) L kd tys s f0 [(14, 51), (14, 52), (14, 53)] [] f0 s.heap [] [] := G3.start hP hD0 hWT Fs.nil
  have hl := lv_entry ([.ref a0_]) (n := 2) (Nat.le_of_ble_eq_true rfl)
  rw [lg_entry_eq]
  generalize (lg_sl ([.ref a0_]) ++ List.replicate (2 - (lg_sl ([.ref a0_])).length) Slot.unset).toArray = ls at hl ⊢
  have hl : lv_has ls 2 [(0, .ref a0_)] := hl
  refine W_q (fun Q hQ => ?_)
  refine lv_aload_n hx hb dX14_clear_0 rfl (lv_at hl 0 rfl) ?_
  refine g_geti (C := RX14) (T := TX14) (N := 67) hx hb hts (mc_ inX14) hown hK g ma0_ ka0_ (by decide) rfl 51 (by decide) rfl (hts _ (List.mem_cons_of_mem _ t_2197)) (fun _ h9 => h9) rfl dX14_clear_1 (fun x_1 bx_1 g => ?_)
  refine lv_istore_n (lv' := [(1, .int x_1), (0, .ref a0_)]) hx hb dX14_clear_4 rfl hl (by decide) rfl (fun ls hl => ?_)
  refine lv_aload_n hx hb dX14_clear_5 rfl (lv_at hl 1 rfl) ?_
  refine lv_iconst (v := 0) hx hb dX14_clear_6 (by decide) ?_
  have kb_0 : bd 0 0 (0 : Int32) := ⟨by decide, by decide⟩
  refine g_put (C := RX14) (T := TX14) (N := 67) hx hb hts (mc_ inX14) tyX14 tyX14_ok nmX14 hown hK g ma0_ ka0_ (by decide) rfl 51 (by decide) (hts _ (List.mem_cons_of_mem _ t_2197)) (fun _ h9 => h9) rfl rfl (okV_i (bd_sub kb_0 (by decide))) rfl rfl (by decide) (Or.inr (Or.inl (by decide))) (fx' := []) rfl dX14_clear_7 (fun f H locs hM_2 g => ?_)
  refine lv_aload_n hx hb dX14_clear_10 rfl (lv_at hl 1 rfl) ?_
  refine lv_iconst (v := 0) hx hb dX14_clear_11 (by decide) ?_
  refine g_put (C := RX14) (T := TX14) (N := 67) hx hb hts (mc_ inX14) tyX14 tyX14_ok nmX14 hown hK g ma0_ ka0_ (by decide) rfl 52 (by decide) (hts _ (List.mem_cons_of_mem _ t_2198)) (fun _ h9 => h9) rfl rfl (okV_i (bd_sub kb_0 (by decide))) rfl rfl (by decide) (Or.inr (Or.inl (by decide))) (fx' := [(14, 51, a0_, .int 0)]) rfl dX14_clear_12 (fun f H locs hM_3 g => ?_)
  refine lv_aload_n hx hb dX14_clear_15 rfl (lv_at hl 1 rfl) ?_
  refine lv_iconst (v := 1) hx hb dX14_clear_16 (by decide) ?_
  have kb_1 : bd 1 1 (1 : Int32) := ⟨by decide, by decide⟩
  refine g_put (C := RX14) (T := TX14) (N := 67) hx hb hts (mc_ inX14) tyX14 tyX14_ok nmX14 hown hK g ma0_ ka0_ (by decide) rfl 53 (by decide) (hts _ (List.mem_cons_of_mem _ t_2199)) (fun _ h9 => h9) rfl rfl (okV_i (bd_sub kb_1 (by decide))) rfl rfl (by decide) (Or.inr (Or.inl (by decide))) (fx' := [(14, 52, a0_, .int 0), (14, 51, a0_, .int 0)]) rfl dX14_clear_17 (fun f H locs hM_4 g => ?_)
  refine lv_iload_n hx hb dX14_clear_20 rfl (lv_at hl 0 rfl) ?_
  subst hQ
  exact W.iret (v := x_1) hx hb hr (fun t ht hW => ⟨⟨_, _, rfl, ⟨bx_1, (g.fcts [0, 1, 2] rfl)⟩, q3_of g hK ht hW⟩, g.2.2.1.F ht⟩) g.2.2.1.2.2 dX14_clear_21
set_option maxHeartbeats 4000000 in
set_option maxRecDepth 100000 in
theorem r_X14_addMake (l : Launch) (dC : Nat → ClassId) (dI : Nat → Nat → Nat) (L : List Nat) (kd : Nat → Nat) (tys : List (ClassId × FieldType)) (f0 : Nat → va_E) (sz : Nat) (hWT : WT L kd tys f0) (a0_ : Nat) (ma0_ : a0_ ∈ L) (ka0_ : kd a0_ = 14) (x1_ : Int32) (bx1_ : bd 0 7 x1_) (y0_ : Int32) (by0_ : bd 1 1 y0_) (y1_ : Int32) (by1_ : bd 0 2 y1_) (y2_ : Int32) (by2_ : bd 0 9 y2_) (hfx : Fs L kd f0 [(14, 53, a0_, .int y0_), (14, 52, a0_, .int y1_), (14, 51, a0_, .int y2_)]) : Met l yX14_addMake (.code yX14_addMake cX14_addMake 2 none :: lw_g) ({ frames := 0, cells := 0, slots := 0, locals := 0 }) (va_Pc [.ref a0_, .int x1_] (P3 (dC, dI) L tys f0 sz)) (va_Qv (fun (f : Nat → va_E) => (∃ z0_ : Int32, bd 1 10 z0_ ∧ ∃ z1_ : Int32, bd 1 3 z1_ ∧ Fs L kd f [(14, 51, a0_, .int z0_), (14, 52, a0_, .int z1_)])) (Q3 (dC, dI) L kd tys [(14, 51), (14, 52)] [222, 223, 224, 225, 226, 227] f0 sz) (pA L sz)) 0 0 (pA L sz) := by
  refine Met.ofW (cc := cX14_addMake) (maxL := 2) (ret := none) (by decide) rfl ?_
  intro p e s m args below meth c s₁ B hml hv
  obtain ⟨rfl, hsz, hP, hK, hD0⟩ := hv
  have hx := B.exec
  have hb := B.bytes
  have hr := B.returns
  have hts := atoms_spec (ws := (.code yX14_addMake cX14_addMake 2 none :: lw_g)) B.pre
  have hown : s.vm.findClass RX14 = some m.cls := findClass_of_methodNamed B.named
  have hlocks := B.notSynchronized
  subst hsz
  have g : G3 (dC, dI) L kd tys s f0 [(14, 51), (14, 52)] [222, 223, 224, 225, 226, 227] f0 s.heap [] [(14, 53, a0_, .int y0_), (14, 52, a0_, .int y1_), (14, 51, a0_, .int y2_)] := G3.start hP hD0 hWT hfx
  have hl := lv_entry ([.ref a0_, .int x1_]) (n := 2) (Nat.le_of_ble_eq_true rfl)
  rw [lg_entry_eq]
  generalize (lg_sl ([.ref a0_, .int x1_]) ++ List.replicate (2 - (lg_sl ([.ref a0_, .int x1_])).length) Slot.unset).toArray = ls at hl ⊢
  have hl : lv_has ls 2 [(0, .ref a0_), (1, .int x1_)] := hl
  refine W_q (fun Q hQ => ?_)
  refine lv_aload_n hx hb dX14_addMake_0 rfl (lv_at hl 0 rfl) ?_
  refine g_getr (K := 222) (C := RX14) (T := TX14) (N := 67) hx hb hts (mc_ inX14) hown hK g ma0_ ka0_ (by decide) rfl 46 (by decide) rfl (hts _ (List.mem_cons_of_mem _ t_2192)) (fun _ h9 => h9) rfl dX14_addMake_1 (fun a_1 ma_1 ka_1 g => ?_)
  refine lv_aload_n hx hb dX14_addMake_4 rfl (lv_at hl 0 rfl) ?_
  refine g_getk (C := RX14) (T := TX14) (N := 67) hx hb hts (mc_ inX14) hown hK g rfl 51 (by decide) rfl (hts _ (List.mem_cons_of_mem _ t_2197)) (fun _ h9 => h9) 3 rfl dX14_addMake_5 ?_
  refine lv_aload_n hx hb dX14_addMake_8 rfl (lv_at hl 0 rfl) ?_
  refine g_getk (C := RX14) (T := TX14) (N := 67) hx hb hts (mc_ inX14) hown hK g rfl 52 (by decide) rfl (hts _ (List.mem_cons_of_mem _ t_2198)) (fun _ h9 => h9) 2 rfl dX14_addMake_9 ?_
  refine g_iast hx hb hK g ma_1 ka_1 (by decide) rfl (in_bd by2_ (by decide)) by1_ (by decide) dX14_addMake_12 (fun f H locs hM_2 g => ?_)
  refine lv_aload_n hx hb dX14_addMake_13 rfl (lv_at hl 0 rfl) ?_
  refine g_getr (K := 223) (C := RX14) (T := TX14) (N := 67) hx hb hts (mc_ inX14) hown hK g ma0_ ka0_ (by decide) rfl 47 (by decide) rfl (hts _ (List.mem_cons_of_mem _ t_2193)) (fun _ h9 => h9) rfl dX14_addMake_14 (fun a_3 ma_3 ka_3 g => ?_)
  refine lv_aload_n hx hb dX14_addMake_17 rfl (lv_at hl 0 rfl) ?_
  refine g_getk (C := RX14) (T := TX14) (N := 67) hx hb hts (mc_ inX14) hown hK g rfl 51 (by decide) rfl (hts _ (List.mem_cons_of_mem _ t_2197)) (fun _ h9 => h9) 4 rfl dX14_addMake_18 ?_
  refine lv_iconst (v := (-1)) hx hb dX14_addMake_21 (by decide) ?_
  have kb_m1 : bd (-1) (-1) ((-1) : Int32) := ⟨by decide, by decide⟩
  refine g_iast hx hb hK g ma_3 ka_3 (by decide) rfl (in_bd by2_ (by decide)) (bd_sub kb_m1 (by decide)) (by decide) dX14_addMake_22 (fun f H locs hM_4 g => ?_)
  refine lv_aload_n hx hb dX14_addMake_23 rfl (lv_at hl 0 rfl) ?_
  refine g_getr (K := 224) (C := RX14) (T := TX14) (N := 67) hx hb hts (mc_ inX14) hown hK g ma0_ ka0_ (by decide) rfl 48 (by decide) rfl (hts _ (List.mem_cons_of_mem _ t_2194)) (fun _ h9 => h9) rfl dX14_addMake_24 (fun a_5 ma_5 ka_5 g => ?_)
  refine lv_iconst (v := 3) hx hb dX14_addMake_27 (by decide) ?_
  refine lv_aload_n hx hb dX14_addMake_28 rfl (lv_at hl 0 rfl) ?_
  refine g_getk (C := RX14) (T := TX14) (N := 67) hx hb hts (mc_ inX14) hown hK g rfl 51 (by decide) rfl (hts _ (List.mem_cons_of_mem _ t_2197)) (fun _ h9 => h9) 5 rfl dX14_addMake_29 ?_
  refine lv_imul hx hb dX14_addMake_32 ?_
  refine lv_topi (fun y_6 ey_6 => ?_)
  have ty_6 := cmul_bd ey_6 (c := 3) (by decide) by2_ (by decide)
  have b_7 : bd 0 27 y_6 := mulc_rg ty_6 by2_ (by decide)
  refine lv_iload_n hx hb dX14_addMake_33 rfl (lv_at hl 1 rfl) ?_
  refine g_iast hx hb hK g ma_5 ka_5 (by decide) rfl (in_bd b_7 (by decide)) (bd_sub bx1_ (by decide)) (by decide) dX14_addMake_34 (fun f H locs hM_8 g => ?_)
  refine lv_aload_n hx hb dX14_addMake_35 rfl (lv_at hl 0 rfl) ?_
  refine g_getk (C := RX14) (T := TX14) (N := 67) hx hb hts (mc_ inX14) hown hK g rfl 48 (by decide) rfl (hts _ (List.mem_cons_of_mem _ t_2194)) (fun _ h9 => h9) 0 rfl dX14_addMake_36 ?_
  refine lv_iconst (v := 3) hx hb dX14_addMake_39 (by decide) ?_
  refine lv_aload_n hx hb dX14_addMake_40 rfl (lv_at hl 0 rfl) ?_
  refine g_getk (C := RX14) (T := TX14) (N := 67) hx hb hts (mc_ inX14) hown hK g rfl 51 (by decide) rfl (hts _ (List.mem_cons_of_mem _ t_2197)) (fun _ h9 => h9) 5 rfl dX14_addMake_41 ?_
  refine lv_imul hx hb dX14_addMake_44 ?_
  refine lv_topi (fun y_9 ey_9 => ?_)
  have ty_9 := cmul_bd ey_9 (c := 3) (by decide) by2_ (by decide)
  have b_10 : bd 0 27 y_9 := mulc_rg ty_9 by2_ (by decide)
  refine lv_iconst (v := 1) hx hb dX14_addMake_45 (by decide) ?_
  have kb_1 : bd 1 1 (1 : Int32) := ⟨by decide, by decide⟩
  refine lv_iadd hx hb dX14_addMake_46 ?_
  refine lv_topi (fun y_11 ey_11 => ?_)
  have ty_11 := add_bd ey_11 b_10 kb_1 (by decide)
  have b_12 : bd 1 28 y_11 := add_rg ty_11 b_10 kb_1 (by decide)
  refine lv_iconst (v := 0) hx hb dX14_addMake_47 (by decide) ?_
  have kb_0 : bd 0 0 (0 : Int32) := ⟨by decide, by decide⟩
  refine g_iast hx hb hK g ma_5 ka_5 (by decide) rfl (in_bd b_12 (by decide)) (bd_sub kb_0 (by decide)) (by decide) dX14_addMake_48 (fun f H locs hM_13 g => ?_)
  refine lv_aload_n hx hb dX14_addMake_49 rfl (lv_at hl 0 rfl) ?_
  refine g_getk (C := RX14) (T := TX14) (N := 67) hx hb hts (mc_ inX14) hown hK g rfl 48 (by decide) rfl (hts _ (List.mem_cons_of_mem _ t_2194)) (fun _ h9 => h9) 0 rfl dX14_addMake_50 ?_
  refine lv_iconst (v := 3) hx hb dX14_addMake_53 (by decide) ?_
  refine lv_aload_n hx hb dX14_addMake_54 rfl (lv_at hl 0 rfl) ?_
  refine g_getk (C := RX14) (T := TX14) (N := 67) hx hb hts (mc_ inX14) hown hK g rfl 51 (by decide) rfl (hts _ (List.mem_cons_of_mem _ t_2197)) (fun _ h9 => h9) 5 rfl dX14_addMake_55 ?_
  refine lv_imul hx hb dX14_addMake_58 ?_
  refine lv_topi (fun y_14 ey_14 => ?_)
  have ty_14 := cmul_bd ey_14 (c := 3) (by decide) by2_ (by decide)
  have b_15 : bd 0 27 y_14 := mulc_rg ty_14 by2_ (by decide)
  refine lv_iconst (v := 2) hx hb dX14_addMake_59 (by decide) ?_
  have kb_2 : bd 2 2 (2 : Int32) := ⟨by decide, by decide⟩
  refine lv_iadd hx hb dX14_addMake_60 ?_
  refine lv_topi (fun y_16 ey_16 => ?_)
  have ty_16 := add_bd ey_16 b_15 kb_2 (by decide)
  have b_17 : bd 2 29 y_16 := add_rg ty_16 b_15 kb_2 (by decide)
  refine lv_iconst (v := 0) hx hb dX14_addMake_61 (by decide) ?_
  refine g_iast hx hb hK g ma_5 ka_5 (by decide) rfl (in_bd b_17 (by decide)) (bd_sub kb_0 (by decide)) (by decide) dX14_addMake_62 (fun f H locs hM_18 g => ?_)
  refine lv_aload_n hx hb dX14_addMake_63 rfl (lv_at hl 0 rfl) ?_
  refine g_getr (K := 225) (C := RX14) (T := TX14) (N := 67) hx hb hts (mc_ inX14) hown hK g ma0_ ka0_ (by decide) rfl 49 (by decide) rfl (hts _ (List.mem_cons_of_mem _ t_2195)) (fun _ h9 => h9) rfl dX14_addMake_64 (fun a_19 ma_19 ka_19 g => ?_)
  refine lv_aload_n hx hb dX14_addMake_67 rfl (lv_at hl 0 rfl) ?_
  refine g_getk (C := RX14) (T := TX14) (N := 67) hx hb hts (mc_ inX14) hown hK g rfl 51 (by decide) rfl (hts _ (List.mem_cons_of_mem _ t_2197)) (fun _ h9 => h9) 6 rfl dX14_addMake_68 ?_
  refine lv_iconst (v := 0) hx hb dX14_addMake_71 (by decide) ?_
  refine g_iast hx hb hK g ma_19 ka_19 (by decide) rfl (in_bd by2_ (by decide)) (bd_sub kb_0 (by decide)) (by decide) dX14_addMake_72 (fun f H locs hM_20 g => ?_)
  refine lv_aload_n hx hb dX14_addMake_73 rfl (lv_at hl 0 rfl) ?_
  refine g_getr (K := 226) (C := RX14) (T := TX14) (N := 67) hx hb hts (mc_ inX14) hown hK g ma0_ ka0_ (by decide) rfl 50 (by decide) rfl (hts _ (List.mem_cons_of_mem _ t_2196)) (fun _ h9 => h9) rfl dX14_addMake_74 (fun a_21 ma_21 ka_21 g => ?_)
  refine lv_aload_n hx hb dX14_addMake_77 rfl (lv_at hl 0 rfl) ?_
  refine g_getk (C := RX14) (T := TX14) (N := 67) hx hb hts (mc_ inX14) hown hK g rfl 51 (by decide) rfl (hts _ (List.mem_cons_of_mem _ t_2197)) (fun _ h9 => h9) 7 rfl dX14_addMake_78 ?_
  refine lv_iconst (v := 0) hx hb dX14_addMake_81 (by decide) ?_
  refine g_iast hx hb hK g ma_21 ka_21 (by decide) rfl (in_bd by2_ (by decide)) (bd_sub kb_0 (by decide)) (by decide) dX14_addMake_82 (fun f H locs hM_22 g => ?_)
  refine lv_aload_n hx hb dX14_addMake_83 rfl (lv_at hl 0 rfl) ?_
  refine g_getr (K := 227) (C := RX14) (T := TX14) (N := 67) hx hb hts (mc_ inX14) hown hK g ma0_ ka0_ (by decide) rfl 54 (by decide) rfl (hts _ (List.mem_cons_of_mem _ t_2200)) (fun _ h9 => h9) rfl dX14_addMake_84 (fun a_23 ma_23 ka_23 g => ?_)
  refine lv_aload_n hx hb dX14_addMake_87 rfl (lv_at hl 0 rfl) ?_
  refine g_getk (C := RX14) (T := TX14) (N := 67) hx hb hts (mc_ inX14) hown hK g rfl 52 (by decide) rfl (hts _ (List.mem_cons_of_mem _ t_2198)) (fun _ h9 => h9) 7 rfl dX14_addMake_88 ?_
  refine lv_iload_n hx hb dX14_addMake_91 rfl (lv_at hl 1 rfl) ?_
  refine g_iast hx hb hK g ma_23 ka_23 (by decide) rfl (in_bd by1_ (by decide)) bx1_ (by decide) dX14_addMake_92 (fun f H locs hM_24 g => ?_)
  refine lv_aload_n hx hb dX14_addMake_93 rfl (lv_at hl 0 rfl) ?_
  refine lv_dup hx hb dX14_addMake_94 rfl ?_
  refine g_getk (C := RX14) (T := TX14) (N := 67) hx hb hts (mc_ inX14) hown hK g rfl 52 (by decide) rfl (hts _ (List.mem_cons_of_mem _ t_2198)) (fun _ h9 => h9) 7 rfl dX14_addMake_95 ?_
  refine lv_iconst (v := 1) hx hb dX14_addMake_98 (by decide) ?_
  refine lv_iadd hx hb dX14_addMake_99 ?_
  refine lv_topi (fun y_25 ey_25 => ?_)
  have ty_25 := add_bd ey_25 by1_ kb_1 (by decide)
  have b_26 : bd 1 3 y_25 := add_rg ty_25 by1_ kb_1 (by decide)
  refine g_put (C := RX14) (T := TX14) (N := 67) hx hb hts (mc_ inX14) tyX14 tyX14_ok nmX14 hown hK g ma0_ ka0_ (by decide) rfl 52 (by decide) (hts _ (List.mem_cons_of_mem _ t_2198)) (fun _ h9 => h9) rfl rfl (okV_i (bd_sub b_26 (by decide))) rfl rfl (by decide) (Or.inr (Or.inl (by decide))) (fx' := [(14, 54, a0_, .ref a_23), (14, 50, a0_, .ref a_21), (14, 49, a0_, .ref a_19), (14, 48, a0_, .ref a_5), (14, 47, a0_, .ref a_3), (14, 46, a0_, .ref a_1), (14, 53, a0_, .int y0_), (14, 51, a0_, .int y2_)]) rfl dX14_addMake_100 (fun f H locs hM_27 g => ?_)
  refine lv_aload_n hx hb dX14_addMake_103 rfl (lv_at hl 0 rfl) ?_
  refine lv_dup hx hb dX14_addMake_104 rfl ?_
  refine g_getk (C := RX14) (T := TX14) (N := 67) hx hb hts (mc_ inX14) hown hK g rfl 51 (by decide) rfl (hts _ (List.mem_cons_of_mem _ t_2197)) (fun _ h9 => h9) 8 rfl dX14_addMake_105 ?_
  refine lv_iconst (v := 1) hx hb dX14_addMake_108 (by decide) ?_
  refine lv_iadd hx hb dX14_addMake_109 ?_
  refine lv_topi (fun y_28 ey_28 => ?_)
  have ty_28 := add_bd ey_28 by2_ kb_1 (by decide)
  have b_29 : bd 1 10 y_28 := add_rg ty_28 by2_ kb_1 (by decide)
  refine g_put (C := RX14) (T := TX14) (N := 67) hx hb hts (mc_ inX14) tyX14 tyX14_ok nmX14 hown hK g ma0_ ka0_ (by decide) rfl 51 (by decide) (hts _ (List.mem_cons_of_mem _ t_2197)) (fun _ h9 => h9) rfl rfl (okV_i (bd_sub b_29 (by decide))) rfl rfl (by decide) (Or.inr (Or.inl (by decide))) (fx' := [(14, 52, a0_, .int y_25), (14, 54, a0_, .ref a_23), (14, 50, a0_, .ref a_21), (14, 49, a0_, .ref a_19), (14, 48, a0_, .ref a_5), (14, 47, a0_, .ref a_3), (14, 46, a0_, .ref a_1), (14, 53, a0_, .int y0_)]) rfl dX14_addMake_110 (fun f H locs hM_30 g => ?_)
  subst hQ
  exact W.vret hx hb hr (fun t ht hW => ⟨⟨_, rfl, ⟨y_28, b_29, y_25, b_26, (g.fcts [0, 1] rfl)⟩, q3_of g hK ht hW⟩, g.2.2.1.F ht⟩) g.2.2.1.2.2 dX14_addMake_113
set_option maxHeartbeats 4000000 in
set_option maxRecDepth 100000 in
theorem r_X14_make (l : Launch) (dC : Nat → ClassId) (dI : Nat → Nat → Nat) (L : List Nat) (kd : Nat → Nat) (tys : List (ClassId × FieldType)) (f0 : Nat → va_E) (sz : Nat) (hWT : WT L kd tys f0) (a0_ : Nat) (ma0_ : a0_ ∈ L) (ka0_ : kd a0_ = 14) (x1_ : Int32) : Met l yX14_make (.code yX14_make cX14_make 2 (some .int) :: lw_g) ({ frames := 2, cells := 0, slots := 0, locals := 46 }) (va_Pc [.ref a0_, .int x1_] (P3 (dC, dI) L tys f0 sz)) (va_Qi (fun (r : Int32) (f : Nat → va_E) => (bd (-3) 2 r ∧ True)) (Q3 (dC, dI) L kd tys [(14, 51), (14, 52), (14, 53)] [222, 223, 224, 225, 226, 227] f0 sz) (pA L sz)) 0 0 (pA L sz) := by
  refine Met.ofW (cc := cX14_make) (maxL := 2) (ret := (some .int)) (by decide) rfl ?_
  intro p e s m args below meth c s₁ B hml hv
  obtain ⟨rfl, hsz, hP, hK, hD0⟩ := hv
  have hx := B.exec
  have hb := B.bytes
  have hr := B.returns
  have hts := atoms_spec (ws := (.code yX14_make cX14_make 2 (some .int) :: lw_g)) B.pre
  have hown : s.vm.findClass RX14 = some m.cls := findClass_of_methodNamed B.named
  have hlocks := B.notSynchronized
  subst hsz
  have g : G3 (dC, dI) L kd tys s f0 [(14, 51), (14, 52), (14, 53)] [222, 223, 224, 225, 226, 227] f0 s.heap [] [] := G3.start hP hD0 hWT Fs.nil
  have hl := lv_entry ([.ref a0_, .int x1_]) (n := 2) (Nat.le_of_ble_eq_true rfl)
  rw [lg_entry_eq]
  generalize (lg_sl ([.ref a0_, .int x1_]) ++ List.replicate (2 - (lg_sl ([.ref a0_, .int x1_])).length) Slot.unset).toArray = ls at hl ⊢
  have hl : lv_has ls 2 [(0, .ref a0_), (1, .int x1_)] := hl
  refine W_q (fun Q hQ => ?_)
  refine lv_aload_n hx hb dX14_make_0 rfl (lv_at hl 0 rfl) ?_
  refine lv_iload_n hx hb dX14_make_1 rfl (lv_at hl 1 rfl) ?_
  refine g_calli (va_runV (As := [.int x1_]) (rest := []) ⟨hx, hb, hml, hown, hts⟩ (r_X14_isClass l dC dI L kd tys f0 s.heap.size g.2.2.2.1 a0_ ma0_ ka0_ x1_) (cwV 1 hts (gV_ t_2574 t_2576 t_137 t_198 t_2577) rfl rfl rfl (by decide +kernel) ⟨(Nat.le_of_ble_eq_true rfl), (Nat.le_of_ble_eq_true rfl)⟩) (pre3V g hK ma0_ ka0_ (by decide) (q := (RX14, TX14, 67)) rfl) rfl rfl hl.1 rfl (lv_room (Nat.le_of_ble_eq_true rfl)) dX14_make_2 ⟨(Nat.le_of_ble_eq_true rfl), (Nat.le_of_ble_eq_true rfl)⟩) g hK (by decide) (by decide) (fx' := []) rfl (fun r_1 fr_1 H locs hp hMr_1 g => ?_)
  rcases hp with ⟨h_2, -⟩ | ⟨h_3, h_4, -⟩
  · obtain rfl : r_1 = 0 := h_2
    refine lv_if_ne (tgt := 11) hx hb dX14_make_5 (by decide) (fun c_ => absurd c_ (by decide)) (fun c_ => ?_)
    refine lv_bipush (v := (-2)) hx hb dX14_make_8 (by decide) ?_
    have kb_m2 : bd (-2) (-2) ((-2) : Int32) := ⟨by decide, by decide⟩
    subst hQ
    exact W.iret (v := (-2)) hx hb hr (fun t ht hW => ⟨⟨_, _, rfl, ⟨(bd_sub kb_m2 (by decide)), trivial⟩, q3_of g hK ht hW⟩, g.2.2.1.F ht⟩) g.2.2.1.2.2 dX14_make_10
  · obtain rfl : r_1 = 1 := h_3
    have b_5 : bd 0 7 x1_ := eqX rfl (bdT x1_) h_4 (by decide)
    refine lv_if_ne (tgt := 11) hx hb dX14_make_5 (by decide) (fun c_ => ?_) (fun c_ => absurd c_ (by decide))
    refine lv_aload_n hx hb dX14_make_11 rfl (lv_at hl 0 rfl) ?_
    refine g_geti (C := RX14) (T := TX14) (N := 67) hx hb hts (mc_ inX14) hown hK g ma0_ ka0_ (by decide) rfl 51 (by decide) rfl (hts _ (List.mem_cons_of_mem _ t_2197)) (fun _ h9 => h9) rfl dX14_make_12 (fun x_6 bx_6 g => ?_)
    refine lv_bipush (v := 10) hx hb dX14_make_15 (by decide) ?_
    have kb_10 : bd 10 10 (10 : Int32) := ⟨by decide, by decide⟩
    refine lv_icmp_eq (tgt := 28) hx hb dX14_make_17 (by decide) (fun c_7 => ?_) (fun c_7 => ?_)
    · have fc_7 := eq_f c_7
      have b_8 : bd 10 10 x_6 := eqX fc_7 bx_6 kb_10 (by decide)
      refine lv_bipush (v := (-3)) hx hb dX14_make_28 (by decide) ?_
      have kb_m3 : bd (-3) (-3) ((-3) : Int32) := ⟨by decide, by decide⟩
      subst hQ
      exact W.iret (v := (-3)) hx hb hr (fun t ht hW => ⟨⟨_, _, rfl, ⟨(bd_sub kb_m3 (by decide)), trivial⟩, q3_of g hK ht hW⟩, g.2.2.1.F ht⟩) g.2.2.1.2.2 dX14_make_30
    · have fc_7 := neq_f c_7
      have b_9 : bd 0 9 x_6 := neX fc_7 bx_6 kb_10 (by decide)
      refine lv_aload_n hx hb dX14_make_20 rfl (lv_at hl 0 rfl) ?_
      refine g_geti (C := RX14) (T := TX14) (N := 67) hx hb hts (mc_ inX14) hown hK g ma0_ ka0_ (by decide) rfl 52 (by decide) rfl (hts _ (List.mem_cons_of_mem _ t_2198)) (fun _ h9 => h9) rfl dX14_make_21 (fun x_10 bx_10 g => ?_)
      refine lv_iconst (v := 3) hx hb dX14_make_24 (by decide) ?_
      have kb_3 : bd 3 3 (3 : Int32) := ⟨by decide, by decide⟩
      refine lv_icmp_ne (tgt := 31) hx hb dX14_make_25 (by decide) (fun c_11 => ?_) (fun c_11 => ?_)
      · have fc_11 := neq_f c_11
        have b_12 : bd 0 2 x_10 := neX fc_11 bx_10 kb_3 (by decide)
        refine lv_aload_n hx hb dX14_make_31 rfl (lv_at hl 0 rfl) ?_
        refine lv_iconst (v := 1) hx hb dX14_make_32 (by decide) ?_
        have kb_1 : bd 1 1 (1 : Int32) := ⟨by decide, by decide⟩
        refine g_put (C := RX14) (T := TX14) (N := 67) hx hb hts (mc_ inX14) tyX14 tyX14_ok nmX14 hown hK g ma0_ ka0_ (by decide) rfl 53 (by decide) (hts _ (List.mem_cons_of_mem _ t_2199)) (fun _ h9 => h9) rfl rfl (okV_i (bd_sub kb_1 (by decide))) rfl rfl (by decide) (Or.inr (Or.inl (by decide))) (fx' := [(14, 52, a0_, .int x_10), (14, 51, a0_, .int x_6)]) rfl dX14_make_33 (fun f H locs hM_13 g => ?_)
        refine lv_aload_n hx hb dX14_make_36 rfl (lv_at hl 0 rfl) ?_
        refine lv_iload_n hx hb dX14_make_37 rfl (lv_at hl 1 rfl) ?_
        refine g_callv (va_runV (As := [.int x1_]) (rest := []) ⟨hx, hb, hml, hown, hts⟩ (r_X14_addMake l dC dI L kd tys f H.size g.2.2.2.1 a0_ ma0_ ka0_ x1_ b_5 1 kb_1 x_10 b_12 x_6 b_9 (g.fcts [0, 1, 2] rfl)) (cwV 1 hts (gV_ t_2594 t_2596 t_138 t_198 t_2597) rfl rfl rfl (by decide +kernel) ⟨(Nat.le_of_ble_eq_true rfl), (Nat.le_of_ble_eq_true rfl)⟩) (pre3V g hK ma0_ ka0_ (by decide) (q := (RX14, TX14, 67)) rfl) rfl rfl hl.1 rfl (lv_room (Nat.le_of_ble_eq_true rfl)) dX14_make_38 ⟨(Nat.le_of_ble_eq_true rfl), (Nat.le_of_ble_eq_true rfl)⟩) g hK (by decide) (by decide) (fx' := [(14, 53, a0_, .int 1)]) rfl (fun fr_14 H locs hp hMr_14 g => ?_)
        obtain ⟨x_15, h_16, x_17, h_18, hF_19⟩ := hp
        have g := g.more hF_19
        refine lv_aload_n hx hb dX14_make_41 rfl (lv_at hl 0 rfl) ?_
        refine g_getk (C := RX14) (T := TX14) (N := 67) hx hb hts (mc_ inX14) hown hK g rfl 52 (by decide) rfl (hts _ (List.mem_cons_of_mem _ t_2198)) (fun _ h9 => h9) 1 rfl dX14_make_42 ?_
        refine lv_iconst (v := 1) hx hb dX14_make_45 (by decide) ?_
        refine lv_isub hx hb dX14_make_46 ?_
        refine lv_topi (fun y_20 ey_20 => ?_)
        have ty_20 := sub_bd ey_20 h_18 kb_1 (by decide)
        have b_21 : bd 0 2 y_20 := sub_rg ty_20 h_18 kb_1 (by decide)
        subst hQ
        exact W.iret (v := y_20) hx hb hr (fun t ht hW => ⟨⟨_, _, rfl, ⟨(bd_sub b_21 (by decide)), trivial⟩, q3_of g hK ht hW⟩, g.2.2.1.F ht⟩) g.2.2.1.2.2 dX14_make_47
      · have fc_11 := eq_f c_11
        have b_22 : bd 3 3 x_10 := eqX fc_11 bx_10 kb_3 (by decide)
        refine lv_bipush (v := (-3)) hx hb dX14_make_28 (by decide) ?_
        have kb_m3 : bd (-3) (-3) ((-3) : Int32) := ⟨by decide, by decide⟩
        subst hQ
        exact W.iret (v := (-3)) hx hb hr (fun t ht hW => ⟨⟨_, _, rfl, ⟨(bd_sub kb_m3 (by decide)), trivial⟩, q3_of g hK ht hW⟩, g.2.2.1.F ht⟩) g.2.2.1.2.2 dX14_make_30
set_option maxHeartbeats 4000000 in
set_option maxRecDepth 100000 in
theorem r_X14_isArgument (l : Launch) (dC : Nat → ClassId) (dI : Nat → Nat → Nat) (L : List Nat) (kd : Nat → Nat) (tys : List (ClassId × FieldType)) (f0 : Nat → va_E) (sz : Nat) (hWT : WT L kd tys f0) (a0_ : Nat) (ma0_ : a0_ ∈ L) (ka0_ : kd a0_ = 14) (x1_ : Int32) (bx1_ : bd 0 109 x1_) (x2_ : Int32) (bx2_ : bd 0 0 x2_) (x3_ : Int32) (y0_ : Int32) (by0_ : bd 1 3 y0_) (hfx : Fs L kd f0 [(14, 52, a0_, .int y0_)]) : Met l yX14_isArgument (.code yX14_isArgument cX14_isArgument 4 (some .boolean) :: lw_g) ({ frames := 1, cells := 0, slots := 0, locals := 25 }) (va_Pc [.ref a0_, .int x1_, .int x2_, .int x3_] (P3 (dC, dI) L tys f0 sz)) (va_Qi (fun (r : Int32) (f : Nat → va_E) => (r = 0 ∧ True) ∨ (r = 1 ∧ True)) (Q3 (dC, dI) L kd tys [] [] f0 sz) (pA L sz)) 0 0 (pA L sz) := by
  refine Met.ofW (cc := cX14_isArgument) (maxL := 4) (ret := (some .boolean)) (by decide) rfl ?_
  intro p e s m args below meth c s₁ B hml hv
  obtain ⟨rfl, hsz, hP, hK, hD0⟩ := hv
  have hx := B.exec
  have hb := B.bytes
  have hr := B.returns
  have hts := atoms_spec (ws := (.code yX14_isArgument cX14_isArgument 4 (some .boolean) :: lw_g)) B.pre
  have hown : s.vm.findClass RX14 = some m.cls := findClass_of_methodNamed B.named
  have hlocks := B.notSynchronized
  subst hsz
  have g : G3 (dC, dI) L kd tys s f0 [] [] f0 s.heap [] [(14, 52, a0_, .int y0_)] := G3.start hP hD0 hWT hfx
  have hl := lv_entry ([.ref a0_, .int x1_, .int x2_, .int x3_]) (n := 4) (Nat.le_of_ble_eq_true rfl)
  rw [lg_entry_eq]
  generalize (lg_sl ([.ref a0_, .int x1_, .int x2_, .int x3_]) ++ List.replicate (4 - (lg_sl ([.ref a0_, .int x1_, .int x2_, .int x3_])).length) Slot.unset).toArray = ls at hl ⊢
  have hl : lv_has ls 4 [(0, .ref a0_), (1, .int x1_), (2, .int x2_), (3, .int x3_)] := hl
  refine W_q (fun Q hQ => ?_)
  refine lv_iload_n hx hb dX14_isArgument_0 rfl (lv_at hl 2 rfl) ?_
  refine lv_aload_n hx hb dX14_isArgument_1 rfl (lv_at hl 0 rfl) ?_
  refine g_getr (K := 12) (C := RX14) (T := TX14) (N := 67) hx hb hts (mc_ inX14) hown hK g ma0_ ka0_ (by decide) rfl 1 (by decide) rfl (hts _ (List.mem_cons_of_mem _ t_2147)) (fun _ h9 => h9) rfl dX14_isArgument_2 (fun a_1 ma_1 ka_1 g => ?_)
  refine g_getr (K := 175) (C := RX12) (T := TX12) (N := 60) hx hb hts (mc_ inX12) hown hK g ma_1 ka_1 (by decide) rfl 19 (by decide) rfl (hts _ (List.mem_cons_of_mem _ t_1944)) (fun _ h9 => h9) rfl dX14_isArgument_5 (fun a_2 ma_2 ka_2 g => ?_)
  refine lv_iload_n hx hb dX14_isArgument_8 rfl (lv_at hl 1 rfl) ?_
  refine g_iald hx hb hK g ma_2 ka_2 (by decide) rfl (in_bd bx1_ (by decide)) dX14_isArgument_9 (fun x_3 bx_3 cx_3 => ?_)
  refine lv_icmp_ge (tgt := 49) hx hb dX14_isArgument_10 (by decide) (fun c_4 => ?_) (fun c_4 => ?_)
  · have fc_4 := le_f c_4
    have b_5 : bd 0 0 x_3 := leL fc_4 bx_3 bx2_ (by decide)
    refine lv_iload_n hx hb dX14_isArgument_49 rfl (lv_at hl 3 rfl) ?_
    have kb_0 : bd 0 0 (0 : Int32) := ⟨by decide, by decide⟩
    refine lv_if_ne (tgt := 57) hx hb dX14_isArgument_50 (by decide) (fun c_6 => ?_) (fun c_6 => ?_)
    · have fc_6 := neq_f c_6
      refine lv_iconst (v := 0) hx hb dX14_isArgument_57 (by decide) ?_
      subst hQ
      exact W.zret (v := 0) hx hb hr (nar_z (bd_sub kb_0 (by decide) : bd 0 1 _).1 (bd_sub kb_0 (by decide) : bd 0 1 _).2) (fun t ht hW => ⟨⟨_, _, rfl, Or.inl ⟨rfl, trivial⟩, q3_of g hK ht hW⟩, g.2.2.1.F ht⟩) g.2.2.1.2.2 dX14_isArgument_58
    · have fc_6 := eq_f c_6
      have b_7 : bd 0 0 x3_ := eqX fc_6 (bdT x3_) kb_0 (by decide)
      refine lv_iconst (v := 1) hx hb dX14_isArgument_53 (by decide) ?_
      refine lv_goto (tgt := 58) hx hb dX14_isArgument_54 (by decide) ?_
      subst hQ
      have kb_1 : bd 1 1 (1 : Int32) := ⟨by decide, by decide⟩
      exact W.zret (v := 1) hx hb hr (nar_z (bd_sub kb_1 (by decide) : bd 0 1 _).1 (bd_sub kb_1 (by decide) : bd 0 1 _).2) (fun t ht hW => ⟨⟨_, _, rfl, Or.inr (⟨rfl, trivial⟩), q3_of g hK ht hW⟩, g.2.2.1.F ht⟩) g.2.2.1.2.2 dX14_isArgument_58
  · have fc_4 := nle_f c_4
    have b_8 : bd 1 3 x_3 := ltR fc_4 bx2_ bx_3 (by decide)
    refine lv_iload_n hx hb dX14_isArgument_13 rfl (lv_at hl 3 rfl) ?_
    refine lv_i2l hx hb dX14_isArgument_14 rfl ?_
    refine lv_topl (fun y_9 ey_9 => ?_)
    refine lv_aload_n hx hb dX14_isArgument_15 rfl (lv_at hl 0 rfl) ?_
    refine g_getk (C := RX14) (T := TX14) (N := 67) hx hb hts (mc_ inX14) hown hK g rfl 1 (by decide) rfl (hts _ (List.mem_cons_of_mem _ t_2147)) (fun _ h9 => h9) 1 rfl dX14_isArgument_16 ?_
    refine g_getr (K := 176) (C := RX12) (T := TX12) (N := 60) hx hb hts (mc_ inX12) hown hK g ma_1 ka_1 (by decide) rfl 20 (by decide) rfl (hts _ (List.mem_cons_of_mem _ t_1946)) (fun _ h9 => h9) rfl dX14_isArgument_19 (fun a_10 ma_10 ka_10 g => ?_)
    refine lv_iconst (v := 3) hx hb dX14_isArgument_22 (by decide) ?_
    refine lv_iload_n hx hb dX14_isArgument_23 rfl (lv_at hl 1 rfl) ?_
    refine lv_imul hx hb dX14_isArgument_24 ?_
    refine lv_topi (fun y_11 ey_11 => ?_)
    have ty_11 := cmul_bd ey_11 (c := 3) (by decide) bx1_ (by decide)
    have b_12 : bd 0 327 y_11 := mulc_rg ty_11 bx1_ (by decide)
    refine lv_iload_n hx hb dX14_isArgument_25 rfl (lv_at hl 2 rfl) ?_
    refine lv_iadd hx hb dX14_isArgument_26 ?_
    refine lv_topi (fun y_13 ey_13 => ?_)
    have ty_13 := add_bd ey_13 b_12 bx2_ (by decide)
    have b_14 : bd 0 327 y_13 := add_rg ty_13 b_12 bx2_ (by decide)
    refine g_iald hx hb hK g ma_10 ka_10 (by decide) rfl (in_bd b_14 (by decide)) dX14_isArgument_27 (fun x_15 bx_15 cx_15 => ?_)
    refine lv_i2l hx hb dX14_isArgument_28 rfl ?_
    refine lv_topl (fun y_16 ey_16 => ?_)
    refine lv_aload_n hx hb dX14_isArgument_29 rfl (lv_at hl 0 rfl) ?_
    refine g_getk (C := RX14) (T := TX14) (N := 67) hx hb hts (mc_ inX14) hown hK g rfl 1 (by decide) rfl (hts _ (List.mem_cons_of_mem _ t_2147)) (fun _ h9 => h9) 2 rfl dX14_isArgument_30 ?_
    refine g_getr (K := 177) (C := RX12) (T := TX12) (N := 60) hx hb hts (mc_ inX12) hown hK g ma_1 ka_1 (by decide) rfl 21 (by decide) rfl (hts _ (List.mem_cons_of_mem _ t_1948)) (fun _ h9 => h9) rfl dX14_isArgument_33 (fun a_17 ma_17 ka_17 g => ?_)
    refine lv_iconst (v := 3) hx hb dX14_isArgument_36 (by decide) ?_
    refine lv_iload_n hx hb dX14_isArgument_37 rfl (lv_at hl 1 rfl) ?_
    refine lv_imul hx hb dX14_isArgument_38 ?_
    refine lv_topi (fun y_18 ey_18 => ?_)
    have ty_18 := cmul_bd ey_18 (c := 3) (by decide) bx1_ (by decide)
    have b_19 : bd 0 327 y_18 := mulc_rg ty_18 bx1_ (by decide)
    refine lv_iload_n hx hb dX14_isArgument_39 rfl (lv_at hl 2 rfl) ?_
    refine lv_iadd hx hb dX14_isArgument_40 ?_
    refine lv_topi (fun y_20 ey_20 => ?_)
    have ty_20 := add_bd ey_20 b_19 bx2_ (by decide)
    have b_21 : bd 0 327 y_20 := add_rg ty_20 b_19 bx2_ (by decide)
    refine g_iald hx hb hK g ma_17 ka_17 (by decide) rfl (in_bd b_21 (by decide)) dX14_isArgument_41 (fun x_22 bx_22 cx_22 => ?_)
    refine lv_i2l hx hb dX14_isArgument_42 rfl ?_
    refine lv_topl (fun y_23 ey_23 => ?_)
    refine g_calli (va_runS (As := [.long y_9, .long y_16, .long y_23]) (rest := []) ⟨hx, hb, hml, hown, hts⟩ (r_X14_in l dC dI L kd tys f0 s.heap.size g.2.2.2.1 y_9 y_16 y_23) (va_cwS 3 hts (gS_ t_2448 t_2449 t_198 t_2450) rfl rfl rfl (by decide +kernel) ⟨(Nat.le_of_ble_eq_true rfl), (Nat.le_of_ble_eq_true rfl)⟩) (pre3S g hK) rfl rfl hl.1 rfl (lv_room (Nat.le_of_ble_eq_true rfl)) dX14_isArgument_43 ⟨(Nat.le_of_ble_eq_true rfl), (Nat.le_of_ble_eq_true rfl)⟩) g hK (by decide) (by decide) (fx' := [(12, 21, a_1, .ref a_17), (12, 20, a_1, .ref a_10), (12, 19, a_1, .ref a_2), (14, 1, a0_, .ref a_1), (14, 52, a0_, .int y0_)]) rfl (fun r_24 fr_24 H locs hp hMr_24 g => ?_)
    rcases hp with ⟨h_25, -⟩ | ⟨h_26, h_27, -⟩
    · obtain rfl : r_24 = 0 := h_25
      refine lv_goto (tgt := 58) hx hb dX14_isArgument_46 (by decide) ?_
      subst hQ
      have kb_0 : bd 0 0 (0 : Int32) := ⟨by decide, by decide⟩
      exact W.zret (v := 0) hx hb hr (nar_z (bd_sub kb_0 (by decide) : bd 0 1 _).1 (bd_sub kb_0 (by decide) : bd 0 1 _).2) (fun t ht hW => ⟨⟨_, _, rfl, Or.inl ⟨rfl, trivial⟩, q3_of g hK ht hW⟩, g.2.2.1.F ht⟩) g.2.2.1.2.2 dX14_isArgument_58
    · obtain rfl : r_24 = 1 := h_26
      have f_28 : x_15.toInt ≤ x3_.toInt := in_le h_27.1 (in_v ey_16) (in_v ey_9)
      have f_29 : x3_.toInt ≤ x_22.toInt := in_le h_27.2 (in_v ey_9) (in_v ey_23)
      refine lv_goto (tgt := 58) hx hb dX14_isArgument_46 (by decide) ?_
      subst hQ
      have kb_1 : bd 1 1 (1 : Int32) := ⟨by decide, by decide⟩
      exact W.zret (v := 1) hx hb hr (nar_z (bd_sub kb_1 (by decide) : bd 0 1 _).1 (bd_sub kb_1 (by decide) : bd 0 1 _).2) (fun t ht hW => ⟨⟨_, _, rfl, Or.inr (⟨rfl, trivial⟩), q3_of g hK ht hW⟩, g.2.2.1.F ht⟩) g.2.2.1.2.2 dX14_isArgument_58
set_option maxHeartbeats 4000000 in
set_option maxRecDepth 100000 in
theorem r_X14_isArgument_2 (l : Launch) (dC : Nat → ClassId) (dI : Nat → Nat → Nat) (L : List Nat) (kd : Nat → Nat) (tys : List (ClassId × FieldType)) (f0 : Nat → va_E) (sz : Nat) (hWT : WT L kd tys f0) (a0_ : Nat) (ma0_ : a0_ ∈ L) (ka0_ : kd a0_ = 14) (x1_ : Int32) (bx1_ : bd 0 109 x1_) (x2_ : Int32) (bx2_ : bd 1 1 x2_) (x3_ : Int32) (y0_ : Int32) (by0_ : bd 1 3 y0_) (hfx : Fs L kd f0 [(14, 52, a0_, .int y0_)]) : Met l yX14_isArgument (.code yX14_isArgument cX14_isArgument 4 (some .boolean) :: lw_g) ({ frames := 1, cells := 0, slots := 0, locals := 25 }) (va_Pc [.ref a0_, .int x1_, .int x2_, .int x3_] (P3 (dC, dI) L tys f0 sz)) (va_Qi (fun (r : Int32) (f : Nat → va_E) => (r = 0 ∧ True) ∨ (r = 1 ∧ True)) (Q3 (dC, dI) L kd tys [] [] f0 sz) (pA L sz)) 0 0 (pA L sz) := by
  refine Met.ofW (cc := cX14_isArgument) (maxL := 4) (ret := (some .boolean)) (by decide) rfl ?_
  intro p e s m args below meth c s₁ B hml hv
  obtain ⟨rfl, hsz, hP, hK, hD0⟩ := hv
  have hx := B.exec
  have hb := B.bytes
  have hr := B.returns
  have hts := atoms_spec (ws := (.code yX14_isArgument cX14_isArgument 4 (some .boolean) :: lw_g)) B.pre
  have hown : s.vm.findClass RX14 = some m.cls := findClass_of_methodNamed B.named
  have hlocks := B.notSynchronized
  subst hsz
  have g : G3 (dC, dI) L kd tys s f0 [] [] f0 s.heap [] [(14, 52, a0_, .int y0_)] := G3.start hP hD0 hWT hfx
  have hl := lv_entry ([.ref a0_, .int x1_, .int x2_, .int x3_]) (n := 4) (Nat.le_of_ble_eq_true rfl)
  rw [lg_entry_eq]
  generalize (lg_sl ([.ref a0_, .int x1_, .int x2_, .int x3_]) ++ List.replicate (4 - (lg_sl ([.ref a0_, .int x1_, .int x2_, .int x3_])).length) Slot.unset).toArray = ls at hl ⊢
  have hl : lv_has ls 4 [(0, .ref a0_), (1, .int x1_), (2, .int x2_), (3, .int x3_)] := hl
  refine W_q (fun Q hQ => ?_)
  refine lv_iload_n hx hb dX14_isArgument_0 rfl (lv_at hl 2 rfl) ?_
  refine lv_aload_n hx hb dX14_isArgument_1 rfl (lv_at hl 0 rfl) ?_
  refine g_getr (K := 12) (C := RX14) (T := TX14) (N := 67) hx hb hts (mc_ inX14) hown hK g ma0_ ka0_ (by decide) rfl 1 (by decide) rfl (hts _ (List.mem_cons_of_mem _ t_2147)) (fun _ h9 => h9) rfl dX14_isArgument_2 (fun a_1 ma_1 ka_1 g => ?_)
  refine g_getr (K := 175) (C := RX12) (T := TX12) (N := 60) hx hb hts (mc_ inX12) hown hK g ma_1 ka_1 (by decide) rfl 19 (by decide) rfl (hts _ (List.mem_cons_of_mem _ t_1944)) (fun _ h9 => h9) rfl dX14_isArgument_5 (fun a_2 ma_2 ka_2 g => ?_)
  refine lv_iload_n hx hb dX14_isArgument_8 rfl (lv_at hl 1 rfl) ?_
  refine g_iald hx hb hK g ma_2 ka_2 (by decide) rfl (in_bd bx1_ (by decide)) dX14_isArgument_9 (fun x_3 bx_3 cx_3 => ?_)
  refine lv_icmp_ge (tgt := 49) hx hb dX14_isArgument_10 (by decide) (fun c_4 => ?_) (fun c_4 => ?_)
  · have fc_4 := le_f c_4
    have b_5 : bd 0 1 x_3 := leL fc_4 bx_3 bx2_ (by decide)
    refine lv_iload_n hx hb dX14_isArgument_49 rfl (lv_at hl 3 rfl) ?_
    have kb_0 : bd 0 0 (0 : Int32) := ⟨by decide, by decide⟩
    refine lv_if_ne (tgt := 57) hx hb dX14_isArgument_50 (by decide) (fun c_6 => ?_) (fun c_6 => ?_)
    · have fc_6 := neq_f c_6
      refine lv_iconst (v := 0) hx hb dX14_isArgument_57 (by decide) ?_
      subst hQ
      exact W.zret (v := 0) hx hb hr (nar_z (bd_sub kb_0 (by decide) : bd 0 1 _).1 (bd_sub kb_0 (by decide) : bd 0 1 _).2) (fun t ht hW => ⟨⟨_, _, rfl, Or.inl ⟨rfl, trivial⟩, q3_of g hK ht hW⟩, g.2.2.1.F ht⟩) g.2.2.1.2.2 dX14_isArgument_58
    · have fc_6 := eq_f c_6
      have b_7 : bd 0 0 x3_ := eqX fc_6 (bdT x3_) kb_0 (by decide)
      refine lv_iconst (v := 1) hx hb dX14_isArgument_53 (by decide) ?_
      refine lv_goto (tgt := 58) hx hb dX14_isArgument_54 (by decide) ?_
      subst hQ
      have kb_1 : bd 1 1 (1 : Int32) := ⟨by decide, by decide⟩
      exact W.zret (v := 1) hx hb hr (nar_z (bd_sub kb_1 (by decide) : bd 0 1 _).1 (bd_sub kb_1 (by decide) : bd 0 1 _).2) (fun t ht hW => ⟨⟨_, _, rfl, Or.inr (⟨rfl, trivial⟩), q3_of g hK ht hW⟩, g.2.2.1.F ht⟩) g.2.2.1.2.2 dX14_isArgument_58
  · have fc_4 := nle_f c_4
    have b_8 : bd 2 3 x_3 := ltR fc_4 bx2_ bx_3 (by decide)
    refine lv_iload_n hx hb dX14_isArgument_13 rfl (lv_at hl 3 rfl) ?_
    refine lv_i2l hx hb dX14_isArgument_14 rfl ?_
    refine lv_topl (fun y_9 ey_9 => ?_)
    refine lv_aload_n hx hb dX14_isArgument_15 rfl (lv_at hl 0 rfl) ?_
    refine g_getk (C := RX14) (T := TX14) (N := 67) hx hb hts (mc_ inX14) hown hK g rfl 1 (by decide) rfl (hts _ (List.mem_cons_of_mem _ t_2147)) (fun _ h9 => h9) 1 rfl dX14_isArgument_16 ?_
    refine g_getr (K := 176) (C := RX12) (T := TX12) (N := 60) hx hb hts (mc_ inX12) hown hK g ma_1 ka_1 (by decide) rfl 20 (by decide) rfl (hts _ (List.mem_cons_of_mem _ t_1946)) (fun _ h9 => h9) rfl dX14_isArgument_19 (fun a_10 ma_10 ka_10 g => ?_)
    refine lv_iconst (v := 3) hx hb dX14_isArgument_22 (by decide) ?_
    refine lv_iload_n hx hb dX14_isArgument_23 rfl (lv_at hl 1 rfl) ?_
    refine lv_imul hx hb dX14_isArgument_24 ?_
    refine lv_topi (fun y_11 ey_11 => ?_)
    have ty_11 := cmul_bd ey_11 (c := 3) (by decide) bx1_ (by decide)
    have b_12 : bd 0 327 y_11 := mulc_rg ty_11 bx1_ (by decide)
    refine lv_iload_n hx hb dX14_isArgument_25 rfl (lv_at hl 2 rfl) ?_
    refine lv_iadd hx hb dX14_isArgument_26 ?_
    refine lv_topi (fun y_13 ey_13 => ?_)
    have ty_13 := add_bd ey_13 b_12 bx2_ (by decide)
    have b_14 : bd 1 328 y_13 := add_rg ty_13 b_12 bx2_ (by decide)
    refine g_iald hx hb hK g ma_10 ka_10 (by decide) rfl (in_bd b_14 (by decide)) dX14_isArgument_27 (fun x_15 bx_15 cx_15 => ?_)
    refine lv_i2l hx hb dX14_isArgument_28 rfl ?_
    refine lv_topl (fun y_16 ey_16 => ?_)
    refine lv_aload_n hx hb dX14_isArgument_29 rfl (lv_at hl 0 rfl) ?_
    refine g_getk (C := RX14) (T := TX14) (N := 67) hx hb hts (mc_ inX14) hown hK g rfl 1 (by decide) rfl (hts _ (List.mem_cons_of_mem _ t_2147)) (fun _ h9 => h9) 2 rfl dX14_isArgument_30 ?_
    refine g_getr (K := 177) (C := RX12) (T := TX12) (N := 60) hx hb hts (mc_ inX12) hown hK g ma_1 ka_1 (by decide) rfl 21 (by decide) rfl (hts _ (List.mem_cons_of_mem _ t_1948)) (fun _ h9 => h9) rfl dX14_isArgument_33 (fun a_17 ma_17 ka_17 g => ?_)
    refine lv_iconst (v := 3) hx hb dX14_isArgument_36 (by decide) ?_
    refine lv_iload_n hx hb dX14_isArgument_37 rfl (lv_at hl 1 rfl) ?_
    refine lv_imul hx hb dX14_isArgument_38 ?_
    refine lv_topi (fun y_18 ey_18 => ?_)
    have ty_18 := cmul_bd ey_18 (c := 3) (by decide) bx1_ (by decide)
    have b_19 : bd 0 327 y_18 := mulc_rg ty_18 bx1_ (by decide)
    refine lv_iload_n hx hb dX14_isArgument_39 rfl (lv_at hl 2 rfl) ?_
    refine lv_iadd hx hb dX14_isArgument_40 ?_
    refine lv_topi (fun y_20 ey_20 => ?_)
    have ty_20 := add_bd ey_20 b_19 bx2_ (by decide)
    have b_21 : bd 1 328 y_20 := add_rg ty_20 b_19 bx2_ (by decide)
    refine g_iald hx hb hK g ma_17 ka_17 (by decide) rfl (in_bd b_21 (by decide)) dX14_isArgument_41 (fun x_22 bx_22 cx_22 => ?_)
    refine lv_i2l hx hb dX14_isArgument_42 rfl ?_
    refine lv_topl (fun y_23 ey_23 => ?_)
    refine g_calli (va_runS (As := [.long y_9, .long y_16, .long y_23]) (rest := []) ⟨hx, hb, hml, hown, hts⟩ (r_X14_in l dC dI L kd tys f0 s.heap.size g.2.2.2.1 y_9 y_16 y_23) (va_cwS 3 hts (gS_ t_2448 t_2449 t_198 t_2450) rfl rfl rfl (by decide +kernel) ⟨(Nat.le_of_ble_eq_true rfl), (Nat.le_of_ble_eq_true rfl)⟩) (pre3S g hK) rfl rfl hl.1 rfl (lv_room (Nat.le_of_ble_eq_true rfl)) dX14_isArgument_43 ⟨(Nat.le_of_ble_eq_true rfl), (Nat.le_of_ble_eq_true rfl)⟩) g hK (by decide) (by decide) (fx' := [(12, 21, a_1, .ref a_17), (12, 20, a_1, .ref a_10), (12, 19, a_1, .ref a_2), (14, 1, a0_, .ref a_1), (14, 52, a0_, .int y0_)]) rfl (fun r_24 fr_24 H locs hp hMr_24 g => ?_)
    rcases hp with ⟨h_25, -⟩ | ⟨h_26, h_27, -⟩
    · obtain rfl : r_24 = 0 := h_25
      refine lv_goto (tgt := 58) hx hb dX14_isArgument_46 (by decide) ?_
      subst hQ
      have kb_0 : bd 0 0 (0 : Int32) := ⟨by decide, by decide⟩
      exact W.zret (v := 0) hx hb hr (nar_z (bd_sub kb_0 (by decide) : bd 0 1 _).1 (bd_sub kb_0 (by decide) : bd 0 1 _).2) (fun t ht hW => ⟨⟨_, _, rfl, Or.inl ⟨rfl, trivial⟩, q3_of g hK ht hW⟩, g.2.2.1.F ht⟩) g.2.2.1.2.2 dX14_isArgument_58
    · obtain rfl : r_24 = 1 := h_26
      have f_28 : x_15.toInt ≤ x3_.toInt := in_le h_27.1 (in_v ey_16) (in_v ey_9)
      have f_29 : x3_.toInt ≤ x_22.toInt := in_le h_27.2 (in_v ey_9) (in_v ey_23)
      refine lv_goto (tgt := 58) hx hb dX14_isArgument_46 (by decide) ?_
      subst hQ
      have kb_1 : bd 1 1 (1 : Int32) := ⟨by decide, by decide⟩
      exact W.zret (v := 1) hx hb hr (nar_z (bd_sub kb_1 (by decide) : bd 0 1 _).1 (bd_sub kb_1 (by decide) : bd 0 1 _).2) (fun t ht hW => ⟨⟨_, _, rfl, Or.inr (⟨rfl, trivial⟩), q3_of g hK ht hW⟩, g.2.2.1.F ht⟩) g.2.2.1.2.2 dX14_isArgument_58
set_option maxHeartbeats 4000000 in
set_option maxRecDepth 100000 in
theorem r_X14_isArgument_3 (l : Launch) (dC : Nat → ClassId) (dI : Nat → Nat → Nat) (L : List Nat) (kd : Nat → Nat) (tys : List (ClassId × FieldType)) (f0 : Nat → va_E) (sz : Nat) (hWT : WT L kd tys f0) (a0_ : Nat) (ma0_ : a0_ ∈ L) (ka0_ : kd a0_ = 14) (x1_ : Int32) (bx1_ : bd 0 109 x1_) (x2_ : Int32) (bx2_ : bd 2 2 x2_) (x3_ : Int32) (y0_ : Int32) (by0_ : bd 1 3 y0_) (hfx : Fs L kd f0 [(14, 52, a0_, .int y0_)]) : Met l yX14_isArgument (.code yX14_isArgument cX14_isArgument 4 (some .boolean) :: lw_g) ({ frames := 1, cells := 0, slots := 0, locals := 25 }) (va_Pc [.ref a0_, .int x1_, .int x2_, .int x3_] (P3 (dC, dI) L tys f0 sz)) (va_Qi (fun (r : Int32) (f : Nat → va_E) => (r = 0 ∧ True) ∨ (r = 1 ∧ True)) (Q3 (dC, dI) L kd tys [] [] f0 sz) (pA L sz)) 0 0 (pA L sz) := by
  refine Met.ofW (cc := cX14_isArgument) (maxL := 4) (ret := (some .boolean)) (by decide) rfl ?_
  intro p e s m args below meth c s₁ B hml hv
  obtain ⟨rfl, hsz, hP, hK, hD0⟩ := hv
  have hx := B.exec
  have hb := B.bytes
  have hr := B.returns
  have hts := atoms_spec (ws := (.code yX14_isArgument cX14_isArgument 4 (some .boolean) :: lw_g)) B.pre
  have hown : s.vm.findClass RX14 = some m.cls := findClass_of_methodNamed B.named
  have hlocks := B.notSynchronized
  subst hsz
  have g : G3 (dC, dI) L kd tys s f0 [] [] f0 s.heap [] [(14, 52, a0_, .int y0_)] := G3.start hP hD0 hWT hfx
  have hl := lv_entry ([.ref a0_, .int x1_, .int x2_, .int x3_]) (n := 4) (Nat.le_of_ble_eq_true rfl)
  rw [lg_entry_eq]
  generalize (lg_sl ([.ref a0_, .int x1_, .int x2_, .int x3_]) ++ List.replicate (4 - (lg_sl ([.ref a0_, .int x1_, .int x2_, .int x3_])).length) Slot.unset).toArray = ls at hl ⊢
  have hl : lv_has ls 4 [(0, .ref a0_), (1, .int x1_), (2, .int x2_), (3, .int x3_)] := hl
  refine W_q (fun Q hQ => ?_)
  refine lv_iload_n hx hb dX14_isArgument_0 rfl (lv_at hl 2 rfl) ?_
  refine lv_aload_n hx hb dX14_isArgument_1 rfl (lv_at hl 0 rfl) ?_
  refine g_getr (K := 12) (C := RX14) (T := TX14) (N := 67) hx hb hts (mc_ inX14) hown hK g ma0_ ka0_ (by decide) rfl 1 (by decide) rfl (hts _ (List.mem_cons_of_mem _ t_2147)) (fun _ h9 => h9) rfl dX14_isArgument_2 (fun a_1 ma_1 ka_1 g => ?_)
  refine g_getr (K := 175) (C := RX12) (T := TX12) (N := 60) hx hb hts (mc_ inX12) hown hK g ma_1 ka_1 (by decide) rfl 19 (by decide) rfl (hts _ (List.mem_cons_of_mem _ t_1944)) (fun _ h9 => h9) rfl dX14_isArgument_5 (fun a_2 ma_2 ka_2 g => ?_)
  refine lv_iload_n hx hb dX14_isArgument_8 rfl (lv_at hl 1 rfl) ?_
  refine g_iald hx hb hK g ma_2 ka_2 (by decide) rfl (in_bd bx1_ (by decide)) dX14_isArgument_9 (fun x_3 bx_3 cx_3 => ?_)
  refine lv_icmp_ge (tgt := 49) hx hb dX14_isArgument_10 (by decide) (fun c_4 => ?_) (fun c_4 => ?_)
  · have fc_4 := le_f c_4
    have b_5 : bd 0 2 x_3 := leL fc_4 bx_3 bx2_ (by decide)
    refine lv_iload_n hx hb dX14_isArgument_49 rfl (lv_at hl 3 rfl) ?_
    have kb_0 : bd 0 0 (0 : Int32) := ⟨by decide, by decide⟩
    refine lv_if_ne (tgt := 57) hx hb dX14_isArgument_50 (by decide) (fun c_6 => ?_) (fun c_6 => ?_)
    · have fc_6 := neq_f c_6
      refine lv_iconst (v := 0) hx hb dX14_isArgument_57 (by decide) ?_
      subst hQ
      exact W.zret (v := 0) hx hb hr (nar_z (bd_sub kb_0 (by decide) : bd 0 1 _).1 (bd_sub kb_0 (by decide) : bd 0 1 _).2) (fun t ht hW => ⟨⟨_, _, rfl, Or.inl ⟨rfl, trivial⟩, q3_of g hK ht hW⟩, g.2.2.1.F ht⟩) g.2.2.1.2.2 dX14_isArgument_58
    · have fc_6 := eq_f c_6
      have b_7 : bd 0 0 x3_ := eqX fc_6 (bdT x3_) kb_0 (by decide)
      refine lv_iconst (v := 1) hx hb dX14_isArgument_53 (by decide) ?_
      refine lv_goto (tgt := 58) hx hb dX14_isArgument_54 (by decide) ?_
      subst hQ
      have kb_1 : bd 1 1 (1 : Int32) := ⟨by decide, by decide⟩
      exact W.zret (v := 1) hx hb hr (nar_z (bd_sub kb_1 (by decide) : bd 0 1 _).1 (bd_sub kb_1 (by decide) : bd 0 1 _).2) (fun t ht hW => ⟨⟨_, _, rfl, Or.inr (⟨rfl, trivial⟩), q3_of g hK ht hW⟩, g.2.2.1.F ht⟩) g.2.2.1.2.2 dX14_isArgument_58
  · have fc_4 := nle_f c_4
    have b_8 : bd 3 3 x_3 := ltR fc_4 bx2_ bx_3 (by decide)
    refine lv_iload_n hx hb dX14_isArgument_13 rfl (lv_at hl 3 rfl) ?_
    refine lv_i2l hx hb dX14_isArgument_14 rfl ?_
    refine lv_topl (fun y_9 ey_9 => ?_)
    refine lv_aload_n hx hb dX14_isArgument_15 rfl (lv_at hl 0 rfl) ?_
    refine g_getk (C := RX14) (T := TX14) (N := 67) hx hb hts (mc_ inX14) hown hK g rfl 1 (by decide) rfl (hts _ (List.mem_cons_of_mem _ t_2147)) (fun _ h9 => h9) 1 rfl dX14_isArgument_16 ?_
    refine g_getr (K := 176) (C := RX12) (T := TX12) (N := 60) hx hb hts (mc_ inX12) hown hK g ma_1 ka_1 (by decide) rfl 20 (by decide) rfl (hts _ (List.mem_cons_of_mem _ t_1946)) (fun _ h9 => h9) rfl dX14_isArgument_19 (fun a_10 ma_10 ka_10 g => ?_)
    refine lv_iconst (v := 3) hx hb dX14_isArgument_22 (by decide) ?_
    refine lv_iload_n hx hb dX14_isArgument_23 rfl (lv_at hl 1 rfl) ?_
    refine lv_imul hx hb dX14_isArgument_24 ?_
    refine lv_topi (fun y_11 ey_11 => ?_)
    have ty_11 := cmul_bd ey_11 (c := 3) (by decide) bx1_ (by decide)
    have b_12 : bd 0 327 y_11 := mulc_rg ty_11 bx1_ (by decide)
    refine lv_iload_n hx hb dX14_isArgument_25 rfl (lv_at hl 2 rfl) ?_
    refine lv_iadd hx hb dX14_isArgument_26 ?_
    refine lv_topi (fun y_13 ey_13 => ?_)
    have ty_13 := add_bd ey_13 b_12 bx2_ (by decide)
    have b_14 : bd 2 329 y_13 := add_rg ty_13 b_12 bx2_ (by decide)
    refine g_iald hx hb hK g ma_10 ka_10 (by decide) rfl (in_bd b_14 (by decide)) dX14_isArgument_27 (fun x_15 bx_15 cx_15 => ?_)
    refine lv_i2l hx hb dX14_isArgument_28 rfl ?_
    refine lv_topl (fun y_16 ey_16 => ?_)
    refine lv_aload_n hx hb dX14_isArgument_29 rfl (lv_at hl 0 rfl) ?_
    refine g_getk (C := RX14) (T := TX14) (N := 67) hx hb hts (mc_ inX14) hown hK g rfl 1 (by decide) rfl (hts _ (List.mem_cons_of_mem _ t_2147)) (fun _ h9 => h9) 2 rfl dX14_isArgument_30 ?_
    refine g_getr (K := 177) (C := RX12) (T := TX12) (N := 60) hx hb hts (mc_ inX12) hown hK g ma_1 ka_1 (by decide) rfl 21 (by decide) rfl (hts _ (List.mem_cons_of_mem _ t_1948)) (fun _ h9 => h9) rfl dX14_isArgument_33 (fun a_17 ma_17 ka_17 g => ?_)
    refine lv_iconst (v := 3) hx hb dX14_isArgument_36 (by decide) ?_
    refine lv_iload_n hx hb dX14_isArgument_37 rfl (lv_at hl 1 rfl) ?_
    refine lv_imul hx hb dX14_isArgument_38 ?_
    refine lv_topi (fun y_18 ey_18 => ?_)
    have ty_18 := cmul_bd ey_18 (c := 3) (by decide) bx1_ (by decide)
    have b_19 : bd 0 327 y_18 := mulc_rg ty_18 bx1_ (by decide)
    refine lv_iload_n hx hb dX14_isArgument_39 rfl (lv_at hl 2 rfl) ?_
    refine lv_iadd hx hb dX14_isArgument_40 ?_
    refine lv_topi (fun y_20 ey_20 => ?_)
    have ty_20 := add_bd ey_20 b_19 bx2_ (by decide)
    have b_21 : bd 2 329 y_20 := add_rg ty_20 b_19 bx2_ (by decide)
    refine g_iald hx hb hK g ma_17 ka_17 (by decide) rfl (in_bd b_21 (by decide)) dX14_isArgument_41 (fun x_22 bx_22 cx_22 => ?_)
    refine lv_i2l hx hb dX14_isArgument_42 rfl ?_
    refine lv_topl (fun y_23 ey_23 => ?_)
    refine g_calli (va_runS (As := [.long y_9, .long y_16, .long y_23]) (rest := []) ⟨hx, hb, hml, hown, hts⟩ (r_X14_in l dC dI L kd tys f0 s.heap.size g.2.2.2.1 y_9 y_16 y_23) (va_cwS 3 hts (gS_ t_2448 t_2449 t_198 t_2450) rfl rfl rfl (by decide +kernel) ⟨(Nat.le_of_ble_eq_true rfl), (Nat.le_of_ble_eq_true rfl)⟩) (pre3S g hK) rfl rfl hl.1 rfl (lv_room (Nat.le_of_ble_eq_true rfl)) dX14_isArgument_43 ⟨(Nat.le_of_ble_eq_true rfl), (Nat.le_of_ble_eq_true rfl)⟩) g hK (by decide) (by decide) (fx' := [(12, 21, a_1, .ref a_17), (12, 20, a_1, .ref a_10), (12, 19, a_1, .ref a_2), (14, 1, a0_, .ref a_1), (14, 52, a0_, .int y0_)]) rfl (fun r_24 fr_24 H locs hp hMr_24 g => ?_)
    rcases hp with ⟨h_25, -⟩ | ⟨h_26, h_27, -⟩
    · obtain rfl : r_24 = 0 := h_25
      refine lv_goto (tgt := 58) hx hb dX14_isArgument_46 (by decide) ?_
      subst hQ
      have kb_0 : bd 0 0 (0 : Int32) := ⟨by decide, by decide⟩
      exact W.zret (v := 0) hx hb hr (nar_z (bd_sub kb_0 (by decide) : bd 0 1 _).1 (bd_sub kb_0 (by decide) : bd 0 1 _).2) (fun t ht hW => ⟨⟨_, _, rfl, Or.inl ⟨rfl, trivial⟩, q3_of g hK ht hW⟩, g.2.2.1.F ht⟩) g.2.2.1.2.2 dX14_isArgument_58
    · obtain rfl : r_24 = 1 := h_26
      have f_28 : x_15.toInt ≤ x3_.toInt := in_le h_27.1 (in_v ey_16) (in_v ey_9)
      have f_29 : x3_.toInt ≤ x_22.toInt := in_le h_27.2 (in_v ey_9) (in_v ey_23)
      refine lv_goto (tgt := 58) hx hb dX14_isArgument_46 (by decide) ?_
      subst hQ
      have kb_1 : bd 1 1 (1 : Int32) := ⟨by decide, by decide⟩
      exact W.zret (v := 1) hx hb hr (nar_z (bd_sub kb_1 (by decide) : bd 0 1 _).1 (bd_sub kb_1 (by decide) : bd 0 1 _).2) (fun t ht hW => ⟨⟨_, _, rfl, Or.inr (⟨rfl, trivial⟩), q3_of g hK ht hW⟩, g.2.2.1.F ht⟩) g.2.2.1.2.2 dX14_isArgument_58
set_option maxHeartbeats 4000000 in
set_option maxRecDepth 100000 in
theorem r_X14_addCall (l : Launch) (dC : Nat → ClassId) (dI : Nat → Nat → Nat) (L : List Nat) (kd : Nat → Nat) (tys : List (ClassId × FieldType)) (f0 : Nat → va_E) (sz : Nat) (hWT : WT L kd tys f0) (a0_ : Nat) (ma0_ : a0_ ∈ L) (ka0_ : kd a0_ = 14) (x1_ : Int32) (bx1_ : bd 0 2 x1_) (x2_ : Int32) (bx2_ : bd 0 11 x2_) (x3_ : Int32) (x4_ : Int32) (x5_ : Int32) (y0_ : Int32) (by0_ : bd 1 1 y0_) (y1_ : Int32) (by1_ : bd 0 9 y1_) (y2_ : Int32) (by2_ : bd 1 3 y2_) (hfx : Fs L kd f0 [(14, 53, a0_, .int y0_), (14, 51, a0_, .int y1_), (14, 52, a0_, .int y2_)]) : Met l yX14_addCall (.code yX14_addCall cX14_addCall 6 none :: lw_g) ({ frames := 0, cells := 0, slots := 0, locals := 0 }) (va_Pc [.ref a0_, .int x1_, .int x2_, .int x3_, .int x4_, .int x5_] (P3 (dC, dI) L tys f0 sz)) (va_Qv (fun (f : Nat → va_E) => (∃ z0_ : Int32, bd 1 10 z0_ ∧ Fs L kd f [(14, 51, a0_, .int z0_)])) (Q3 (dC, dI) L kd tys [(14, 51)] [222, 223, 224, 225, 226] f0 sz) (pA L sz)) 0 0 (pA L sz) := by
  refine Met.ofW (cc := cX14_addCall) (maxL := 6) (ret := none) (by decide) rfl ?_
  intro p e s m args below meth c s₁ B hml hv
  obtain ⟨rfl, hsz, hP, hK, hD0⟩ := hv
  have hx := B.exec
  have hb := B.bytes
  have hr := B.returns
  have hts := atoms_spec (ws := (.code yX14_addCall cX14_addCall 6 none :: lw_g)) B.pre
  have hown : s.vm.findClass RX14 = some m.cls := findClass_of_methodNamed B.named
  have hlocks := B.notSynchronized
  subst hsz
  have g : G3 (dC, dI) L kd tys s f0 [(14, 51)] [222, 223, 224, 225, 226] f0 s.heap [] [(14, 53, a0_, .int y0_), (14, 51, a0_, .int y1_), (14, 52, a0_, .int y2_)] := G3.start hP hD0 hWT hfx
  have hl := lv_entry ([.ref a0_, .int x1_, .int x2_, .int x3_, .int x4_, .int x5_]) (n := 6) (Nat.le_of_ble_eq_true rfl)
  rw [lg_entry_eq]
  generalize (lg_sl ([.ref a0_, .int x1_, .int x2_, .int x3_, .int x4_, .int x5_]) ++ List.replicate (6 - (lg_sl ([.ref a0_, .int x1_, .int x2_, .int x3_, .int x4_, .int x5_])).length) Slot.unset).toArray = ls at hl ⊢
  have hl : lv_has ls 6 [(0, .ref a0_), (1, .int x1_), (2, .int x2_), (3, .int x3_), (4, .int x4_), (5, .int x5_)] := hl
  refine W_q (fun Q hQ => ?_)
  refine lv_aload_n hx hb dX14_addCall_0 rfl (lv_at hl 0 rfl) ?_
  refine g_getr (K := 222) (C := RX14) (T := TX14) (N := 67) hx hb hts (mc_ inX14) hown hK g ma0_ ka0_ (by decide) rfl 46 (by decide) rfl (hts _ (List.mem_cons_of_mem _ t_2192)) (fun _ h9 => h9) rfl dX14_addCall_1 (fun a_1 ma_1 ka_1 g => ?_)
  refine lv_aload_n hx hb dX14_addCall_4 rfl (lv_at hl 0 rfl) ?_
  refine g_getk (C := RX14) (T := TX14) (N := 67) hx hb hts (mc_ inX14) hown hK g rfl 51 (by decide) rfl (hts _ (List.mem_cons_of_mem _ t_2197)) (fun _ h9 => h9) 2 rfl dX14_addCall_5 ?_
  refine lv_iload_n hx hb dX14_addCall_8 rfl (lv_at hl 1 rfl) ?_
  refine g_iast hx hb hK g ma_1 ka_1 (by decide) rfl (in_bd by1_ (by decide)) bx1_ (by decide) dX14_addCall_9 (fun f H locs hM_2 g => ?_)
  refine lv_aload_n hx hb dX14_addCall_10 rfl (lv_at hl 0 rfl) ?_
  refine g_getr (K := 223) (C := RX14) (T := TX14) (N := 67) hx hb hts (mc_ inX14) hown hK g ma0_ ka0_ (by decide) rfl 47 (by decide) rfl (hts _ (List.mem_cons_of_mem _ t_2193)) (fun _ h9 => h9) rfl dX14_addCall_11 (fun a_3 ma_3 ka_3 g => ?_)
  refine lv_aload_n hx hb dX14_addCall_14 rfl (lv_at hl 0 rfl) ?_
  refine g_getk (C := RX14) (T := TX14) (N := 67) hx hb hts (mc_ inX14) hown hK g rfl 51 (by decide) rfl (hts _ (List.mem_cons_of_mem _ t_2197)) (fun _ h9 => h9) 3 rfl dX14_addCall_15 ?_
  refine lv_iload_n hx hb dX14_addCall_18 rfl (lv_at hl 2 rfl) ?_
  refine g_iast hx hb hK g ma_3 ka_3 (by decide) rfl (in_bd by1_ (by decide)) (bd_sub bx2_ (by decide)) (by decide) dX14_addCall_19 (fun f H locs hM_4 g => ?_)
  refine lv_aload_n hx hb dX14_addCall_20 rfl (lv_at hl 0 rfl) ?_
  refine g_getr (K := 224) (C := RX14) (T := TX14) (N := 67) hx hb hts (mc_ inX14) hown hK g ma0_ ka0_ (by decide) rfl 48 (by decide) rfl (hts _ (List.mem_cons_of_mem _ t_2194)) (fun _ h9 => h9) rfl dX14_addCall_21 (fun a_5 ma_5 ka_5 g => ?_)
  refine lv_iconst (v := 3) hx hb dX14_addCall_24 (by decide) ?_
  refine lv_aload_n hx hb dX14_addCall_25 rfl (lv_at hl 0 rfl) ?_
  refine g_getk (C := RX14) (T := TX14) (N := 67) hx hb hts (mc_ inX14) hown hK g rfl 51 (by decide) rfl (hts _ (List.mem_cons_of_mem _ t_2197)) (fun _ h9 => h9) 4 rfl dX14_addCall_26 ?_
  refine lv_imul hx hb dX14_addCall_29 ?_
  refine lv_topi (fun y_6 ey_6 => ?_)
  have ty_6 := cmul_bd ey_6 (c := 3) (by decide) by1_ (by decide)
  have b_7 : bd 0 27 y_6 := mulc_rg ty_6 by1_ (by decide)
  refine lv_iload_n hx hb dX14_addCall_30 rfl (lv_at hl 3 rfl) ?_
  refine g_iast hx hb hK g ma_5 ka_5 (by decide) rfl (in_bd b_7 (by decide)) (bdT x3_) (by decide) dX14_addCall_31 (fun f H locs hM_8 g => ?_)
  refine lv_aload_n hx hb dX14_addCall_32 rfl (lv_at hl 0 rfl) ?_
  refine g_getk (C := RX14) (T := TX14) (N := 67) hx hb hts (mc_ inX14) hown hK g rfl 48 (by decide) rfl (hts _ (List.mem_cons_of_mem _ t_2194)) (fun _ h9 => h9) 0 rfl dX14_addCall_33 ?_
  refine lv_iconst (v := 3) hx hb dX14_addCall_36 (by decide) ?_
  refine lv_aload_n hx hb dX14_addCall_37 rfl (lv_at hl 0 rfl) ?_
  refine g_getk (C := RX14) (T := TX14) (N := 67) hx hb hts (mc_ inX14) hown hK g rfl 51 (by decide) rfl (hts _ (List.mem_cons_of_mem _ t_2197)) (fun _ h9 => h9) 4 rfl dX14_addCall_38 ?_
  refine lv_imul hx hb dX14_addCall_41 ?_
  refine lv_topi (fun y_9 ey_9 => ?_)
  have ty_9 := cmul_bd ey_9 (c := 3) (by decide) by1_ (by decide)
  have b_10 : bd 0 27 y_9 := mulc_rg ty_9 by1_ (by decide)
  refine lv_iconst (v := 1) hx hb dX14_addCall_42 (by decide) ?_
  have kb_1 : bd 1 1 (1 : Int32) := ⟨by decide, by decide⟩
  refine lv_iadd hx hb dX14_addCall_43 ?_
  refine lv_topi (fun y_11 ey_11 => ?_)
  have ty_11 := add_bd ey_11 b_10 kb_1 (by decide)
  have b_12 : bd 1 28 y_11 := add_rg ty_11 b_10 kb_1 (by decide)
  refine lv_iload hx hb dX14_addCall_44 (lv_at hl 4 rfl) ?_
  refine g_iast hx hb hK g ma_5 ka_5 (by decide) rfl (in_bd b_12 (by decide)) (bdT x4_) (by decide) dX14_addCall_46 (fun f H locs hM_13 g => ?_)
  refine lv_aload_n hx hb dX14_addCall_47 rfl (lv_at hl 0 rfl) ?_
  refine g_getk (C := RX14) (T := TX14) (N := 67) hx hb hts (mc_ inX14) hown hK g rfl 48 (by decide) rfl (hts _ (List.mem_cons_of_mem _ t_2194)) (fun _ h9 => h9) 0 rfl dX14_addCall_48 ?_
  refine lv_iconst (v := 3) hx hb dX14_addCall_51 (by decide) ?_
  refine lv_aload_n hx hb dX14_addCall_52 rfl (lv_at hl 0 rfl) ?_
  refine g_getk (C := RX14) (T := TX14) (N := 67) hx hb hts (mc_ inX14) hown hK g rfl 51 (by decide) rfl (hts _ (List.mem_cons_of_mem _ t_2197)) (fun _ h9 => h9) 4 rfl dX14_addCall_53 ?_
  refine lv_imul hx hb dX14_addCall_56 ?_
  refine lv_topi (fun y_14 ey_14 => ?_)
  have ty_14 := cmul_bd ey_14 (c := 3) (by decide) by1_ (by decide)
  have b_15 : bd 0 27 y_14 := mulc_rg ty_14 by1_ (by decide)
  refine lv_iconst (v := 2) hx hb dX14_addCall_57 (by decide) ?_
  have kb_2 : bd 2 2 (2 : Int32) := ⟨by decide, by decide⟩
  refine lv_iadd hx hb dX14_addCall_58 ?_
  refine lv_topi (fun y_16 ey_16 => ?_)
  have ty_16 := add_bd ey_16 b_15 kb_2 (by decide)
  have b_17 : bd 2 29 y_16 := add_rg ty_16 b_15 kb_2 (by decide)
  refine lv_iload hx hb dX14_addCall_59 (lv_at hl 5 rfl) ?_
  refine g_iast hx hb hK g ma_5 ka_5 (by decide) rfl (in_bd b_17 (by decide)) (bdT x5_) (by decide) dX14_addCall_61 (fun f H locs hM_18 g => ?_)
  refine lv_aload_n hx hb dX14_addCall_62 rfl (lv_at hl 0 rfl) ?_
  refine g_getr (K := 225) (C := RX14) (T := TX14) (N := 67) hx hb hts (mc_ inX14) hown hK g ma0_ ka0_ (by decide) rfl 49 (by decide) rfl (hts _ (List.mem_cons_of_mem _ t_2195)) (fun _ h9 => h9) rfl dX14_addCall_63 (fun a_19 ma_19 ka_19 g => ?_)
  refine lv_aload_n hx hb dX14_addCall_66 rfl (lv_at hl 0 rfl) ?_
  refine g_getk (C := RX14) (T := TX14) (N := 67) hx hb hts (mc_ inX14) hown hK g rfl 51 (by decide) rfl (hts _ (List.mem_cons_of_mem _ t_2197)) (fun _ h9 => h9) 5 rfl dX14_addCall_67 ?_
  refine lv_iconst (v := 0) hx hb dX14_addCall_70 (by decide) ?_
  have kb_0 : bd 0 0 (0 : Int32) := ⟨by decide, by decide⟩
  refine g_iast hx hb hK g ma_19 ka_19 (by decide) rfl (in_bd by1_ (by decide)) (bd_sub kb_0 (by decide)) (by decide) dX14_addCall_71 (fun f H locs hM_20 g => ?_)
  refine lv_aload_n hx hb dX14_addCall_72 rfl (lv_at hl 0 rfl) ?_
  refine g_getr (K := 226) (C := RX14) (T := TX14) (N := 67) hx hb hts (mc_ inX14) hown hK g ma0_ ka0_ (by decide) rfl 50 (by decide) rfl (hts _ (List.mem_cons_of_mem _ t_2196)) (fun _ h9 => h9) rfl dX14_addCall_73 (fun a_21 ma_21 ka_21 g => ?_)
  refine lv_aload_n hx hb dX14_addCall_76 rfl (lv_at hl 0 rfl) ?_
  refine g_getk (C := RX14) (T := TX14) (N := 67) hx hb hts (mc_ inX14) hown hK g rfl 51 (by decide) rfl (hts _ (List.mem_cons_of_mem _ t_2197)) (fun _ h9 => h9) 6 rfl dX14_addCall_77 ?_
  refine lv_iconst (v := 0) hx hb dX14_addCall_80 (by decide) ?_
  refine g_iast hx hb hK g ma_21 ka_21 (by decide) rfl (in_bd by1_ (by decide)) (bd_sub kb_0 (by decide)) (by decide) dX14_addCall_81 (fun f H locs hM_22 g => ?_)
  refine lv_aload_n hx hb dX14_addCall_82 rfl (lv_at hl 0 rfl) ?_
  refine lv_dup hx hb dX14_addCall_83 rfl ?_
  refine g_getk (C := RX14) (T := TX14) (N := 67) hx hb hts (mc_ inX14) hown hK g rfl 51 (by decide) rfl (hts _ (List.mem_cons_of_mem _ t_2197)) (fun _ h9 => h9) 6 rfl dX14_addCall_84 ?_
  refine lv_iconst (v := 1) hx hb dX14_addCall_87 (by decide) ?_
  refine lv_iadd hx hb dX14_addCall_88 ?_
  refine lv_topi (fun y_23 ey_23 => ?_)
  have ty_23 := add_bd ey_23 by1_ kb_1 (by decide)
  have b_24 : bd 1 10 y_23 := add_rg ty_23 by1_ kb_1 (by decide)
  refine g_put (C := RX14) (T := TX14) (N := 67) hx hb hts (mc_ inX14) tyX14 tyX14_ok nmX14 hown hK g ma0_ ka0_ (by decide) rfl 51 (by decide) (hts _ (List.mem_cons_of_mem _ t_2197)) (fun _ h9 => h9) rfl rfl (okV_i (bd_sub b_24 (by decide))) rfl rfl (by decide) (Or.inr (Or.inl (by decide))) (fx' := [(14, 50, a0_, .ref a_21), (14, 49, a0_, .ref a_19), (14, 48, a0_, .ref a_5), (14, 47, a0_, .ref a_3), (14, 46, a0_, .ref a_1), (14, 53, a0_, .int y0_), (14, 52, a0_, .int y2_)]) rfl dX14_addCall_89 (fun f H locs hM_25 g => ?_)
  subst hQ
  exact W.vret hx hb hr (fun t ht hW => ⟨⟨_, rfl, ⟨y_23, b_24, (g.fcts [0] rfl)⟩, q3_of g hK ht hW⟩, g.2.2.1.F ht⟩) g.2.2.1.2.2 dX14_addCall_92
set_option maxHeartbeats 4000000 in
set_option maxRecDepth 100000 in
theorem r_X14_call (l : Launch) (dC : Nat → ClassId) (dI : Nat → Nat → Nat) (L : List Nat) (kd : Nat → Nat) (tys : List (ClassId × FieldType)) (f0 : Nat → va_E) (sz : Nat) (hWT : WT L kd tys f0) (a0_ : Nat) (ma0_ : a0_ ∈ L) (ka0_ : kd a0_ = 14) (x1_ : Int32) (x2_ : Int32) (x3_ : Int32) (x4_ : Int32) (x5_ : Int32) : Met l yX14_call (.code yX14_call cX14_call 8 (some .int) :: lw_g) ({ frames := 2, cells := 0, slots := 0, locals := 48 }) (va_Pc [.ref a0_, .int x1_, .int x2_, .int x3_, .int x4_, .int x5_] (P3 (dC, dI) L tys f0 sz)) (va_Qi (fun (r : Int32) (f : Nat → va_E) => (bd (-3) 10 r ∧ True)) (Q3 (dC, dI) L kd tys [(14, 51), (14, 53)] [222, 223, 224, 225, 226] f0 sz) (pA L sz)) 0 0 (pA L sz) := by
  refine Met.ofW (cc := cX14_call) (maxL := 8) (ret := (some .int)) (by decide) rfl ?_
  intro p e s m args below meth c s₁ B hml hv
  obtain ⟨rfl, hsz, hP, hK, hD0⟩ := hv
  have hx := B.exec
  have hb := B.bytes
  have hr := B.returns
  have hts := atoms_spec (ws := (.code yX14_call cX14_call 8 (some .int) :: lw_g)) B.pre
  have hown : s.vm.findClass RX14 = some m.cls := findClass_of_methodNamed B.named
  have hlocks := B.notSynchronized
  subst hsz
  have g : G3 (dC, dI) L kd tys s f0 [(14, 51), (14, 53)] [222, 223, 224, 225, 226] f0 s.heap [] [] := G3.start hP hD0 hWT Fs.nil
  have hl := lv_entry ([.ref a0_, .int x1_, .int x2_, .int x3_, .int x4_, .int x5_]) (n := 8) (Nat.le_of_ble_eq_true rfl)
  rw [lg_entry_eq]
  generalize (lg_sl ([.ref a0_, .int x1_, .int x2_, .int x3_, .int x4_, .int x5_]) ++ List.replicate (8 - (lg_sl ([.ref a0_, .int x1_, .int x2_, .int x3_, .int x4_, .int x5_])).length) Slot.unset).toArray = ls at hl ⊢
  have hl : lv_has ls 8 [(0, .ref a0_), (1, .int x1_), (2, .int x2_), (3, .int x3_), (4, .int x4_), (5, .int x5_)] := hl
  refine W_q (fun Q hQ => ?_)
  refine lv_iload_n hx hb dX14_call_0 rfl (lv_at hl 1 rfl) ?_
  refine lv_i2l hx hb dX14_call_1 rfl ?_
  refine lv_topl (fun y_1 ey_1 => ?_)
  refine lv_lconst (v := 0) hx hb dX14_call_2 (by decide) ?_
  refine lv_aload_n hx hb dX14_call_3 rfl (lv_at hl 0 rfl) ?_
  refine g_geti (C := RX14) (T := TX14) (N := 67) hx hb hts (mc_ inX14) hown hK g ma0_ ka0_ (by decide) rfl 52 (by decide) rfl (hts _ (List.mem_cons_of_mem _ t_2198)) (fun _ h9 => h9) rfl dX14_call_4 (fun x_2 bx_2 g => ?_)
  refine lv_iconst (v := 1) hx hb dX14_call_7 (by decide) ?_
  have kb_1 : bd 1 1 (1 : Int32) := ⟨by decide, by decide⟩
  refine lv_isub hx hb dX14_call_8 ?_
  refine lv_topi (fun y_3 ey_3 => ?_)
  have ty_3 := sub_bd ey_3 bx_2 kb_1 (by decide)
  have b_4 : bd (-1) 2 y_3 := sub_rg ty_3 bx_2 kb_1 (by decide)
  refine lv_i2l hx hb dX14_call_9 rfl ?_
  refine lv_topl (fun y_5 ey_5 => ?_)
  refine g_calli (va_runS (As := [.long y_1, .long 0, .long y_5]) (rest := []) ⟨hx, hb, hml, hown, hts⟩ (r_X14_in l dC dI L kd tys f0 s.heap.size g.2.2.2.1 y_1 0 y_5) (va_cwS 3 hts (gS_ t_2448 t_2449 t_198 t_2450) rfl rfl rfl (by decide +kernel) ⟨(Nat.le_of_ble_eq_true rfl), (Nat.le_of_ble_eq_true rfl)⟩) (pre3S g hK) rfl rfl hl.1 rfl (lv_room (Nat.le_of_ble_eq_true rfl)) dX14_call_10 ⟨(Nat.le_of_ble_eq_true rfl), (Nat.le_of_ble_eq_true rfl)⟩) g hK (by decide) (by decide) (fx' := [(14, 52, a0_, .int x_2)]) rfl (fun r_6 fr_6 H locs hp hMr_6 g => ?_)
  rcases hp with ⟨h_7, -⟩ | ⟨h_8, h_9, -⟩
  · obtain rfl : r_6 = 0 := h_7
    refine lv_if_ne (tgt := 19) hx hb dX14_call_13 (by decide) (fun c_ => absurd c_ (by decide)) (fun c_ => ?_)
    refine lv_bipush (v := (-2)) hx hb dX14_call_16 (by decide) ?_
    have kb_m2 : bd (-2) (-2) ((-2) : Int32) := ⟨by decide, by decide⟩
    subst hQ
    exact W.iret (v := (-2)) hx hb hr (fun t ht hW => ⟨⟨_, _, rfl, ⟨(bd_sub kb_m2 (by decide)), trivial⟩, q3_of g hK ht hW⟩, g.2.2.1.F ht⟩) g.2.2.1.2.2 dX14_call_18
  · obtain rfl : r_6 = 1 := h_8
    have f_10 : (0 : Int32).toInt ≤ x1_.toInt := in_le h_9.1 (in_k (k := 0) (by decide) (by decide)) (in_v ey_1)
    have f_11 : x1_.toInt ≤ y_3.toInt := in_le h_9.2 (in_v ey_1) (in_v ey_5)
    have kb_0 : bd 0 0 (0 : Int32) := ⟨by decide, by decide⟩
    have b_12 : bd 0 2147483647 x1_ := leR f_10 kb_0 (bdT x1_) (by decide)
    have b_13 : bd 0 2 x1_ := leL f_11 b_12 b_4 (by decide)
    have b_14 : bd 0 2 y_3 := leR f_11 b_12 b_4 (by decide)
    have b_15 : bd 1 3 x_2 := sub_inv ty_3 b_14 bx_2 kb_1 (by decide)
    refine lv_if_ne (tgt := 19) hx hb dX14_call_13 (by decide) (fun c_ => ?_) (fun c_ => absurd c_ (by decide))
    refine lv_aload_n hx hb dX14_call_19 rfl (lv_at hl 0 rfl) ?_
    refine g_getr (K := 227) (C := RX14) (T := TX14) (N := 67) hx hb hts (mc_ inX14) hown hK g ma0_ ka0_ (by decide) rfl 54 (by decide) rfl (hts _ (List.mem_cons_of_mem _ t_2200)) (fun _ h9 => h9) rfl dX14_call_20 (fun a_16 ma_16 ka_16 g => ?_)
    refine lv_iload_n hx hb dX14_call_23 rfl (lv_at hl 1 rfl) ?_
    refine g_iald hx hb hK g ma_16 ka_16 (by decide) rfl (in_bd b_13 (by decide)) dX14_call_24 (fun x_17 bx_17 cx_17 => ?_)
    refine lv_istore (lv' := [(6, .int x_17), (0, .ref a0_), (1, .int x1_), (2, .int x2_), (3, .int x3_), (4, .int x4_), (5, .int x5_)]) hx hb dX14_call_25 hl (by decide) rfl (fun ls hl => ?_)
    refine lv_iload_n hx hb dX14_call_27 rfl (lv_at hl 3 rfl) ?_
    refine lv_i2l hx hb dX14_call_28 rfl ?_
    refine lv_topl (fun y_18 ey_18 => ?_)
    refine lv_lconst (v := 0) hx hb dX14_call_29 (by decide) ?_
    refine lv_aload_n hx hb dX14_call_30 rfl (lv_at hl 1 rfl) ?_
    refine g_getr (K := 12) (C := RX14) (T := TX14) (N := 67) hx hb hts (mc_ inX14) hown hK g ma0_ ka0_ (by decide) rfl 1 (by decide) rfl (hts _ (List.mem_cons_of_mem _ t_2147)) (fun _ h9 => h9) rfl dX14_call_31 (fun a_19 ma_19 ka_19 g => ?_)
    refine g_getr (K := 171) (C := RX12) (T := TX12) (N := 60) hx hb hts (mc_ inX12) hown hK g ma_19 ka_19 (by decide) rfl 15 (by decide) rfl (hts _ (List.mem_cons_of_mem _ t_1936)) (fun _ h9 => h9) rfl dX14_call_34 (fun a_20 ma_20 ka_20 g => ?_)
    refine lv_iload hx hb dX14_call_37 (lv_at hl 0 rfl) ?_
    refine g_iald hx hb hK g ma_20 ka_20 (by decide) rfl (in_bd bx_17 (by decide)) dX14_call_39 (fun x_21 bx_21 cx_21 => ?_)
    refine lv_iconst (v := 1) hx hb dX14_call_40 (by decide) ?_
    refine lv_isub hx hb dX14_call_41 ?_
    refine lv_topi (fun y_22 ey_22 => ?_)
    have ty_22 := sub_bd ey_22 bx_21 kb_1 (by decide)
    have b_23 : bd (-1) 11 y_22 := sub_rg ty_22 bx_21 kb_1 (by decide)
    refine lv_i2l hx hb dX14_call_42 rfl ?_
    refine lv_topl (fun y_24 ey_24 => ?_)
    refine g_calli (va_runS (As := [.long y_18, .long 0, .long y_24]) (rest := []) ⟨hx, hb, hml, hown, hts⟩ (r_X14_in l dC dI L kd tys fr_6 H.size g.2.2.2.1 y_18 0 y_24) (va_cwS 3 hts (gS_ t_2448 t_2449 t_198 t_2450) rfl rfl rfl (by decide +kernel) ⟨(Nat.le_of_ble_eq_true rfl), (Nat.le_of_ble_eq_true rfl)⟩) (pre3S g hK) rfl rfl hl.1 rfl (lv_room (Nat.le_of_ble_eq_true rfl)) dX14_call_43 ⟨(Nat.le_of_ble_eq_true rfl), (Nat.le_of_ble_eq_true rfl)⟩) g hK (by decide) (by decide) (fx' := [(12, 15, a_19, .ref a_20), (14, 1, a0_, .ref a_19), (14, 54, a0_, .ref a_16), (14, 52, a0_, .int x_2)]) rfl (fun r_25 fr_25 H locs hp hMr_25 g => ?_)
    rcases hp with ⟨h_26, -⟩ | ⟨h_27, h_28, -⟩
    · obtain rfl : r_25 = 0 := h_26
      refine lv_if_ne (tgt := 52) hx hb dX14_call_46 (by decide) (fun c_ => absurd c_ (by decide)) (fun c_ => ?_)
      refine lv_bipush (v := (-2)) hx hb dX14_call_49 (by decide) ?_
      have kb_m2 : bd (-2) (-2) ((-2) : Int32) := ⟨by decide, by decide⟩
      subst hQ
      exact W.iret (v := (-2)) hx hb hr (fun t ht hW => ⟨⟨_, _, rfl, ⟨(bd_sub kb_m2 (by decide)), trivial⟩, q3_of g hK ht hW⟩, g.2.2.1.F ht⟩) g.2.2.1.2.2 dX14_call_51
    · obtain rfl : r_25 = 1 := h_27
      have f_29 : (0 : Int32).toInt ≤ x2_.toInt := in_le h_28.1 (in_k (k := 0) (by decide) (by decide)) (in_v ey_18)
      have f_30 : x2_.toInt ≤ y_22.toInt := in_le h_28.2 (in_v ey_18) (in_v ey_24)
      have b_31 : bd 0 2147483647 x2_ := leR f_29 kb_0 (bdT x2_) (by decide)
      have b_32 : bd 0 11 x2_ := leL f_30 b_31 b_23 (by decide)
      have b_33 : bd 0 11 y_22 := leR f_30 b_31 b_23 (by decide)
      have b_34 : bd 1 12 x_21 := sub_inv ty_22 b_33 bx_21 kb_1 (by decide)
      refine lv_if_ne (tgt := 52) hx hb dX14_call_46 (by decide) (fun c_ => ?_) (fun c_ => absurd c_ (by decide))
      refine lv_aload_n hx hb dX14_call_52 rfl (lv_at hl 1 rfl) ?_
      refine g_getk (C := RX14) (T := TX14) (N := 67) hx hb hts (mc_ inX14) hown hK g rfl 1 (by decide) rfl (hts _ (List.mem_cons_of_mem _ t_2147)) (fun _ h9 => h9) 1 rfl dX14_call_53 ?_
      refine g_getr (K := 170) (C := RX12) (T := TX12) (N := 60) hx hb hts (mc_ inX12) hown hK g ma_19 ka_19 (by decide) rfl 14 (by decide) rfl (hts _ (List.mem_cons_of_mem _ t_1934)) (fun _ h9 => h9) rfl dX14_call_56 (fun a_35 ma_35 ka_35 g => ?_)
      refine lv_bipush (v := 12) hx hb dX14_call_59 (by decide) ?_
      refine lv_iload hx hb dX14_call_61 (lv_at hl 0 rfl) ?_
      refine lv_imul hx hb dX14_call_63 ?_
      refine lv_topi (fun y_36 ey_36 => ?_)
      have ty_36 := cmul_bd ey_36 (c := 12) (by decide) bx_17 (by decide)
      have b_37 : bd 0 84 y_36 := mulc_rg ty_36 bx_17 (by decide)
      refine lv_iload_n hx hb dX14_call_64 rfl (lv_at hl 3 rfl) ?_
      refine lv_iadd hx hb dX14_call_65 ?_
      refine lv_topi (fun y_38 ey_38 => ?_)
      have ty_38 := add_bd ey_38 b_37 b_32 (by decide)
      have b_39 : bd 0 95 y_38 := add_rg ty_38 b_37 b_32 (by decide)
      refine g_iald hx hb hK g ma_35 ka_35 (by decide) rfl (in_bd b_39 (by decide)) dX14_call_66 (fun x_40 bx_40 cx_40 => ?_)
      refine lv_istore (lv' := [(7, .int x_40), (6, .int x_17), (0, .ref a0_), (1, .int x1_), (2, .int x2_), (3, .int x3_), (4, .int x4_), (5, .int x5_)]) hx hb dX14_call_67 hl (by decide) rfl (fun ls hl => ?_)
      refine lv_aload_n hx hb dX14_call_69 rfl (lv_at hl 2 rfl) ?_
      refine lv_iload hx hb dX14_call_70 (lv_at hl 0 rfl) ?_
      refine lv_iconst (v := 0) hx hb dX14_call_72 (by decide) ?_
      refine lv_iload_n hx hb dX14_call_73 rfl (lv_at hl 5 rfl) ?_
      refine g_calli (va_runV (As := [.int x_40, .int 0, .int x3_]) (rest := []) ⟨hx, hb, hml, hown, hts⟩ (r_X14_isArgument l dC dI L kd tys fr_25 H.size g.2.2.2.1 a0_ ma0_ ka0_ x_40 bx_40 0 kb_0 x3_ x_2 b_15 (g.fcts [4] rfl)) (cwV 3 hts (gV_ t_2602 t_2604 t_139 t_198 t_2605) rfl rfl rfl (by decide +kernel) ⟨(Nat.le_of_ble_eq_true rfl), (Nat.le_of_ble_eq_true rfl)⟩) (pre3V g hK ma0_ ka0_ (by decide) (q := (RX14, TX14, 67)) rfl) rfl rfl hl.1 rfl (lv_room (Nat.le_of_ble_eq_true rfl)) dX14_call_74 ⟨(Nat.le_of_ble_eq_true rfl), (Nat.le_of_ble_eq_true rfl)⟩) g hK (by decide) (by decide) (fx' := [(12, 14, a_19, .ref a_35), (12, 15, a_19, .ref a_20), (14, 1, a0_, .ref a_19), (14, 54, a0_, .ref a_16), (14, 52, a0_, .int x_2)]) rfl (fun r_41 fr_41 H locs hp hMr_41 g => ?_)
      rcases hp with ⟨h_42, -⟩ | ⟨h_43, -⟩
      · obtain rfl : r_41 = 0 := h_42
        refine lv_if_eq (tgt := 104) hx hb dX14_call_77 (by decide) (fun c_ => ?_) (fun c_ => absurd (by decide) c_)
        refine lv_bipush (v := (-2)) hx hb dX14_call_104 (by decide) ?_
        have kb_m2 : bd (-2) (-2) ((-2) : Int32) := ⟨by decide, by decide⟩
        subst hQ
        exact W.iret (v := (-2)) hx hb hr (fun t ht hW => ⟨⟨_, _, rfl, ⟨(bd_sub kb_m2 (by decide)), trivial⟩, q3_of g hK ht hW⟩, g.2.2.1.F ht⟩) g.2.2.1.2.2 dX14_call_106
      · obtain rfl : r_41 = 1 := h_43
        refine lv_if_eq (tgt := 104) hx hb dX14_call_77 (by decide) (fun c_ => absurd c_ (by decide)) (fun c_ => ?_)
        refine lv_aload_n hx hb dX14_call_80 rfl (lv_at hl 2 rfl) ?_
        refine lv_iload hx hb dX14_call_81 (lv_at hl 0 rfl) ?_
        refine lv_iconst (v := 1) hx hb dX14_call_83 (by decide) ?_
        refine lv_iload hx hb dX14_call_84 (lv_at hl 6 rfl) ?_
        refine g_calli (va_runV (As := [.int x_40, .int 1, .int x4_]) (rest := []) ⟨hx, hb, hml, hown, hts⟩ (r_X14_isArgument_2 l dC dI L kd tys fr_41 H.size g.2.2.2.1 a0_ ma0_ ka0_ x_40 bx_40 1 kb_1 x4_ x_2 b_15 (g.fcts [4] rfl)) (cwV 3 hts (gV_ t_2602 t_2604 t_139 t_198 t_2605) rfl rfl rfl (by decide +kernel) ⟨(Nat.le_of_ble_eq_true rfl), (Nat.le_of_ble_eq_true rfl)⟩) (pre3V g hK ma0_ ka0_ (by decide) (q := (RX14, TX14, 67)) rfl) rfl rfl hl.1 rfl (lv_room (Nat.le_of_ble_eq_true rfl)) dX14_call_86 ⟨(Nat.le_of_ble_eq_true rfl), (Nat.le_of_ble_eq_true rfl)⟩) g hK (by decide) (by decide) (fx' := [(12, 14, a_19, .ref a_35), (12, 15, a_19, .ref a_20), (14, 1, a0_, .ref a_19), (14, 54, a0_, .ref a_16), (14, 52, a0_, .int x_2)]) rfl (fun r_44 fr_44 H locs hp hMr_44 g => ?_)
        rcases hp with ⟨h_45, -⟩ | ⟨h_46, -⟩
        · obtain rfl : r_44 = 0 := h_45
          refine lv_if_eq (tgt := 104) hx hb dX14_call_89 (by decide) (fun c_ => ?_) (fun c_ => absurd (by decide) c_)
          refine lv_bipush (v := (-2)) hx hb dX14_call_104 (by decide) ?_
          have kb_m2 : bd (-2) (-2) ((-2) : Int32) := ⟨by decide, by decide⟩
          subst hQ
          exact W.iret (v := (-2)) hx hb hr (fun t ht hW => ⟨⟨_, _, rfl, ⟨(bd_sub kb_m2 (by decide)), trivial⟩, q3_of g hK ht hW⟩, g.2.2.1.F ht⟩) g.2.2.1.2.2 dX14_call_106
        · obtain rfl : r_44 = 1 := h_46
          refine lv_if_eq (tgt := 104) hx hb dX14_call_89 (by decide) (fun c_ => absurd c_ (by decide)) (fun c_ => ?_)
          refine lv_aload_n hx hb dX14_call_92 rfl (lv_at hl 2 rfl) ?_
          refine lv_iload hx hb dX14_call_93 (lv_at hl 0 rfl) ?_
          refine lv_iconst (v := 2) hx hb dX14_call_95 (by decide) ?_
          refine lv_iload hx hb dX14_call_96 (lv_at hl 7 rfl) ?_
          have kb_2 : bd 2 2 (2 : Int32) := ⟨by decide, by decide⟩
          refine g_calli (va_runV (As := [.int x_40, .int 2, .int x5_]) (rest := []) ⟨hx, hb, hml, hown, hts⟩ (r_X14_isArgument_3 l dC dI L kd tys fr_44 H.size g.2.2.2.1 a0_ ma0_ ka0_ x_40 bx_40 2 kb_2 x5_ x_2 b_15 (g.fcts [4] rfl)) (cwV 3 hts (gV_ t_2602 t_2604 t_139 t_198 t_2605) rfl rfl rfl (by decide +kernel) ⟨(Nat.le_of_ble_eq_true rfl), (Nat.le_of_ble_eq_true rfl)⟩) (pre3V g hK ma0_ ka0_ (by decide) (q := (RX14, TX14, 67)) rfl) rfl rfl hl.1 rfl (lv_room (Nat.le_of_ble_eq_true rfl)) dX14_call_98 ⟨(Nat.le_of_ble_eq_true rfl), (Nat.le_of_ble_eq_true rfl)⟩) g hK (by decide) (by decide) (fx' := [(12, 14, a_19, .ref a_35), (12, 15, a_19, .ref a_20), (14, 1, a0_, .ref a_19), (14, 54, a0_, .ref a_16), (14, 52, a0_, .int x_2)]) rfl (fun r_47 fr_47 H locs hp hMr_47 g => ?_)
          rcases hp with ⟨h_48, -⟩ | ⟨h_49, -⟩
          · obtain rfl : r_47 = 0 := h_48
            refine lv_if_ne (tgt := 107) hx hb dX14_call_101 (by decide) (fun c_ => absurd c_ (by decide)) (fun c_ => ?_)
            refine lv_bipush (v := (-2)) hx hb dX14_call_104 (by decide) ?_
            have kb_m2 : bd (-2) (-2) ((-2) : Int32) := ⟨by decide, by decide⟩
            subst hQ
            exact W.iret (v := (-2)) hx hb hr (fun t ht hW => ⟨⟨_, _, rfl, ⟨(bd_sub kb_m2 (by decide)), trivial⟩, q3_of g hK ht hW⟩, g.2.2.1.F ht⟩) g.2.2.1.2.2 dX14_call_106
          · obtain rfl : r_47 = 1 := h_49
            refine lv_if_ne (tgt := 107) hx hb dX14_call_101 (by decide) (fun c_ => ?_) (fun c_ => absurd c_ (by decide))
            refine lv_aload_n hx hb dX14_call_107 rfl (lv_at hl 2 rfl) ?_
            refine g_geti (C := RX14) (T := TX14) (N := 67) hx hb hts (mc_ inX14) hown hK g ma0_ ka0_ (by decide) rfl 51 (by decide) rfl (hts _ (List.mem_cons_of_mem _ t_2197)) (fun _ h9 => h9) rfl dX14_call_108 (fun x_50 bx_50 g => ?_)
            refine lv_bipush (v := 10) hx hb dX14_call_111 (by decide) ?_
            have kb_10 : bd 10 10 (10 : Int32) := ⟨by decide, by decide⟩
            refine lv_icmp_ne (tgt := 119) hx hb dX14_call_113 (by decide) (fun c_51 => ?_) (fun c_51 => ?_)
            · have fc_51 := neq_f c_51
              have b_52 : bd 0 9 x_50 := neX fc_51 bx_50 kb_10 (by decide)
              refine lv_aload_n hx hb dX14_call_119 rfl (lv_at hl 2 rfl) ?_
              refine lv_iconst (v := 1) hx hb dX14_call_120 (by decide) ?_
              refine g_put (C := RX14) (T := TX14) (N := 67) hx hb hts (mc_ inX14) tyX14 tyX14_ok nmX14 hown hK g ma0_ ka0_ (by decide) rfl 53 (by decide) (hts _ (List.mem_cons_of_mem _ t_2199)) (fun _ h9 => h9) rfl rfl (okV_i (bd_sub kb_1 (by decide))) rfl rfl (by decide) (Or.inr (Or.inl (by decide))) (fx' := [(14, 51, a0_, .int x_50), (12, 14, a_19, .ref a_35), (12, 15, a_19, .ref a_20), (14, 1, a0_, .ref a_19), (14, 54, a0_, .ref a_16), (14, 52, a0_, .int x_2)]) rfl dX14_call_121 (fun f H locs hM_53 g => ?_)
              refine lv_aload_n hx hb dX14_call_124 rfl (lv_at hl 2 rfl) ?_
              refine lv_iload_n hx hb dX14_call_125 rfl (lv_at hl 3 rfl) ?_
              refine lv_iload_n hx hb dX14_call_126 rfl (lv_at hl 4 rfl) ?_
              refine lv_iload_n hx hb dX14_call_127 rfl (lv_at hl 5 rfl) ?_
              refine lv_iload hx hb dX14_call_128 (lv_at hl 6 rfl) ?_
              refine lv_iload hx hb dX14_call_130 (lv_at hl 7 rfl) ?_
              refine g_callv (va_runV (As := [.int x1_, .int x2_, .int x3_, .int x4_, .int x5_]) (rest := []) ⟨hx, hb, hml, hown, hts⟩ (r_X14_addCall l dC dI L kd tys f H.size g.2.2.2.1 a0_ ma0_ ka0_ x1_ b_13 x2_ b_32 x3_ x4_ x5_ 1 kb_1 x_50 b_52 x_2 b_15 (g.fcts [0, 1, 6] rfl)) (cwV 5 hts (gV_ t_2606 t_2608 t_140 t_198 t_2609) rfl rfl rfl (by decide +kernel) ⟨(Nat.le_of_ble_eq_true rfl), (Nat.le_of_ble_eq_true rfl)⟩) (pre3V g hK ma0_ ka0_ (by decide) (q := (RX14, TX14, 67)) rfl) rfl rfl hl.1 rfl (lv_room (Nat.le_of_ble_eq_true rfl)) dX14_call_132 ⟨(Nat.le_of_ble_eq_true rfl), (Nat.le_of_ble_eq_true rfl)⟩) g hK (by decide) (by decide) (fx' := [(14, 53, a0_, .int 1), (12, 14, a_19, .ref a_35), (12, 15, a_19, .ref a_20), (14, 1, a0_, .ref a_19), (14, 54, a0_, .ref a_16), (14, 52, a0_, .int x_2)]) rfl (fun fr_54 H locs hp hMr_54 g => ?_)
              obtain ⟨x_55, h_56, hF_57⟩ := hp
              have g := g.more hF_57
              refine lv_aload_n hx hb dX14_call_135 rfl (lv_at hl 2 rfl) ?_
              refine g_getk (C := RX14) (T := TX14) (N := 67) hx hb hts (mc_ inX14) hown hK g rfl 51 (by decide) rfl (hts _ (List.mem_cons_of_mem _ t_2197)) (fun _ h9 => h9) 0 rfl dX14_call_136 ?_
              subst hQ
              exact W.iret (v := x_55) hx hb hr (fun t ht hW => ⟨⟨_, _, rfl, ⟨(bd_sub h_56 (by decide)), trivial⟩, q3_of g hK ht hW⟩, g.2.2.1.F ht⟩) g.2.2.1.2.2 dX14_call_139
            · have fc_51 := eq_f c_51
              have b_58 : bd 10 10 x_50 := eqX fc_51 bx_50 kb_10 (by decide)
              refine lv_bipush (v := (-3)) hx hb dX14_call_116 (by decide) ?_
              have kb_m3 : bd (-3) (-3) ((-3) : Int32) := ⟨by decide, by decide⟩
              subst hQ
              exact W.iret (v := (-3)) hx hb hr (fun t ht hW => ⟨⟨_, _, rfl, ⟨(bd_sub kb_m3 (by decide)), trivial⟩, q3_of g hK ht hW⟩, g.2.2.1.F ht⟩) g.2.2.1.2.2 dX14_call_118
set_option maxHeartbeats 4000000 in
set_option maxRecDepth 100000 in
theorem r_X14_nextDrawn (l : Launch) (dC : Nat → ClassId) (dI : Nat → Nat → Nat) (L : List Nat) (kd : Nat → Nat) (tys : List (ClassId × FieldType)) (f0 : Nat → va_E) (sz : Nat) (hWT : WT L kd tys f0) (a0_ : Nat) (ma0_ : a0_ ∈ L) (ka0_ : kd a0_ = 14) : Met l yX14_nextDrawn (.code yX14_nextDrawn cX14_nextDrawn 1 (some .int) :: lw_g) ({ frames := 0, cells := 0, slots := 0, locals := 0 }) (va_Pc [.ref a0_] (P3 (dC, dI) L tys f0 sz)) (va_Qi (fun (r : Int32) (f : Nat → va_E) => (bd 0 32767 r ∧ True)) (Q3 (dC, dI) L kd tys [(14, 60)] [] f0 sz) (pA L sz)) 0 0 (pA L sz) := by
  refine Met.ofW (cc := cX14_nextDrawn) (maxL := 1) (ret := (some .int)) (by decide) rfl ?_
  intro p e s m args below meth c s₁ B hml hv
  obtain ⟨rfl, hsz, hP, hK, hD0⟩ := hv
  have hx := B.exec
  have hb := B.bytes
  have hr := B.returns
  have hts := atoms_spec (ws := (.code yX14_nextDrawn cX14_nextDrawn 1 (some .int) :: lw_g)) B.pre
  have hown : s.vm.findClass RX14 = some m.cls := findClass_of_methodNamed B.named
  have hlocks := B.notSynchronized
  subst hsz
  have g : G3 (dC, dI) L kd tys s f0 [(14, 60)] [] f0 s.heap [] [] := G3.start hP hD0 hWT Fs.nil
  have hl := lv_entry ([.ref a0_]) (n := 1) (Nat.le_of_ble_eq_true rfl)
  rw [lg_entry_eq]
  generalize (lg_sl ([.ref a0_]) ++ List.replicate (1 - (lg_sl ([.ref a0_])).length) Slot.unset).toArray = ls at hl ⊢
  have hl : lv_has ls 1 [(0, .ref a0_)] := hl
  refine W_q (fun Q hQ => ?_)
  refine lv_aload_n hx hb dX14_nextDrawn_0 rfl (lv_at hl 0 rfl) ?_
  refine lv_ldcw (v := 1103515245) hx hb hown (hts _ (List.mem_cons_of_mem _ t_2738)) dX14_nextDrawn_1 ?_
  refine lv_aload_n hx hb dX14_nextDrawn_4 rfl (lv_at hl 0 rfl) ?_
  refine g_geti (C := RX14) (T := TX14) (N := 67) hx hb hts (mc_ inX14) hown hK g ma0_ ka0_ (by decide) rfl 60 (by decide) rfl (hts _ (List.mem_cons_of_mem _ t_2206)) (fun _ h9 => h9) rfl dX14_nextDrawn_5 (fun x_1 bx_1 g => ?_)
  refine lv_imul hx hb dX14_nextDrawn_8 ?_
  refine lv_topi (fun y_2 ey_2 => ?_)
  refine lv_sipush (v := 12345) hx hb dX14_nextDrawn_9 (by decide) ?_
  have kb_12345 : bd 12345 12345 (12345 : Int32) := ⟨by decide, by decide⟩
  refine lv_iadd hx hb dX14_nextDrawn_12 ?_
  refine lv_topi (fun y_3 ey_3 => ?_)
  refine g_put (C := RX14) (T := TX14) (N := 67) hx hb hts (mc_ inX14) tyX14 tyX14_ok nmX14 hown hK g ma0_ ka0_ (by decide) rfl 60 (by decide) (hts _ (List.mem_cons_of_mem _ t_2206)) (fun _ h9 => h9) rfl rfl (okV_i (bdT y_3)) rfl rfl (by decide) (Or.inr (Or.inl (by decide))) (fx' := []) rfl dX14_nextDrawn_13 (fun f H locs hM_4 g => ?_)
  refine lv_aload_n hx hb dX14_nextDrawn_16 rfl (lv_at hl 0 rfl) ?_
  refine g_getk (C := RX14) (T := TX14) (N := 67) hx hb hts (mc_ inX14) hown hK g rfl 60 (by decide) rfl (hts _ (List.mem_cons_of_mem _ t_2206)) (fun _ h9 => h9) 0 rfl dX14_nextDrawn_17 ?_
  refine lv_bipush (v := 16) hx hb dX14_nextDrawn_20 (by decide) ?_
  refine lv_iushr hx hb dX14_nextDrawn_22 rfl ?_
  refine lv_topi (fun y_5 ey_5 => ?_)
  refine lv_sipush (v := 32767) hx hb dX14_nextDrawn_23 (by decide) ?_
  have kb_32767 : bd 32767 32767 (32767 : Int32) := ⟨by decide, by decide⟩
  refine lv_iand hx hb dX14_nextDrawn_26 ?_
  refine lv_topi (fun y_6 ey_6 => ?_)
  have b_7 : bd 0 32767 y_6 := and_rg ey_6 (bdT y_5) kb_32767 (by decide)
  subst hQ
  exact W.iret (v := y_6) hx hb hr (fun t ht hW => ⟨⟨_, _, rfl, ⟨b_7, trivial⟩, q3_of g hK ht hW⟩, g.2.2.1.F ht⟩) g.2.2.1.2.2 dX14_nextDrawn_27
set_option maxHeartbeats 4000000 in
set_option maxRecDepth 100000 in
theorem r_X14_tried (l : Launch) (dC : Nat → ClassId) (dI : Nat → Nat → Nat) (L : List Nat) (kd : Nat → Nat) (tys : List (ClassId × FieldType)) (f0 : Nat → va_E) (sz : Nat) (hWT : WT L kd tys f0) (a0_ : Nat) (ma0_ : a0_ ∈ L) (ka0_ : kd a0_ = 14) : Met l yX14_tried (.code yX14_tried cX14_tried 1 (some .int) :: lw_g) ({ frames := 0, cells := 0, slots := 0, locals := 0 }) (va_Pc [.ref a0_] (P3 (dC, dI) L tys f0 sz)) (va_Qi (fun (r : Int32) (f : Nat → va_E) => (True)) (Q3 (dC, dI) L kd tys [] [] f0 sz) (pA L sz)) 0 0 (pA L sz) := by
  refine Met.ofW (cc := cX14_tried) (maxL := 1) (ret := (some .int)) (by decide) rfl ?_
  intro p e s m args below meth c s₁ B hml hv
  obtain ⟨rfl, hsz, hP, hK, hD0⟩ := hv
  have hx := B.exec
  have hb := B.bytes
  have hr := B.returns
  have hts := atoms_spec (ws := (.code yX14_tried cX14_tried 1 (some .int) :: lw_g)) B.pre
  have hown : s.vm.findClass RX14 = some m.cls := findClass_of_methodNamed B.named
  have hlocks := B.notSynchronized
  subst hsz
  have g : G3 (dC, dI) L kd tys s f0 [] [] f0 s.heap [] [] := G3.start hP hD0 hWT Fs.nil
  have hl := lv_entry ([.ref a0_]) (n := 1) (Nat.le_of_ble_eq_true rfl)
  rw [lg_entry_eq]
  generalize (lg_sl ([.ref a0_]) ++ List.replicate (1 - (lg_sl ([.ref a0_])).length) Slot.unset).toArray = ls at hl ⊢
  have hl : lv_has ls 1 [(0, .ref a0_)] := hl
  refine W_q (fun Q hQ => ?_)
  refine lv_aload_n hx hb dX14_tried_0 rfl (lv_at hl 0 rfl) ?_
  refine g_geti (C := RX14) (T := TX14) (N := 67) hx hb hts (mc_ inX14) hown hK g ma0_ ka0_ (by decide) rfl 58 (by decide) rfl (hts _ (List.mem_cons_of_mem _ t_2204)) (fun _ h9 => h9) rfl dX14_tried_1 (fun x_1 bx_1 g => ?_)
  subst hQ
  exact W.iret (v := x_1) hx hb hr (fun t ht hW => ⟨⟨_, _, rfl, trivial, q3_of g hK ht hW⟩, g.2.2.1.F ht⟩) g.2.2.1.2.2 dX14_tried_4
