set_option maxHeartbeats 4000000 in
set_option maxRecDepth 100000 in
theorem s_X8_kind (l : Launch) (dC : Nat → ClassId) (dI : Nat → Nat → Nat) (h0 : Nat) (t_kinds : Nat) (t_places : Nat) (t_values : Nat) (t_quoted : Nat) (t_tape : Nat) (t_length : Int32) (t_at : Int32) (t_bracketBehindAll : Int32) (t_faultKind : Int32) (t_faultPlace : Int32) (k_t_kinds : ClassId) (f_t_kinds : Nat → Int32) (hb_t_length : 0 ≤ t_length.toInt ∧ t_length.toInt ≤ 4000) (hb_t_at : 0 ≤ t_at.toInt ∧ t_at.toInt ≤ 1201) (hb_t_bracketBehindAll : 0 ≤ t_bracketBehindAll.toInt ∧ t_bracketBehindAll.toInt ≤ 1) (sz : Nat) : Met l yX8_kind (.code yX8_kind cX8_kind 1 (some .int) :: lw_g) ({ frames := 0, cells := 0, slots := 0, locals := 0 }) (va_Pc [.ref h0] (fun U => U.heap.size = sz ∧ va_P (dC, dI) vwCl [(h0, .inr (8, [.ref t_kinds, .ref t_places, .ref t_values, .ref t_quoted, .ref t_tape, .int t_length, .int t_at, .int t_bracketBehindAll, .int t_faultKind, .int t_faultPlace])), (t_kinds, .inl (k_t_kinds, 1202, .inl f_t_kinds))] U.heap ∧ va_K (dC, dI) vwCl [(k_t_kinds, .int)] U ∧ va_D (fun _ => True) [(h0, .inr (8, [.ref t_kinds, .ref t_places, .ref t_values, .ref t_quoted, .ref t_tape, .int t_length, .int t_at, .int t_bracketBehindAll, .int t_faultKind, .int t_faultPlace])), (t_kinds, .inl (k_t_kinds, 1202, .inl f_t_kinds))])) (va_Qi (fun (r : Int32) (_ : Unit) => True) (fun (_ : Unit) (t : State) => va_P (dC, dI) vwCl [(h0, .inr (8, [.ref t_kinds, .ref t_places, .ref t_values, .ref t_quoted, .ref t_tape, .int t_length, .int t_at, .int t_bracketBehindAll, .int t_faultKind, .int t_faultPlace])), (t_kinds, .inl (k_t_kinds, 1202, .inl f_t_kinds))] t.heap ∧ va_K (dC, dI) vwCl [(k_t_kinds, .int)] t ∧ va_D (va_A [(h0, .inr (8, [.ref t_kinds, .ref t_places, .ref t_values, .ref t_quoted, .ref t_tape, .int t_length, .int t_at, .int t_bracketBehindAll, .int t_faultKind, .int t_faultPlace])), (t_kinds, .inl (k_t_kinds, 1202, .inl f_t_kinds))] sz) [(h0, .inr (8, [.ref t_kinds, .ref t_places, .ref t_values, .ref t_quoted, .ref t_tape, .int t_length, .int t_at, .int t_bracketBehindAll, .int t_faultKind, .int t_faultPlace])), (t_kinds, .inl (k_t_kinds, 1202, .inl f_t_kinds))]) (va_A [(h0, .inr (8, [.ref t_kinds, .ref t_places, .ref t_values, .ref t_quoted, .ref t_tape, .int t_length, .int t_at, .int t_bracketBehindAll, .int t_faultKind, .int t_faultPlace])), (t_kinds, .inl (k_t_kinds, 1202, .inl f_t_kinds))] sz)) 0 0 (va_A [(h0, .inr (8, [.ref t_kinds, .ref t_places, .ref t_values, .ref t_quoted, .ref t_tape, .int t_length, .int t_at, .int t_bracketBehindAll, .int t_faultKind, .int t_faultPlace])), (t_kinds, .inl (k_t_kinds, 1202, .inl f_t_kinds))] sz) := by
  refine Met.ofW (cc := cX8_kind) (maxL := 1) (ret := (some .int)) (by decide) rfl ?_
  intro p e s m args below meth c s₁ B hml hv
  obtain ⟨rfl, hsz, hP, hK, hD0⟩ := hv
  have hx := B.exec
  have hb := B.bytes
  have hr := B.returns
  have hts := atoms_spec (ws := (.code yX8_kind cX8_kind 1 (some .int) :: lw_g)) B.pre
  have hown : s.vm.findClass RX8 = some m.cls := findClass_of_methodNamed B.named
  have hlocks := B.notSynchronized
  subst hsz
  have hD := hD0.self (sz := s.heap.size)
  generalize hAe : va_A [(h0, .inr (8, [.ref t_kinds, .ref t_places, .ref t_values, .ref t_quoted, .ref t_tape, .int t_length, .int t_at, .int t_bracketBehindAll, .int t_faultKind, .int t_faultPlace])), (t_kinds, .inl (k_t_kinds, 1202, .inl f_t_kinds))] s.heap.size = A at hD ⊢
  have hA : ∀ q : Nat, s.heap.size ≤ q → A q := fun q h => by rw [← hAe]; exact Or.inr h
  have hS : va_S A s.heap s.heap [] := va_S.rf
  have hP : va_P (dC, dI) vwCl [(h0, .inr (8, [.ref t_kinds, .ref t_places, .ref t_values, .ref t_quoted, .ref t_tape, .int t_length, .int t_at, .int t_bracketBehindAll, .int t_faultKind, .int t_faultPlace])), (t_kinds, .inl (k_t_kinds, 1202, .inl f_t_kinds))] s.heap := hP
  have hl := lv_entry ([.ref h0]) (n := 1) (Nat.le_of_ble_eq_true rfl)
  rw [lg_entry_eq]
  generalize (lg_sl ([.ref h0]) ++ List.replicate (1 - (lg_sl ([.ref h0])).length) Slot.unset).toArray = ls at hl ⊢
  have hl : lv_has ls 1 [(0, .ref h0)] := hl
  refine lv_aload_n hx hb dX8_kind_0 rfl (lv_at hl 0 rfl) ?_
  refine va_get (D := (dC, dI)) (ci := 8) (v := .ref t_kinds) (C := RX8) (T := TX8) (N := 10) hx hb hts (mc_ inX8) hown hK hP 0 rfl rfl 0 (by decide) (hts _ (List.mem_cons_of_mem _ t_285)) (fun _ h9 => h9) rfl dX8_kind_1 ?_
  refine lv_aload_n hx hb dX8_kind_4 rfl (lv_at hl 0 rfl) ?_
  refine va_get (D := (dC, dI)) (ci := 8) (v := .int t_at) (C := RX8) (T := TX8) (N := 10) hx hb hts (mc_ inX8) hown hK hP 0 rfl rfl 6 (by decide) (hts _ (List.mem_cons_of_mem _ t_291)) (fun _ h9 => h9) rfl dX8_kind_5 ?_
  refine va_iald hx hb hK hP 1 0 rfl rfl (in_ok (by omega) (by omega)) dX8_kind_8 ?_
  refine lv_topi (fun y_1 ey_1 => ?_)
  have hP9 := hP.sub (ws' := [(h0, .inr (8, [.ref t_kinds, .ref t_places, .ref t_values, .ref t_quoted, .ref t_tape, .int t_length, .int t_at, .int t_bracketBehindAll, .int t_faultKind, .int t_faultPlace])), (t_kinds, .inl (k_t_kinds, 1202, .inl f_t_kinds))]) [0, 1] rfl
  have hD9 := hD.sub (ws' := [(h0, .inr (8, [.ref t_kinds, .ref t_places, .ref t_values, .ref t_quoted, .ref t_tape, .int t_length, .int t_at, .int t_bracketBehindAll, .int t_faultKind, .int t_faultPlace])), (t_kinds, .inl (k_t_kinds, 1202, .inl f_t_kinds))]) [0, 1] (by decide) rfl
  have hK9 := hK.sub (tys' := [(k_t_kinds, .int)]) [0] rfl
  refine W.widen (k := 0) (n := 0) (Nat.le_of_ble_eq_true rfl) (Nat.le_of_ble_eq_true rfl) ?_
  exact W.iret (v := y_1) hx hb hr (fun t ht hW => ⟨⟨_, (), rfl, trivial, by rw [ht]; exact hP9, va_K.moved hW.alike hK9, hD9⟩, hS.F ht⟩) hS.2.2 dX8_kind_9
set_option maxHeartbeats 4000000 in
set_option maxRecDepth 100000 in
theorem s_X8_place (l : Launch) (dC : Nat → ClassId) (dI : Nat → Nat → Nat) (h0 : Nat) (t_kinds : Nat) (t_places : Nat) (t_values : Nat) (t_quoted : Nat) (t_tape : Nat) (t_length : Int32) (t_at : Int32) (t_bracketBehindAll : Int32) (t_faultKind : Int32) (t_faultPlace : Int32) (k_t_places : ClassId) (f_t_places : Nat → Int32) (hb_t_length : 0 ≤ t_length.toInt ∧ t_length.toInt ≤ 4000) (hb_t_at : 0 ≤ t_at.toInt ∧ t_at.toInt ≤ 1201) (hb_t_bracketBehindAll : 0 ≤ t_bracketBehindAll.toInt ∧ t_bracketBehindAll.toInt ≤ 1) (sz : Nat) : Met l yX8_place (.code yX8_place cX8_place 1 (some .int) :: lw_g) ({ frames := 0, cells := 0, slots := 0, locals := 0 }) (va_Pc [.ref h0] (fun U => U.heap.size = sz ∧ va_P (dC, dI) vwCl [(h0, .inr (8, [.ref t_kinds, .ref t_places, .ref t_values, .ref t_quoted, .ref t_tape, .int t_length, .int t_at, .int t_bracketBehindAll, .int t_faultKind, .int t_faultPlace])), (t_places, .inl (k_t_places, 1202, .inl f_t_places))] U.heap ∧ va_K (dC, dI) vwCl [(k_t_places, .int)] U ∧ va_D (fun _ => True) [(h0, .inr (8, [.ref t_kinds, .ref t_places, .ref t_values, .ref t_quoted, .ref t_tape, .int t_length, .int t_at, .int t_bracketBehindAll, .int t_faultKind, .int t_faultPlace])), (t_places, .inl (k_t_places, 1202, .inl f_t_places))])) (va_Qi (fun (r : Int32) (_ : Unit) => True) (fun (_ : Unit) (t : State) => va_P (dC, dI) vwCl [(h0, .inr (8, [.ref t_kinds, .ref t_places, .ref t_values, .ref t_quoted, .ref t_tape, .int t_length, .int t_at, .int t_bracketBehindAll, .int t_faultKind, .int t_faultPlace])), (t_places, .inl (k_t_places, 1202, .inl f_t_places))] t.heap ∧ va_K (dC, dI) vwCl [(k_t_places, .int)] t ∧ va_D (va_A [(h0, .inr (8, [.ref t_kinds, .ref t_places, .ref t_values, .ref t_quoted, .ref t_tape, .int t_length, .int t_at, .int t_bracketBehindAll, .int t_faultKind, .int t_faultPlace])), (t_places, .inl (k_t_places, 1202, .inl f_t_places))] sz) [(h0, .inr (8, [.ref t_kinds, .ref t_places, .ref t_values, .ref t_quoted, .ref t_tape, .int t_length, .int t_at, .int t_bracketBehindAll, .int t_faultKind, .int t_faultPlace])), (t_places, .inl (k_t_places, 1202, .inl f_t_places))]) (va_A [(h0, .inr (8, [.ref t_kinds, .ref t_places, .ref t_values, .ref t_quoted, .ref t_tape, .int t_length, .int t_at, .int t_bracketBehindAll, .int t_faultKind, .int t_faultPlace])), (t_places, .inl (k_t_places, 1202, .inl f_t_places))] sz)) 0 0 (va_A [(h0, .inr (8, [.ref t_kinds, .ref t_places, .ref t_values, .ref t_quoted, .ref t_tape, .int t_length, .int t_at, .int t_bracketBehindAll, .int t_faultKind, .int t_faultPlace])), (t_places, .inl (k_t_places, 1202, .inl f_t_places))] sz) := by
  refine Met.ofW (cc := cX8_place) (maxL := 1) (ret := (some .int)) (by decide) rfl ?_
  intro p e s m args below meth c s₁ B hml hv
  obtain ⟨rfl, hsz, hP, hK, hD0⟩ := hv
  have hx := B.exec
  have hb := B.bytes
  have hr := B.returns
  have hts := atoms_spec (ws := (.code yX8_place cX8_place 1 (some .int) :: lw_g)) B.pre
  have hown : s.vm.findClass RX8 = some m.cls := findClass_of_methodNamed B.named
  have hlocks := B.notSynchronized
  subst hsz
  have hD := hD0.self (sz := s.heap.size)
  generalize hAe : va_A [(h0, .inr (8, [.ref t_kinds, .ref t_places, .ref t_values, .ref t_quoted, .ref t_tape, .int t_length, .int t_at, .int t_bracketBehindAll, .int t_faultKind, .int t_faultPlace])), (t_places, .inl (k_t_places, 1202, .inl f_t_places))] s.heap.size = A at hD ⊢
  have hA : ∀ q : Nat, s.heap.size ≤ q → A q := fun q h => by rw [← hAe]; exact Or.inr h
  have hS : va_S A s.heap s.heap [] := va_S.rf
  have hP : va_P (dC, dI) vwCl [(h0, .inr (8, [.ref t_kinds, .ref t_places, .ref t_values, .ref t_quoted, .ref t_tape, .int t_length, .int t_at, .int t_bracketBehindAll, .int t_faultKind, .int t_faultPlace])), (t_places, .inl (k_t_places, 1202, .inl f_t_places))] s.heap := hP
  have hl := lv_entry ([.ref h0]) (n := 1) (Nat.le_of_ble_eq_true rfl)
  rw [lg_entry_eq]
  generalize (lg_sl ([.ref h0]) ++ List.replicate (1 - (lg_sl ([.ref h0])).length) Slot.unset).toArray = ls at hl ⊢
  have hl : lv_has ls 1 [(0, .ref h0)] := hl
  refine lv_aload_n hx hb dX8_place_0 rfl (lv_at hl 0 rfl) ?_
  refine va_get (D := (dC, dI)) (ci := 8) (v := .ref t_places) (C := RX8) (T := TX8) (N := 10) hx hb hts (mc_ inX8) hown hK hP 0 rfl rfl 1 (by decide) (hts _ (List.mem_cons_of_mem _ t_286)) (fun _ h9 => h9) rfl dX8_place_1 ?_
  refine lv_aload_n hx hb dX8_place_4 rfl (lv_at hl 0 rfl) ?_
  refine va_get (D := (dC, dI)) (ci := 8) (v := .int t_at) (C := RX8) (T := TX8) (N := 10) hx hb hts (mc_ inX8) hown hK hP 0 rfl rfl 6 (by decide) (hts _ (List.mem_cons_of_mem _ t_291)) (fun _ h9 => h9) rfl dX8_place_5 ?_
  refine va_iald hx hb hK hP 1 0 rfl rfl (in_ok (by omega) (by omega)) dX8_place_8 ?_
  refine lv_topi (fun y_1 ey_1 => ?_)
  have hP9 := hP.sub (ws' := [(h0, .inr (8, [.ref t_kinds, .ref t_places, .ref t_values, .ref t_quoted, .ref t_tape, .int t_length, .int t_at, .int t_bracketBehindAll, .int t_faultKind, .int t_faultPlace])), (t_places, .inl (k_t_places, 1202, .inl f_t_places))]) [0, 1] rfl
  have hD9 := hD.sub (ws' := [(h0, .inr (8, [.ref t_kinds, .ref t_places, .ref t_values, .ref t_quoted, .ref t_tape, .int t_length, .int t_at, .int t_bracketBehindAll, .int t_faultKind, .int t_faultPlace])), (t_places, .inl (k_t_places, 1202, .inl f_t_places))]) [0, 1] (by decide) rfl
  have hK9 := hK.sub (tys' := [(k_t_places, .int)]) [0] rfl
  refine W.widen (k := 0) (n := 0) (Nat.le_of_ble_eq_true rfl) (Nat.le_of_ble_eq_true rfl) ?_
  exact W.iret (v := y_1) hx hb hr (fun t ht hW => ⟨⟨_, (), rfl, trivial, by rw [ht]; exact hP9, va_K.moved hW.alike hK9, hD9⟩, hS.F ht⟩) hS.2.2 dX8_place_9
set_option maxHeartbeats 4000000 in
set_option maxRecDepth 100000 in
theorem s_X8_value (l : Launch) (dC : Nat → ClassId) (dI : Nat → Nat → Nat) (h0 : Nat) (t_kinds : Nat) (t_places : Nat) (t_values : Nat) (t_quoted : Nat) (t_tape : Nat) (t_length : Int32) (t_at : Int32) (t_bracketBehindAll : Int32) (t_faultKind : Int32) (t_faultPlace : Int32) (k_t_values : ClassId) (f_t_values : Nat → Int64) (hb_t_length : 0 ≤ t_length.toInt ∧ t_length.toInt ≤ 4000) (hb_t_at : 0 ≤ t_at.toInt ∧ t_at.toInt ≤ 1201) (hb_t_bracketBehindAll : 0 ≤ t_bracketBehindAll.toInt ∧ t_bracketBehindAll.toInt ≤ 1) (sz : Nat) : Met l yX8_value (.code yX8_value cX8_value 1 (some .long) :: lw_g) ({ frames := 0, cells := 0, slots := 0, locals := 0 }) (va_Pc [.ref h0] (fun U => U.heap.size = sz ∧ va_P (dC, dI) vwCl [(h0, .inr (8, [.ref t_kinds, .ref t_places, .ref t_values, .ref t_quoted, .ref t_tape, .int t_length, .int t_at, .int t_bracketBehindAll, .int t_faultKind, .int t_faultPlace])), (t_values, .inl (k_t_values, 1202, .inr (.inl f_t_values)))] U.heap ∧ va_K (dC, dI) vwCl [(k_t_values, .long)] U ∧ va_D (fun _ => True) [(h0, .inr (8, [.ref t_kinds, .ref t_places, .ref t_values, .ref t_quoted, .ref t_tape, .int t_length, .int t_at, .int t_bracketBehindAll, .int t_faultKind, .int t_faultPlace])), (t_values, .inl (k_t_values, 1202, .inr (.inl f_t_values)))])) (va_Ql (fun (r : Int64) (_ : Unit) => True) (fun (_ : Unit) (t : State) => va_P (dC, dI) vwCl [(h0, .inr (8, [.ref t_kinds, .ref t_places, .ref t_values, .ref t_quoted, .ref t_tape, .int t_length, .int t_at, .int t_bracketBehindAll, .int t_faultKind, .int t_faultPlace])), (t_values, .inl (k_t_values, 1202, .inr (.inl f_t_values)))] t.heap ∧ va_K (dC, dI) vwCl [(k_t_values, .long)] t ∧ va_D (va_A [(h0, .inr (8, [.ref t_kinds, .ref t_places, .ref t_values, .ref t_quoted, .ref t_tape, .int t_length, .int t_at, .int t_bracketBehindAll, .int t_faultKind, .int t_faultPlace])), (t_values, .inl (k_t_values, 1202, .inr (.inl f_t_values)))] sz) [(h0, .inr (8, [.ref t_kinds, .ref t_places, .ref t_values, .ref t_quoted, .ref t_tape, .int t_length, .int t_at, .int t_bracketBehindAll, .int t_faultKind, .int t_faultPlace])), (t_values, .inl (k_t_values, 1202, .inr (.inl f_t_values)))]) (va_A [(h0, .inr (8, [.ref t_kinds, .ref t_places, .ref t_values, .ref t_quoted, .ref t_tape, .int t_length, .int t_at, .int t_bracketBehindAll, .int t_faultKind, .int t_faultPlace])), (t_values, .inl (k_t_values, 1202, .inr (.inl f_t_values)))] sz)) 0 0 (va_A [(h0, .inr (8, [.ref t_kinds, .ref t_places, .ref t_values, .ref t_quoted, .ref t_tape, .int t_length, .int t_at, .int t_bracketBehindAll, .int t_faultKind, .int t_faultPlace])), (t_values, .inl (k_t_values, 1202, .inr (.inl f_t_values)))] sz) := by
  refine Met.ofW (cc := cX8_value) (maxL := 1) (ret := (some .long)) (by decide) rfl ?_
  intro p e s m args below meth c s₁ B hml hv
  obtain ⟨rfl, hsz, hP, hK, hD0⟩ := hv
  have hx := B.exec
  have hb := B.bytes
  have hr := B.returns
  have hts := atoms_spec (ws := (.code yX8_value cX8_value 1 (some .long) :: lw_g)) B.pre
  have hown : s.vm.findClass RX8 = some m.cls := findClass_of_methodNamed B.named
  have hlocks := B.notSynchronized
  subst hsz
  have hD := hD0.self (sz := s.heap.size)
  generalize hAe : va_A [(h0, .inr (8, [.ref t_kinds, .ref t_places, .ref t_values, .ref t_quoted, .ref t_tape, .int t_length, .int t_at, .int t_bracketBehindAll, .int t_faultKind, .int t_faultPlace])), (t_values, .inl (k_t_values, 1202, .inr (.inl f_t_values)))] s.heap.size = A at hD ⊢
  have hA : ∀ q : Nat, s.heap.size ≤ q → A q := fun q h => by rw [← hAe]; exact Or.inr h
  have hS : va_S A s.heap s.heap [] := va_S.rf
  have hP : va_P (dC, dI) vwCl [(h0, .inr (8, [.ref t_kinds, .ref t_places, .ref t_values, .ref t_quoted, .ref t_tape, .int t_length, .int t_at, .int t_bracketBehindAll, .int t_faultKind, .int t_faultPlace])), (t_values, .inl (k_t_values, 1202, .inr (.inl f_t_values)))] s.heap := hP
  have hl := lv_entry ([.ref h0]) (n := 1) (Nat.le_of_ble_eq_true rfl)
  rw [lg_entry_eq]
  generalize (lg_sl ([.ref h0]) ++ List.replicate (1 - (lg_sl ([.ref h0])).length) Slot.unset).toArray = ls at hl ⊢
  have hl : lv_has ls 1 [(0, .ref h0)] := hl
  refine lv_aload_n hx hb dX8_value_0 rfl (lv_at hl 0 rfl) ?_
  refine va_get (D := (dC, dI)) (ci := 8) (v := .ref t_values) (C := RX8) (T := TX8) (N := 10) hx hb hts (mc_ inX8) hown hK hP 0 rfl rfl 2 (by decide) (hts _ (List.mem_cons_of_mem _ t_287)) (fun _ h9 => h9) rfl dX8_value_1 ?_
  refine lv_aload_n hx hb dX8_value_4 rfl (lv_at hl 0 rfl) ?_
  refine va_get (D := (dC, dI)) (ci := 8) (v := .int t_at) (C := RX8) (T := TX8) (N := 10) hx hb hts (mc_ inX8) hown hK hP 0 rfl rfl 6 (by decide) (hts _ (List.mem_cons_of_mem _ t_291)) (fun _ h9 => h9) rfl dX8_value_5 ?_
  refine va_lald hx hb hK hP 1 0 rfl rfl (in_ok (by omega) (by omega)) dX8_value_8 ?_
  refine lv_topl (fun y_1 ey_1 => ?_)
  have hP9 := hP.sub (ws' := [(h0, .inr (8, [.ref t_kinds, .ref t_places, .ref t_values, .ref t_quoted, .ref t_tape, .int t_length, .int t_at, .int t_bracketBehindAll, .int t_faultKind, .int t_faultPlace])), (t_values, .inl (k_t_values, 1202, .inr (.inl f_t_values)))]) [0, 1] rfl
  have hD9 := hD.sub (ws' := [(h0, .inr (8, [.ref t_kinds, .ref t_places, .ref t_values, .ref t_quoted, .ref t_tape, .int t_length, .int t_at, .int t_bracketBehindAll, .int t_faultKind, .int t_faultPlace])), (t_values, .inl (k_t_values, 1202, .inr (.inl f_t_values)))]) [0, 1] (by decide) rfl
  have hK9 := hK.sub (tys' := [(k_t_values, .long)]) [0] rfl
  refine W.widen (k := 0) (n := 0) (Nat.le_of_ble_eq_true rfl) (Nat.le_of_ble_eq_true rfl) ?_
  exact W.lret (v := y_1) hx hb hr (fun t ht hW => ⟨⟨_, (), rfl, trivial, by rw [ht]; exact hP9, va_K.moved hW.alike hK9, hD9⟩, hS.F ht⟩) hS.2.2 dX8_value_9
set_option maxHeartbeats 4000000 in
set_option maxRecDepth 100000 in
theorem s_X8_next (l : Launch) (dC : Nat → ClassId) (dI : Nat → Nat → Nat) (h0 : Nat) (t_kinds : Nat) (t_places : Nat) (t_values : Nat) (t_quoted : Nat) (t_tape : Nat) (t_length : Int32) (t_at : Int32) (t_bracketBehindAll : Int32) (t_faultKind : Int32) (t_faultPlace : Int32) (hb_t_length : 0 ≤ t_length.toInt ∧ t_length.toInt ≤ 4000) (hb_t_at : 0 ≤ t_at.toInt ∧ t_at.toInt ≤ 1201) (hb_t_bracketBehindAll : 0 ≤ t_bracketBehindAll.toInt ∧ t_bracketBehindAll.toInt ≤ 1) (sz : Nat) : Met l yX8_next (.code yX8_next cX8_next 1 none :: lw_g) ({ frames := 0, cells := 0, slots := 0, locals := 0 }) (va_Pc [.ref h0] (fun U => U.heap.size = sz ∧ va_P (dC, dI) vwCl [(h0, .inr (8, [.ref t_kinds, .ref t_places, .ref t_values, .ref t_quoted, .ref t_tape, .int t_length, .int t_at, .int t_bracketBehindAll, .int t_faultKind, .int t_faultPlace]))] U.heap ∧ va_K (dC, dI) vwCl [] U ∧ va_D (fun _ => True) [(h0, .inr (8, [.ref t_kinds, .ref t_places, .ref t_values, .ref t_quoted, .ref t_tape, .int t_length, .int t_at, .int t_bracketBehindAll, .int t_faultKind, .int t_faultPlace]))])) (va_Qv (fun _ : Unit => True) (fun (_ : Unit) (t : State) => ∃ z0 : Int32, (0 ≤ z0.toInt ∧ z0.toInt ≤ 1201) ∧ va_P (dC, dI) vwCl [(h0, .inr (8, [.ref t_kinds, .ref t_places, .ref t_values, .ref t_quoted, .ref t_tape, .int t_length, .int z0, .int t_bracketBehindAll, .int t_faultKind, .int t_faultPlace]))] t.heap ∧ va_K (dC, dI) vwCl [] t ∧ va_D (va_A [(h0, .inr (8, [.ref t_kinds, .ref t_places, .ref t_values, .ref t_quoted, .ref t_tape, .int t_length, .int t_at, .int t_bracketBehindAll, .int t_faultKind, .int t_faultPlace]))] sz) [(h0, .inr (8, [.ref t_kinds, .ref t_places, .ref t_values, .ref t_quoted, .ref t_tape, .int t_length, .int z0, .int t_bracketBehindAll, .int t_faultKind, .int t_faultPlace]))]) (va_A [(h0, .inr (8, [.ref t_kinds, .ref t_places, .ref t_values, .ref t_quoted, .ref t_tape, .int t_length, .int t_at, .int t_bracketBehindAll, .int t_faultKind, .int t_faultPlace]))] sz)) 0 0 (va_A [(h0, .inr (8, [.ref t_kinds, .ref t_places, .ref t_values, .ref t_quoted, .ref t_tape, .int t_length, .int t_at, .int t_bracketBehindAll, .int t_faultKind, .int t_faultPlace]))] sz) := by
  refine Met.ofW (cc := cX8_next) (maxL := 1) (ret := none) (by decide) rfl ?_
  intro p e s m args below meth c s₁ B hml hv
  obtain ⟨rfl, hsz, hP, hK, hD0⟩ := hv
  have hx := B.exec
  have hb := B.bytes
  have hr := B.returns
  have hts := atoms_spec (ws := (.code yX8_next cX8_next 1 none :: lw_g)) B.pre
  have hown : s.vm.findClass RX8 = some m.cls := findClass_of_methodNamed B.named
  have hlocks := B.notSynchronized
  subst hsz
  have hD := hD0.self (sz := s.heap.size)
  generalize hAe : va_A [(h0, .inr (8, [.ref t_kinds, .ref t_places, .ref t_values, .ref t_quoted, .ref t_tape, .int t_length, .int t_at, .int t_bracketBehindAll, .int t_faultKind, .int t_faultPlace]))] s.heap.size = A at hD ⊢
  have hA : ∀ q : Nat, s.heap.size ≤ q → A q := fun q h => by rw [← hAe]; exact Or.inr h
  have hS : va_S A s.heap s.heap [] := va_S.rf
  have hP : va_P (dC, dI) vwCl [(h0, .inr (8, [.ref t_kinds, .ref t_places, .ref t_values, .ref t_quoted, .ref t_tape, .int t_length, .int t_at, .int t_bracketBehindAll, .int t_faultKind, .int t_faultPlace]))] s.heap := hP
  have hl := lv_entry ([.ref h0]) (n := 1) (Nat.le_of_ble_eq_true rfl)
  rw [lg_entry_eq]
  generalize (lg_sl ([.ref h0]) ++ List.replicate (1 - (lg_sl ([.ref h0])).length) Slot.unset).toArray = ls at hl ⊢
  have hl : lv_has ls 1 [(0, .ref h0)] := hl
  refine lv_aload_n hx hb dX8_next_0 rfl (lv_at hl 0 rfl) ?_
  refine va_get (D := (dC, dI)) (ci := 8) (v := .int t_at) (C := RX8) (T := TX8) (N := 10) hx hb hts (mc_ inX8) hown hK hP 0 rfl rfl 6 (by decide) (hts _ (List.mem_cons_of_mem _ t_291)) (fun _ h9 => h9) rfl dX8_next_1 ?_
  refine lv_sipush (v := 1200) hx hb dX8_next_4 (by decide) ?_
  have kc_1200 : (1200 : Int32).toInt = 1200 := by decide
  refine lv_icmp_gt (tgt := 20) hx hb dX8_next_7 (by decide) (fun c_1 => ?_) (fun c_1 => ?_)
  · have fc_1 := lt_f c_1
    have hP9 := hP.sub (ws' := [(h0, .inr (8, [.ref t_kinds, .ref t_places, .ref t_values, .ref t_quoted, .ref t_tape, .int t_length, .int t_at, .int t_bracketBehindAll, .int t_faultKind, .int t_faultPlace]))]) [0] rfl
    have hD9 := hD.sub (ws' := [(h0, .inr (8, [.ref t_kinds, .ref t_places, .ref t_values, .ref t_quoted, .ref t_tape, .int t_length, .int t_at, .int t_bracketBehindAll, .int t_faultKind, .int t_faultPlace]))]) [0] (by decide) rfl
    have hK9 := hK.sub (tys' := []) [] rfl
    refine W.widen (k := 0) (n := 0) (Nat.le_of_ble_eq_true rfl) (Nat.le_of_ble_eq_true rfl) ?_
    exact W.vret hx hb hr (fun t ht hW => ⟨⟨(), rfl, trivial, t_at, ⟨by omega, by omega⟩, by rw [ht]; exact hP9, va_K.moved hW.alike hK9, hD9⟩, hS.F ht⟩) hS.2.2 dX8_next_20
  · have fc_1 := nlt_f c_1
    refine lv_aload_n hx hb dX8_next_10 rfl (lv_at hl 0 rfl) ?_
    refine lv_dup hx hb dX8_next_11 rfl ?_
    refine va_get (D := (dC, dI)) (ci := 8) (v := .int t_at) (C := RX8) (T := TX8) (N := 10) hx hb hts (mc_ inX8) hown hK hP 0 rfl rfl 6 (by decide) (hts _ (List.mem_cons_of_mem _ t_291)) (fun _ h9 => h9) rfl dX8_next_12 ?_
    refine lv_iconst (v := 1) hx hb dX8_next_15 (by decide) ?_
    have kc_1 : (1 : Int32).toInt = 1 := by decide
    refine lv_iadd hx hb dX8_next_16 ?_
    refine lv_topi (fun y_2 ey_2 => ?_)
    have ty_2 : y_2.toInt = t_at.toInt + (1 : Int32).toInt := by rw [ey_2]; exact add_ok (by omega) (by omega)
    have b_3 : 1 ≤ y_2.toInt ∧ y_2.toInt ≤ 1201 := by omega
    refine va_put (D := (dC, dI)) (ci := 8) (v := .int y_2) (ty := tyX8 6) (C := RX8) (T := TX8) (N := 10) hx hb hts (mc_ inX8) tyX8 tyX8_ok nmX8 hown hK hP hD hS 0 rfl rfl 6 (by decide) (hts _ (List.mem_cons_of_mem _ t_291)) (fun _ h9 => h9) rfl (by decide +kernel) rfl rfl (Nat.le_of_ble_eq_true rfl) dX8_next_17 (fun H locs hP hD hS => ?_)
    have hP : va_P (dC, dI) vwCl [(h0, .inr (8, [.ref t_kinds, .ref t_places, .ref t_values, .ref t_quoted, .ref t_tape, .int t_length, .int y_2, .int t_bracketBehindAll, .int t_faultKind, .int t_faultPlace]))] H := hP
    have hD : va_D A [(h0, .inr (8, [.ref t_kinds, .ref t_places, .ref t_values, .ref t_quoted, .ref t_tape, .int t_length, .int y_2, .int t_bracketBehindAll, .int t_faultKind, .int t_faultPlace]))] := hD
    have hP9 := hP.sub (ws' := [(h0, .inr (8, [.ref t_kinds, .ref t_places, .ref t_values, .ref t_quoted, .ref t_tape, .int t_length, .int y_2, .int t_bracketBehindAll, .int t_faultKind, .int t_faultPlace]))]) [0] rfl
    have hD9 := hD.sub (ws' := [(h0, .inr (8, [.ref t_kinds, .ref t_places, .ref t_values, .ref t_quoted, .ref t_tape, .int t_length, .int y_2, .int t_bracketBehindAll, .int t_faultKind, .int t_faultPlace]))]) [0] (by decide) rfl
    have hK9 := hK.sub (tys' := []) [] rfl
    refine W.widen (k := 0) (n := 0) (Nat.le_of_ble_eq_true rfl) (Nat.le_of_ble_eq_true rfl) ?_
    exact W.vret hx hb hr (fun t ht hW => ⟨⟨(), rfl, trivial, y_2, ⟨by omega, by omega⟩, by rw [ht]; exact hP9, va_K.moved hW.alike hK9, hD9⟩, hS.F ht⟩) hS.2.2 dX8_next_20
set_option maxHeartbeats 4000000 in
set_option maxRecDepth 100000 in
theorem s_X8_fail (l : Launch) (dC : Nat → ClassId) (dI : Nat → Nat → Nat) (h0 : Nat) (t_kinds : Nat) (t_places : Nat) (t_values : Nat) (t_quoted : Nat) (t_tape : Nat) (t_length : Int32) (t_at : Int32) (t_bracketBehindAll : Int32) (t_faultKind : Int32) (t_faultPlace : Int32) (k_t_places : ClassId) (f_t_places : Nat → Int32) (a1 : Int32) (a2 : Int32) (hb_t_length : 0 ≤ t_length.toInt ∧ t_length.toInt ≤ 4000) (hb_t_at : 0 ≤ t_at.toInt ∧ t_at.toInt ≤ 1201) (hb_t_bracketBehindAll : 0 ≤ t_bracketBehindAll.toInt ∧ t_bracketBehindAll.toInt ≤ 1) (sz : Nat) : Met l yX8_fail (.code yX8_fail cX8_fail 4 none :: lw_g) ({ frames := 0, cells := 0, slots := 0, locals := 0 }) (va_Pc [.ref h0, .int a1, .int a2] (fun U => U.heap.size = sz ∧ va_P (dC, dI) vwCl [(h0, .inr (8, [.ref t_kinds, .ref t_places, .ref t_values, .ref t_quoted, .ref t_tape, .int t_length, .int t_at, .int t_bracketBehindAll, .int t_faultKind, .int t_faultPlace])), (t_places, .inl (k_t_places, 1202, .inl f_t_places))] U.heap ∧ va_K (dC, dI) vwCl [(k_t_places, .int)] U ∧ va_D (fun _ => True) [(h0, .inr (8, [.ref t_kinds, .ref t_places, .ref t_values, .ref t_quoted, .ref t_tape, .int t_length, .int t_at, .int t_bracketBehindAll, .int t_faultKind, .int t_faultPlace])), (t_places, .inl (k_t_places, 1202, .inl f_t_places))])) (va_Qv (fun _ : Unit => True) (fun (_ : Unit) (t : State) => ∃ z0 : Int32, ∃ z1 : Int32, va_P (dC, dI) vwCl [(h0, .inr (8, [.ref t_kinds, .ref t_places, .ref t_values, .ref t_quoted, .ref t_tape, .int t_length, .int 1201, .int t_bracketBehindAll, .int z0, .int z1])), (t_places, .inl (k_t_places, 1202, .inl f_t_places))] t.heap ∧ va_K (dC, dI) vwCl [(k_t_places, .int)] t ∧ va_D (va_A [(h0, .inr (8, [.ref t_kinds, .ref t_places, .ref t_values, .ref t_quoted, .ref t_tape, .int t_length, .int t_at, .int t_bracketBehindAll, .int t_faultKind, .int t_faultPlace])), (t_places, .inl (k_t_places, 1202, .inl f_t_places))] sz) [(h0, .inr (8, [.ref t_kinds, .ref t_places, .ref t_values, .ref t_quoted, .ref t_tape, .int t_length, .int 1201, .int t_bracketBehindAll, .int z0, .int z1])), (t_places, .inl (k_t_places, 1202, .inl f_t_places))]) (va_A [(h0, .inr (8, [.ref t_kinds, .ref t_places, .ref t_values, .ref t_quoted, .ref t_tape, .int t_length, .int t_at, .int t_bracketBehindAll, .int t_faultKind, .int t_faultPlace])), (t_places, .inl (k_t_places, 1202, .inl f_t_places))] sz)) 0 0 (va_A [(h0, .inr (8, [.ref t_kinds, .ref t_places, .ref t_values, .ref t_quoted, .ref t_tape, .int t_length, .int t_at, .int t_bracketBehindAll, .int t_faultKind, .int t_faultPlace])), (t_places, .inl (k_t_places, 1202, .inl f_t_places))] sz) := by
  refine Met.ofW (cc := cX8_fail) (maxL := 4) (ret := none) (by decide) rfl ?_
  intro p e s m args below meth c s₁ B hml hv
  obtain ⟨rfl, hsz, hP, hK, hD0⟩ := hv
  have hx := B.exec
  have hb := B.bytes
  have hr := B.returns
  have hts := atoms_spec (ws := (.code yX8_fail cX8_fail 4 none :: lw_g)) B.pre
  have hown : s.vm.findClass RX8 = some m.cls := findClass_of_methodNamed B.named
  have hlocks := B.notSynchronized
  subst hsz
  have hD := hD0.self (sz := s.heap.size)
  generalize hAe : va_A [(h0, .inr (8, [.ref t_kinds, .ref t_places, .ref t_values, .ref t_quoted, .ref t_tape, .int t_length, .int t_at, .int t_bracketBehindAll, .int t_faultKind, .int t_faultPlace])), (t_places, .inl (k_t_places, 1202, .inl f_t_places))] s.heap.size = A at hD ⊢
  have hA : ∀ q : Nat, s.heap.size ≤ q → A q := fun q h => by rw [← hAe]; exact Or.inr h
  have hS : va_S A s.heap s.heap [] := va_S.rf
  have hP : va_P (dC, dI) vwCl [(h0, .inr (8, [.ref t_kinds, .ref t_places, .ref t_values, .ref t_quoted, .ref t_tape, .int t_length, .int t_at, .int t_bracketBehindAll, .int t_faultKind, .int t_faultPlace])), (t_places, .inl (k_t_places, 1202, .inl f_t_places))] s.heap := hP
  have hl := lv_entry ([.ref h0, .int a1, .int a2]) (n := 4) (Nat.le_of_ble_eq_true rfl)
  rw [lg_entry_eq]
  generalize (lg_sl ([.ref h0, .int a1, .int a2]) ++ List.replicate (4 - (lg_sl ([.ref h0, .int a1, .int a2])).length) Slot.unset).toArray = ls at hl ⊢
  have hl : lv_has ls 4 [(0, .ref h0), (1, .int a1), (2, .int a2)] := hl
  refine lv_aload_n hx hb dX8_fail_0 rfl (lv_at hl 0 rfl) ?_
  refine va_get (D := (dC, dI)) (ci := 8) (v := .int t_at) (C := RX8) (T := TX8) (N := 10) hx hb hts (mc_ inX8) hown hK hP 0 rfl rfl 6 (by decide) (hts _ (List.mem_cons_of_mem _ t_291)) (fun _ h9 => h9) rfl dX8_fail_1 ?_
  refine lv_sipush (v := 1200) hx hb dX8_fail_4 (by decide) ?_
  have kc_1200 : (1200 : Int32).toInt = 1200 := by decide
  refine lv_icmp_le (tgt := 31) hx hb dX8_fail_7 (by decide) (fun c_1 => ?_) (fun c_1 => ?_)
  · have fc_1 := le_f c_1
    refine lv_iconst (v := 0) hx hb dX8_fail_31 (by decide) ?_
    refine lv_istore_n (lv' := [(3, .int 0), (0, .ref h0), (1, .int a1), (2, .int a2)]) hx hb dX8_fail_32 rfl hl (by decide) rfl (fun ls hl => ?_)
    refine lv_aload_n hx hb dX8_fail_33 rfl (lv_at hl 1 rfl) ?_
    refine va_get (D := (dC, dI)) (ci := 8) (v := .int t_faultKind) (C := RX8) (T := TX8) (N := 10) hx hb hts (mc_ inX8) hown hK hP 0 rfl rfl 8 (by decide) (hts _ (List.mem_cons_of_mem _ t_295)) (fun _ h9 => h9) rfl dX8_fail_34 ?_
    have kc_0 : (0 : Int32).toInt = 0 := by decide
    refine lv_if_ne (tgt := 73) hx hb dX8_fail_37 (by decide) (fun c_2 => ?_) (fun c_2 => ?_)
    · have fc_2 := neq_f c_2
      refine lv_aload_n hx hb dX8_fail_73 rfl (lv_at hl 1 rfl) ?_
      refine lv_sipush (v := 1201) hx hb dX8_fail_74 (by decide) ?_
      refine va_put (D := (dC, dI)) (ci := 8) (v := .int 1201) (ty := tyX8 6) (C := RX8) (T := TX8) (N := 10) hx hb hts (mc_ inX8) tyX8 tyX8_ok nmX8 hown hK hP hD hS 0 rfl rfl 6 (by decide) (hts _ (List.mem_cons_of_mem _ t_291)) (fun _ h9 => h9) rfl (by decide +kernel) rfl rfl (Nat.le_of_ble_eq_true rfl) dX8_fail_77 (fun H locs hP hD hS => ?_)
      have hP : va_P (dC, dI) vwCl [(h0, .inr (8, [.ref t_kinds, .ref t_places, .ref t_values, .ref t_quoted, .ref t_tape, .int t_length, .int 1201, .int t_bracketBehindAll, .int t_faultKind, .int t_faultPlace])), (t_places, .inl (k_t_places, 1202, .inl f_t_places))] H := hP
      have hD : va_D A [(h0, .inr (8, [.ref t_kinds, .ref t_places, .ref t_values, .ref t_quoted, .ref t_tape, .int t_length, .int 1201, .int t_bracketBehindAll, .int t_faultKind, .int t_faultPlace])), (t_places, .inl (k_t_places, 1202, .inl f_t_places))] := hD
      have hP9 := hP.sub (ws' := [(h0, .inr (8, [.ref t_kinds, .ref t_places, .ref t_values, .ref t_quoted, .ref t_tape, .int t_length, .int 1201, .int t_bracketBehindAll, .int t_faultKind, .int t_faultPlace])), (t_places, .inl (k_t_places, 1202, .inl f_t_places))]) [0, 1] rfl
      have hD9 := hD.sub (ws' := [(h0, .inr (8, [.ref t_kinds, .ref t_places, .ref t_values, .ref t_quoted, .ref t_tape, .int t_length, .int 1201, .int t_bracketBehindAll, .int t_faultKind, .int t_faultPlace])), (t_places, .inl (k_t_places, 1202, .inl f_t_places))]) [0, 1] (by decide) rfl
      have hK9 := hK.sub (tys' := [(k_t_places, .int)]) [0] rfl
      refine W.widen (k := 0) (n := 0) (Nat.le_of_ble_eq_true rfl) (Nat.le_of_ble_eq_true rfl) ?_
      exact W.vret hx hb hr (fun t ht hW => ⟨⟨(), rfl, trivial, t_faultKind, t_faultPlace, by rw [ht]; exact hP9, va_K.moved hW.alike hK9, hD9⟩, hS.F ht⟩) hS.2.2 dX8_fail_80
    · have fc_2 := eq_f c_2
      refine lv_aload_n hx hb dX8_fail_40 rfl (lv_at hl 1 rfl) ?_
      refine lv_iload_n hx hb dX8_fail_41 rfl (lv_at hl 0 rfl) ?_
      refine lv_if_eq (tgt := 49) hx hb dX8_fail_42 (by decide) (fun c_ => ?_) (fun c_ => absurd (by decide) c_)
      refine lv_iload_n hx hb dX8_fail_49 rfl (lv_at hl 2 rfl) ?_
      refine va_put (D := (dC, dI)) (ci := 8) (v := .int a1) (ty := tyX8 8) (C := RX8) (T := TX8) (N := 10) hx hb hts (mc_ inX8) tyX8 tyX8_ok nmX8 hown hK hP hD hS 0 rfl rfl 8 (by decide) (hts _ (List.mem_cons_of_mem _ t_295)) (fun _ h9 => h9) rfl (by decide +kernel) rfl rfl (Nat.le_of_ble_eq_true rfl) dX8_fail_50 (fun H locs hP hD hS => ?_)
      have hP : va_P (dC, dI) vwCl [(h0, .inr (8, [.ref t_kinds, .ref t_places, .ref t_values, .ref t_quoted, .ref t_tape, .int t_length, .int t_at, .int t_bracketBehindAll, .int a1, .int t_faultPlace])), (t_places, .inl (k_t_places, 1202, .inl f_t_places))] H := hP
      have hD : va_D A [(h0, .inr (8, [.ref t_kinds, .ref t_places, .ref t_values, .ref t_quoted, .ref t_tape, .int t_length, .int t_at, .int t_bracketBehindAll, .int a1, .int t_faultPlace])), (t_places, .inl (k_t_places, 1202, .inl f_t_places))] := hD
      refine lv_aload_n hx hb dX8_fail_53 rfl (lv_at hl 1 rfl) ?_
      refine lv_iload_n hx hb dX8_fail_54 rfl (lv_at hl 0 rfl) ?_
      refine lv_if_eq (tgt := 69) hx hb dX8_fail_55 (by decide) (fun c_ => ?_) (fun c_ => absurd (by decide) c_)
      refine lv_iload_n hx hb dX8_fail_69 rfl (lv_at hl 3 rfl) ?_
      refine va_put (D := (dC, dI)) (ci := 8) (v := .int a2) (ty := tyX8 9) (C := RX8) (T := TX8) (N := 10) hx hb hts (mc_ inX8) tyX8 tyX8_ok nmX8 hown hK hP hD hS 0 rfl rfl 9 (by decide) (hts _ (List.mem_cons_of_mem _ t_296)) (fun _ h9 => h9) rfl (by decide +kernel) rfl rfl (Nat.le_of_ble_eq_true rfl) dX8_fail_70 (fun H locs hP hD hS => ?_)
      have hP : va_P (dC, dI) vwCl [(h0, .inr (8, [.ref t_kinds, .ref t_places, .ref t_values, .ref t_quoted, .ref t_tape, .int t_length, .int t_at, .int t_bracketBehindAll, .int a1, .int a2])), (t_places, .inl (k_t_places, 1202, .inl f_t_places))] H := hP
      have hD : va_D A [(h0, .inr (8, [.ref t_kinds, .ref t_places, .ref t_values, .ref t_quoted, .ref t_tape, .int t_length, .int t_at, .int t_bracketBehindAll, .int a1, .int a2])), (t_places, .inl (k_t_places, 1202, .inl f_t_places))] := hD
      refine lv_aload_n hx hb dX8_fail_73 rfl (lv_at hl 1 rfl) ?_
      refine lv_sipush (v := 1201) hx hb dX8_fail_74 (by decide) ?_
      refine va_put (D := (dC, dI)) (ci := 8) (v := .int 1201) (ty := tyX8 6) (C := RX8) (T := TX8) (N := 10) hx hb hts (mc_ inX8) tyX8 tyX8_ok nmX8 hown hK hP hD hS 0 rfl rfl 6 (by decide) (hts _ (List.mem_cons_of_mem _ t_291)) (fun _ h9 => h9) rfl (by decide +kernel) rfl rfl (Nat.le_of_ble_eq_true rfl) dX8_fail_77 (fun H locs hP hD hS => ?_)
      have hP : va_P (dC, dI) vwCl [(h0, .inr (8, [.ref t_kinds, .ref t_places, .ref t_values, .ref t_quoted, .ref t_tape, .int t_length, .int 1201, .int t_bracketBehindAll, .int a1, .int a2])), (t_places, .inl (k_t_places, 1202, .inl f_t_places))] H := hP
      have hD : va_D A [(h0, .inr (8, [.ref t_kinds, .ref t_places, .ref t_values, .ref t_quoted, .ref t_tape, .int t_length, .int 1201, .int t_bracketBehindAll, .int a1, .int a2])), (t_places, .inl (k_t_places, 1202, .inl f_t_places))] := hD
      have hP9 := hP.sub (ws' := [(h0, .inr (8, [.ref t_kinds, .ref t_places, .ref t_values, .ref t_quoted, .ref t_tape, .int t_length, .int 1201, .int t_bracketBehindAll, .int a1, .int a2])), (t_places, .inl (k_t_places, 1202, .inl f_t_places))]) [0, 1] rfl
      have hD9 := hD.sub (ws' := [(h0, .inr (8, [.ref t_kinds, .ref t_places, .ref t_values, .ref t_quoted, .ref t_tape, .int t_length, .int 1201, .int t_bracketBehindAll, .int a1, .int a2])), (t_places, .inl (k_t_places, 1202, .inl f_t_places))]) [0, 1] (by decide) rfl
      have hK9 := hK.sub (tys' := [(k_t_places, .int)]) [0] rfl
      refine W.widen (k := 0) (n := 0) (Nat.le_of_ble_eq_true rfl) (Nat.le_of_ble_eq_true rfl) ?_
      exact W.vret hx hb hr (fun t ht hW => ⟨⟨(), rfl, trivial, a1, a2, by rw [ht]; exact hP9, va_K.moved hW.alike hK9, hD9⟩, hS.F ht⟩) hS.2.2 dX8_fail_80
  · have fc_1 := nle_f c_1
    refine lv_iload_n hx hb dX8_fail_10 rfl (lv_at hl 1 rfl) ?_
    refine lv_iconst (v := 4) hx hb dX8_fail_11 (by decide) ?_
    have kc_4 : (4 : Int32).toInt = 4 := by decide
    refine lv_icmp_gt (tgt := 27) hx hb dX8_fail_12 (by decide) (fun c_3 => ?_) (fun c_3 => ?_)
    · have fc_3 := lt_f c_3
      refine lv_iconst (v := 1) hx hb dX8_fail_27 (by decide) ?_
      refine lv_goto (tgt := 32) hx hb dX8_fail_28 (by decide) ?_
      refine lv_istore_n (lv' := [(3, .int 1), (0, .ref h0), (1, .int a1), (2, .int a2)]) hx hb dX8_fail_32 rfl hl (by decide) rfl (fun ls hl => ?_)
      refine lv_aload_n hx hb dX8_fail_33 rfl (lv_at hl 1 rfl) ?_
      refine va_get (D := (dC, dI)) (ci := 8) (v := .int t_faultKind) (C := RX8) (T := TX8) (N := 10) hx hb hts (mc_ inX8) hown hK hP 0 rfl rfl 8 (by decide) (hts _ (List.mem_cons_of_mem _ t_295)) (fun _ h9 => h9) rfl dX8_fail_34 ?_
      have kc_0 : (0 : Int32).toInt = 0 := by decide
      refine lv_if_ne (tgt := 73) hx hb dX8_fail_37 (by decide) (fun c_4 => ?_) (fun c_4 => ?_)
      · have fc_4 := neq_f c_4
        refine lv_aload_n hx hb dX8_fail_73 rfl (lv_at hl 1 rfl) ?_
        refine lv_sipush (v := 1201) hx hb dX8_fail_74 (by decide) ?_
        refine va_put (D := (dC, dI)) (ci := 8) (v := .int 1201) (ty := tyX8 6) (C := RX8) (T := TX8) (N := 10) hx hb hts (mc_ inX8) tyX8 tyX8_ok nmX8 hown hK hP hD hS 0 rfl rfl 6 (by decide) (hts _ (List.mem_cons_of_mem _ t_291)) (fun _ h9 => h9) rfl (by decide +kernel) rfl rfl (Nat.le_of_ble_eq_true rfl) dX8_fail_77 (fun H locs hP hD hS => ?_)
        have hP : va_P (dC, dI) vwCl [(h0, .inr (8, [.ref t_kinds, .ref t_places, .ref t_values, .ref t_quoted, .ref t_tape, .int t_length, .int 1201, .int t_bracketBehindAll, .int t_faultKind, .int t_faultPlace])), (t_places, .inl (k_t_places, 1202, .inl f_t_places))] H := hP
        have hD : va_D A [(h0, .inr (8, [.ref t_kinds, .ref t_places, .ref t_values, .ref t_quoted, .ref t_tape, .int t_length, .int 1201, .int t_bracketBehindAll, .int t_faultKind, .int t_faultPlace])), (t_places, .inl (k_t_places, 1202, .inl f_t_places))] := hD
        have hP9 := hP.sub (ws' := [(h0, .inr (8, [.ref t_kinds, .ref t_places, .ref t_values, .ref t_quoted, .ref t_tape, .int t_length, .int 1201, .int t_bracketBehindAll, .int t_faultKind, .int t_faultPlace])), (t_places, .inl (k_t_places, 1202, .inl f_t_places))]) [0, 1] rfl
        have hD9 := hD.sub (ws' := [(h0, .inr (8, [.ref t_kinds, .ref t_places, .ref t_values, .ref t_quoted, .ref t_tape, .int t_length, .int 1201, .int t_bracketBehindAll, .int t_faultKind, .int t_faultPlace])), (t_places, .inl (k_t_places, 1202, .inl f_t_places))]) [0, 1] (by decide) rfl
        have hK9 := hK.sub (tys' := [(k_t_places, .int)]) [0] rfl
        refine W.widen (k := 0) (n := 0) (Nat.le_of_ble_eq_true rfl) (Nat.le_of_ble_eq_true rfl) ?_
        exact W.vret hx hb hr (fun t ht hW => ⟨⟨(), rfl, trivial, t_faultKind, t_faultPlace, by rw [ht]; exact hP9, va_K.moved hW.alike hK9, hD9⟩, hS.F ht⟩) hS.2.2 dX8_fail_80
      · have fc_4 := eq_f c_4
        refine lv_aload_n hx hb dX8_fail_40 rfl (lv_at hl 1 rfl) ?_
        refine lv_iload_n hx hb dX8_fail_41 rfl (lv_at hl 0 rfl) ?_
        refine lv_if_eq (tgt := 49) hx hb dX8_fail_42 (by decide) (fun c_ => absurd c_ (by decide)) (fun c_ => ?_)
        refine lv_iconst (v := 4) hx hb dX8_fail_45 (by decide) ?_
        refine lv_goto (tgt := 50) hx hb dX8_fail_46 (by decide) ?_
        refine va_put (D := (dC, dI)) (ci := 8) (v := .int 4) (ty := tyX8 8) (C := RX8) (T := TX8) (N := 10) hx hb hts (mc_ inX8) tyX8 tyX8_ok nmX8 hown hK hP hD hS 0 rfl rfl 8 (by decide) (hts _ (List.mem_cons_of_mem _ t_295)) (fun _ h9 => h9) rfl (by decide +kernel) rfl rfl (Nat.le_of_ble_eq_true rfl) dX8_fail_50 (fun H locs hP hD hS => ?_)
        have hP : va_P (dC, dI) vwCl [(h0, .inr (8, [.ref t_kinds, .ref t_places, .ref t_values, .ref t_quoted, .ref t_tape, .int t_length, .int t_at, .int t_bracketBehindAll, .int 4, .int t_faultPlace])), (t_places, .inl (k_t_places, 1202, .inl f_t_places))] H := hP
        have hD : va_D A [(h0, .inr (8, [.ref t_kinds, .ref t_places, .ref t_values, .ref t_quoted, .ref t_tape, .int t_length, .int t_at, .int t_bracketBehindAll, .int 4, .int t_faultPlace])), (t_places, .inl (k_t_places, 1202, .inl f_t_places))] := hD
        refine lv_aload_n hx hb dX8_fail_53 rfl (lv_at hl 1 rfl) ?_
        refine lv_iload_n hx hb dX8_fail_54 rfl (lv_at hl 0 rfl) ?_
        refine lv_if_eq (tgt := 69) hx hb dX8_fail_55 (by decide) (fun c_ => absurd c_ (by decide)) (fun c_ => ?_)
        refine lv_aload_n hx hb dX8_fail_58 rfl (lv_at hl 1 rfl) ?_
        refine va_get (D := (dC, dI)) (ci := 8) (v := .ref t_places) (C := RX8) (T := TX8) (N := 10) hx hb hts (mc_ inX8) hown hK hP 0 rfl rfl 1 (by decide) (hts _ (List.mem_cons_of_mem _ t_286)) (fun _ h9 => h9) rfl dX8_fail_59 ?_
        refine lv_sipush (v := 1200) hx hb dX8_fail_62 (by decide) ?_
        refine va_iald hx hb hK hP 1 0 rfl rfl (by unfold vp_in; decide) dX8_fail_65 ?_
        refine lv_topi (fun y_5 ey_5 => ?_)
        refine lv_goto (tgt := 70) hx hb dX8_fail_66 (by decide) ?_
        refine va_put (D := (dC, dI)) (ci := 8) (v := .int y_5) (ty := tyX8 9) (C := RX8) (T := TX8) (N := 10) hx hb hts (mc_ inX8) tyX8 tyX8_ok nmX8 hown hK hP hD hS 0 rfl rfl 9 (by decide) (hts _ (List.mem_cons_of_mem _ t_296)) (fun _ h9 => h9) rfl (by decide +kernel) rfl rfl (Nat.le_of_ble_eq_true rfl) dX8_fail_70 (fun H locs hP hD hS => ?_)
        have hP : va_P (dC, dI) vwCl [(h0, .inr (8, [.ref t_kinds, .ref t_places, .ref t_values, .ref t_quoted, .ref t_tape, .int t_length, .int t_at, .int t_bracketBehindAll, .int 4, .int y_5])), (t_places, .inl (k_t_places, 1202, .inl f_t_places))] H := hP
        have hD : va_D A [(h0, .inr (8, [.ref t_kinds, .ref t_places, .ref t_values, .ref t_quoted, .ref t_tape, .int t_length, .int t_at, .int t_bracketBehindAll, .int 4, .int y_5])), (t_places, .inl (k_t_places, 1202, .inl f_t_places))] := hD
        refine lv_aload_n hx hb dX8_fail_73 rfl (lv_at hl 1 rfl) ?_
        refine lv_sipush (v := 1201) hx hb dX8_fail_74 (by decide) ?_
        refine va_put (D := (dC, dI)) (ci := 8) (v := .int 1201) (ty := tyX8 6) (C := RX8) (T := TX8) (N := 10) hx hb hts (mc_ inX8) tyX8 tyX8_ok nmX8 hown hK hP hD hS 0 rfl rfl 6 (by decide) (hts _ (List.mem_cons_of_mem _ t_291)) (fun _ h9 => h9) rfl (by decide +kernel) rfl rfl (Nat.le_of_ble_eq_true rfl) dX8_fail_77 (fun H locs hP hD hS => ?_)
        have hP : va_P (dC, dI) vwCl [(h0, .inr (8, [.ref t_kinds, .ref t_places, .ref t_values, .ref t_quoted, .ref t_tape, .int t_length, .int 1201, .int t_bracketBehindAll, .int 4, .int y_5])), (t_places, .inl (k_t_places, 1202, .inl f_t_places))] H := hP
        have hD : va_D A [(h0, .inr (8, [.ref t_kinds, .ref t_places, .ref t_values, .ref t_quoted, .ref t_tape, .int t_length, .int 1201, .int t_bracketBehindAll, .int 4, .int y_5])), (t_places, .inl (k_t_places, 1202, .inl f_t_places))] := hD
        have hP9 := hP.sub (ws' := [(h0, .inr (8, [.ref t_kinds, .ref t_places, .ref t_values, .ref t_quoted, .ref t_tape, .int t_length, .int 1201, .int t_bracketBehindAll, .int 4, .int y_5])), (t_places, .inl (k_t_places, 1202, .inl f_t_places))]) [0, 1] rfl
        have hD9 := hD.sub (ws' := [(h0, .inr (8, [.ref t_kinds, .ref t_places, .ref t_values, .ref t_quoted, .ref t_tape, .int t_length, .int 1201, .int t_bracketBehindAll, .int 4, .int y_5])), (t_places, .inl (k_t_places, 1202, .inl f_t_places))]) [0, 1] (by decide) rfl
        have hK9 := hK.sub (tys' := [(k_t_places, .int)]) [0] rfl
        refine W.widen (k := 0) (n := 0) (Nat.le_of_ble_eq_true rfl) (Nat.le_of_ble_eq_true rfl) ?_
        exact W.vret hx hb hr (fun t ht hW => ⟨⟨(), rfl, trivial, 4, y_5, by rw [ht]; exact hP9, va_K.moved hW.alike hK9, hD9⟩, hS.F ht⟩) hS.2.2 dX8_fail_80
    · have fc_3 := nlt_f c_3
      refine lv_iload_n hx hb dX8_fail_15 rfl (lv_at hl 2 rfl) ?_
      refine lv_aload_n hx hb dX8_fail_16 rfl (lv_at hl 0 rfl) ?_
      refine va_get (D := (dC, dI)) (ci := 8) (v := .ref t_places) (C := RX8) (T := TX8) (N := 10) hx hb hts (mc_ inX8) hown hK hP 0 rfl rfl 1 (by decide) (hts _ (List.mem_cons_of_mem _ t_286)) (fun _ h9 => h9) rfl dX8_fail_17 ?_
      refine lv_sipush (v := 1200) hx hb dX8_fail_20 (by decide) ?_
      refine va_iald hx hb hK hP 1 0 rfl rfl (by unfold vp_in; decide) dX8_fail_23 ?_
      refine lv_topi (fun y_6 ey_6 => ?_)
      refine lv_icmp_eq (tgt := 31) hx hb dX8_fail_24 (by decide) (fun c_7 => ?_) (fun c_7 => ?_)
      · have fc_7 := eq_f c_7
        refine lv_iconst (v := 0) hx hb dX8_fail_31 (by decide) ?_
        refine lv_istore_n (lv' := [(3, .int 0), (0, .ref h0), (1, .int a1), (2, .int a2)]) hx hb dX8_fail_32 rfl hl (by decide) rfl (fun ls hl => ?_)
        refine lv_aload_n hx hb dX8_fail_33 rfl (lv_at hl 1 rfl) ?_
        refine va_get (D := (dC, dI)) (ci := 8) (v := .int t_faultKind) (C := RX8) (T := TX8) (N := 10) hx hb hts (mc_ inX8) hown hK hP 0 rfl rfl 8 (by decide) (hts _ (List.mem_cons_of_mem _ t_295)) (fun _ h9 => h9) rfl dX8_fail_34 ?_
        have kc_0 : (0 : Int32).toInt = 0 := by decide
        refine lv_if_ne (tgt := 73) hx hb dX8_fail_37 (by decide) (fun c_8 => ?_) (fun c_8 => ?_)
        · have fc_8 := neq_f c_8
          refine lv_aload_n hx hb dX8_fail_73 rfl (lv_at hl 1 rfl) ?_
          refine lv_sipush (v := 1201) hx hb dX8_fail_74 (by decide) ?_
          refine va_put (D := (dC, dI)) (ci := 8) (v := .int 1201) (ty := tyX8 6) (C := RX8) (T := TX8) (N := 10) hx hb hts (mc_ inX8) tyX8 tyX8_ok nmX8 hown hK hP hD hS 0 rfl rfl 6 (by decide) (hts _ (List.mem_cons_of_mem _ t_291)) (fun _ h9 => h9) rfl (by decide +kernel) rfl rfl (Nat.le_of_ble_eq_true rfl) dX8_fail_77 (fun H locs hP hD hS => ?_)
          have hP : va_P (dC, dI) vwCl [(h0, .inr (8, [.ref t_kinds, .ref t_places, .ref t_values, .ref t_quoted, .ref t_tape, .int t_length, .int 1201, .int t_bracketBehindAll, .int t_faultKind, .int t_faultPlace])), (t_places, .inl (k_t_places, 1202, .inl f_t_places))] H := hP
          have hD : va_D A [(h0, .inr (8, [.ref t_kinds, .ref t_places, .ref t_values, .ref t_quoted, .ref t_tape, .int t_length, .int 1201, .int t_bracketBehindAll, .int t_faultKind, .int t_faultPlace])), (t_places, .inl (k_t_places, 1202, .inl f_t_places))] := hD
          have hP9 := hP.sub (ws' := [(h0, .inr (8, [.ref t_kinds, .ref t_places, .ref t_values, .ref t_quoted, .ref t_tape, .int t_length, .int 1201, .int t_bracketBehindAll, .int t_faultKind, .int t_faultPlace])), (t_places, .inl (k_t_places, 1202, .inl f_t_places))]) [0, 1] rfl
          have hD9 := hD.sub (ws' := [(h0, .inr (8, [.ref t_kinds, .ref t_places, .ref t_values, .ref t_quoted, .ref t_tape, .int t_length, .int 1201, .int t_bracketBehindAll, .int t_faultKind, .int t_faultPlace])), (t_places, .inl (k_t_places, 1202, .inl f_t_places))]) [0, 1] (by decide) rfl
          have hK9 := hK.sub (tys' := [(k_t_places, .int)]) [0] rfl
          refine W.widen (k := 0) (n := 0) (Nat.le_of_ble_eq_true rfl) (Nat.le_of_ble_eq_true rfl) ?_
          exact W.vret hx hb hr (fun t ht hW => ⟨⟨(), rfl, trivial, t_faultKind, t_faultPlace, by rw [ht]; exact hP9, va_K.moved hW.alike hK9, hD9⟩, hS.F ht⟩) hS.2.2 dX8_fail_80
        · have fc_8 := eq_f c_8
          refine lv_aload_n hx hb dX8_fail_40 rfl (lv_at hl 1 rfl) ?_
          refine lv_iload_n hx hb dX8_fail_41 rfl (lv_at hl 0 rfl) ?_
          refine lv_if_eq (tgt := 49) hx hb dX8_fail_42 (by decide) (fun c_ => ?_) (fun c_ => absurd (by decide) c_)
          refine lv_iload_n hx hb dX8_fail_49 rfl (lv_at hl 2 rfl) ?_
          refine va_put (D := (dC, dI)) (ci := 8) (v := .int a1) (ty := tyX8 8) (C := RX8) (T := TX8) (N := 10) hx hb hts (mc_ inX8) tyX8 tyX8_ok nmX8 hown hK hP hD hS 0 rfl rfl 8 (by decide) (hts _ (List.mem_cons_of_mem _ t_295)) (fun _ h9 => h9) rfl (by decide +kernel) rfl rfl (Nat.le_of_ble_eq_true rfl) dX8_fail_50 (fun H locs hP hD hS => ?_)
          have hP : va_P (dC, dI) vwCl [(h0, .inr (8, [.ref t_kinds, .ref t_places, .ref t_values, .ref t_quoted, .ref t_tape, .int t_length, .int t_at, .int t_bracketBehindAll, .int a1, .int t_faultPlace])), (t_places, .inl (k_t_places, 1202, .inl f_t_places))] H := hP
          have hD : va_D A [(h0, .inr (8, [.ref t_kinds, .ref t_places, .ref t_values, .ref t_quoted, .ref t_tape, .int t_length, .int t_at, .int t_bracketBehindAll, .int a1, .int t_faultPlace])), (t_places, .inl (k_t_places, 1202, .inl f_t_places))] := hD
          refine lv_aload_n hx hb dX8_fail_53 rfl (lv_at hl 1 rfl) ?_
          refine lv_iload_n hx hb dX8_fail_54 rfl (lv_at hl 0 rfl) ?_
          refine lv_if_eq (tgt := 69) hx hb dX8_fail_55 (by decide) (fun c_ => ?_) (fun c_ => absurd (by decide) c_)
          refine lv_iload_n hx hb dX8_fail_69 rfl (lv_at hl 3 rfl) ?_
          refine va_put (D := (dC, dI)) (ci := 8) (v := .int a2) (ty := tyX8 9) (C := RX8) (T := TX8) (N := 10) hx hb hts (mc_ inX8) tyX8 tyX8_ok nmX8 hown hK hP hD hS 0 rfl rfl 9 (by decide) (hts _ (List.mem_cons_of_mem _ t_296)) (fun _ h9 => h9) rfl (by decide +kernel) rfl rfl (Nat.le_of_ble_eq_true rfl) dX8_fail_70 (fun H locs hP hD hS => ?_)
          have hP : va_P (dC, dI) vwCl [(h0, .inr (8, [.ref t_kinds, .ref t_places, .ref t_values, .ref t_quoted, .ref t_tape, .int t_length, .int t_at, .int t_bracketBehindAll, .int a1, .int a2])), (t_places, .inl (k_t_places, 1202, .inl f_t_places))] H := hP
          have hD : va_D A [(h0, .inr (8, [.ref t_kinds, .ref t_places, .ref t_values, .ref t_quoted, .ref t_tape, .int t_length, .int t_at, .int t_bracketBehindAll, .int a1, .int a2])), (t_places, .inl (k_t_places, 1202, .inl f_t_places))] := hD
          refine lv_aload_n hx hb dX8_fail_73 rfl (lv_at hl 1 rfl) ?_
          refine lv_sipush (v := 1201) hx hb dX8_fail_74 (by decide) ?_
          refine va_put (D := (dC, dI)) (ci := 8) (v := .int 1201) (ty := tyX8 6) (C := RX8) (T := TX8) (N := 10) hx hb hts (mc_ inX8) tyX8 tyX8_ok nmX8 hown hK hP hD hS 0 rfl rfl 6 (by decide) (hts _ (List.mem_cons_of_mem _ t_291)) (fun _ h9 => h9) rfl (by decide +kernel) rfl rfl (Nat.le_of_ble_eq_true rfl) dX8_fail_77 (fun H locs hP hD hS => ?_)
          have hP : va_P (dC, dI) vwCl [(h0, .inr (8, [.ref t_kinds, .ref t_places, .ref t_values, .ref t_quoted, .ref t_tape, .int t_length, .int 1201, .int t_bracketBehindAll, .int a1, .int a2])), (t_places, .inl (k_t_places, 1202, .inl f_t_places))] H := hP
          have hD : va_D A [(h0, .inr (8, [.ref t_kinds, .ref t_places, .ref t_values, .ref t_quoted, .ref t_tape, .int t_length, .int 1201, .int t_bracketBehindAll, .int a1, .int a2])), (t_places, .inl (k_t_places, 1202, .inl f_t_places))] := hD
          have hP9 := hP.sub (ws' := [(h0, .inr (8, [.ref t_kinds, .ref t_places, .ref t_values, .ref t_quoted, .ref t_tape, .int t_length, .int 1201, .int t_bracketBehindAll, .int a1, .int a2])), (t_places, .inl (k_t_places, 1202, .inl f_t_places))]) [0, 1] rfl
          have hD9 := hD.sub (ws' := [(h0, .inr (8, [.ref t_kinds, .ref t_places, .ref t_values, .ref t_quoted, .ref t_tape, .int t_length, .int 1201, .int t_bracketBehindAll, .int a1, .int a2])), (t_places, .inl (k_t_places, 1202, .inl f_t_places))]) [0, 1] (by decide) rfl
          have hK9 := hK.sub (tys' := [(k_t_places, .int)]) [0] rfl
          refine W.widen (k := 0) (n := 0) (Nat.le_of_ble_eq_true rfl) (Nat.le_of_ble_eq_true rfl) ?_
          exact W.vret hx hb hr (fun t ht hW => ⟨⟨(), rfl, trivial, a1, a2, by rw [ht]; exact hP9, va_K.moved hW.alike hK9, hD9⟩, hS.F ht⟩) hS.2.2 dX8_fail_80
      · have fc_7 := neq_f c_7
        refine lv_iconst (v := 1) hx hb dX8_fail_27 (by decide) ?_
        refine lv_goto (tgt := 32) hx hb dX8_fail_28 (by decide) ?_
        refine lv_istore_n (lv' := [(3, .int 1), (0, .ref h0), (1, .int a1), (2, .int a2)]) hx hb dX8_fail_32 rfl hl (by decide) rfl (fun ls hl => ?_)
        refine lv_aload_n hx hb dX8_fail_33 rfl (lv_at hl 1 rfl) ?_
        refine va_get (D := (dC, dI)) (ci := 8) (v := .int t_faultKind) (C := RX8) (T := TX8) (N := 10) hx hb hts (mc_ inX8) hown hK hP 0 rfl rfl 8 (by decide) (hts _ (List.mem_cons_of_mem _ t_295)) (fun _ h9 => h9) rfl dX8_fail_34 ?_
        have kc_0 : (0 : Int32).toInt = 0 := by decide
        refine lv_if_ne (tgt := 73) hx hb dX8_fail_37 (by decide) (fun c_9 => ?_) (fun c_9 => ?_)
        · have fc_9 := neq_f c_9
          refine lv_aload_n hx hb dX8_fail_73 rfl (lv_at hl 1 rfl) ?_
          refine lv_sipush (v := 1201) hx hb dX8_fail_74 (by decide) ?_
          refine va_put (D := (dC, dI)) (ci := 8) (v := .int 1201) (ty := tyX8 6) (C := RX8) (T := TX8) (N := 10) hx hb hts (mc_ inX8) tyX8 tyX8_ok nmX8 hown hK hP hD hS 0 rfl rfl 6 (by decide) (hts _ (List.mem_cons_of_mem _ t_291)) (fun _ h9 => h9) rfl (by decide +kernel) rfl rfl (Nat.le_of_ble_eq_true rfl) dX8_fail_77 (fun H locs hP hD hS => ?_)
          have hP : va_P (dC, dI) vwCl [(h0, .inr (8, [.ref t_kinds, .ref t_places, .ref t_values, .ref t_quoted, .ref t_tape, .int t_length, .int 1201, .int t_bracketBehindAll, .int t_faultKind, .int t_faultPlace])), (t_places, .inl (k_t_places, 1202, .inl f_t_places))] H := hP
          have hD : va_D A [(h0, .inr (8, [.ref t_kinds, .ref t_places, .ref t_values, .ref t_quoted, .ref t_tape, .int t_length, .int 1201, .int t_bracketBehindAll, .int t_faultKind, .int t_faultPlace])), (t_places, .inl (k_t_places, 1202, .inl f_t_places))] := hD
          have hP9 := hP.sub (ws' := [(h0, .inr (8, [.ref t_kinds, .ref t_places, .ref t_values, .ref t_quoted, .ref t_tape, .int t_length, .int 1201, .int t_bracketBehindAll, .int t_faultKind, .int t_faultPlace])), (t_places, .inl (k_t_places, 1202, .inl f_t_places))]) [0, 1] rfl
          have hD9 := hD.sub (ws' := [(h0, .inr (8, [.ref t_kinds, .ref t_places, .ref t_values, .ref t_quoted, .ref t_tape, .int t_length, .int 1201, .int t_bracketBehindAll, .int t_faultKind, .int t_faultPlace])), (t_places, .inl (k_t_places, 1202, .inl f_t_places))]) [0, 1] (by decide) rfl
          have hK9 := hK.sub (tys' := [(k_t_places, .int)]) [0] rfl
          refine W.widen (k := 0) (n := 0) (Nat.le_of_ble_eq_true rfl) (Nat.le_of_ble_eq_true rfl) ?_
          exact W.vret hx hb hr (fun t ht hW => ⟨⟨(), rfl, trivial, t_faultKind, t_faultPlace, by rw [ht]; exact hP9, va_K.moved hW.alike hK9, hD9⟩, hS.F ht⟩) hS.2.2 dX8_fail_80
        · have fc_9 := eq_f c_9
          refine lv_aload_n hx hb dX8_fail_40 rfl (lv_at hl 1 rfl) ?_
          refine lv_iload_n hx hb dX8_fail_41 rfl (lv_at hl 0 rfl) ?_
          refine lv_if_eq (tgt := 49) hx hb dX8_fail_42 (by decide) (fun c_ => absurd c_ (by decide)) (fun c_ => ?_)
          refine lv_iconst (v := 4) hx hb dX8_fail_45 (by decide) ?_
          refine lv_goto (tgt := 50) hx hb dX8_fail_46 (by decide) ?_
          refine va_put (D := (dC, dI)) (ci := 8) (v := .int 4) (ty := tyX8 8) (C := RX8) (T := TX8) (N := 10) hx hb hts (mc_ inX8) tyX8 tyX8_ok nmX8 hown hK hP hD hS 0 rfl rfl 8 (by decide) (hts _ (List.mem_cons_of_mem _ t_295)) (fun _ h9 => h9) rfl (by decide +kernel) rfl rfl (Nat.le_of_ble_eq_true rfl) dX8_fail_50 (fun H locs hP hD hS => ?_)
          have hP : va_P (dC, dI) vwCl [(h0, .inr (8, [.ref t_kinds, .ref t_places, .ref t_values, .ref t_quoted, .ref t_tape, .int t_length, .int t_at, .int t_bracketBehindAll, .int 4, .int t_faultPlace])), (t_places, .inl (k_t_places, 1202, .inl f_t_places))] H := hP
          have hD : va_D A [(h0, .inr (8, [.ref t_kinds, .ref t_places, .ref t_values, .ref t_quoted, .ref t_tape, .int t_length, .int t_at, .int t_bracketBehindAll, .int 4, .int t_faultPlace])), (t_places, .inl (k_t_places, 1202, .inl f_t_places))] := hD
          refine lv_aload_n hx hb dX8_fail_53 rfl (lv_at hl 1 rfl) ?_
          refine lv_iload_n hx hb dX8_fail_54 rfl (lv_at hl 0 rfl) ?_
          refine lv_if_eq (tgt := 69) hx hb dX8_fail_55 (by decide) (fun c_ => absurd c_ (by decide)) (fun c_ => ?_)
          refine lv_aload_n hx hb dX8_fail_58 rfl (lv_at hl 1 rfl) ?_
          refine va_get (D := (dC, dI)) (ci := 8) (v := .ref t_places) (C := RX8) (T := TX8) (N := 10) hx hb hts (mc_ inX8) hown hK hP 0 rfl rfl 1 (by decide) (hts _ (List.mem_cons_of_mem _ t_286)) (fun _ h9 => h9) rfl dX8_fail_59 ?_
          refine lv_sipush (v := 1200) hx hb dX8_fail_62 (by decide) ?_
          refine va_iald hx hb hK hP 1 0 rfl rfl (by unfold vp_in; decide) dX8_fail_65 ?_
          refine lv_topi (fun y_10 ey_10 => ?_)
          refine lv_goto (tgt := 70) hx hb dX8_fail_66 (by decide) ?_
          refine va_put (D := (dC, dI)) (ci := 8) (v := .int y_10) (ty := tyX8 9) (C := RX8) (T := TX8) (N := 10) hx hb hts (mc_ inX8) tyX8 tyX8_ok nmX8 hown hK hP hD hS 0 rfl rfl 9 (by decide) (hts _ (List.mem_cons_of_mem _ t_296)) (fun _ h9 => h9) rfl (by decide +kernel) rfl rfl (Nat.le_of_ble_eq_true rfl) dX8_fail_70 (fun H locs hP hD hS => ?_)
          have hP : va_P (dC, dI) vwCl [(h0, .inr (8, [.ref t_kinds, .ref t_places, .ref t_values, .ref t_quoted, .ref t_tape, .int t_length, .int t_at, .int t_bracketBehindAll, .int 4, .int y_10])), (t_places, .inl (k_t_places, 1202, .inl f_t_places))] H := hP
          have hD : va_D A [(h0, .inr (8, [.ref t_kinds, .ref t_places, .ref t_values, .ref t_quoted, .ref t_tape, .int t_length, .int t_at, .int t_bracketBehindAll, .int 4, .int y_10])), (t_places, .inl (k_t_places, 1202, .inl f_t_places))] := hD
          refine lv_aload_n hx hb dX8_fail_73 rfl (lv_at hl 1 rfl) ?_
          refine lv_sipush (v := 1201) hx hb dX8_fail_74 (by decide) ?_
          refine va_put (D := (dC, dI)) (ci := 8) (v := .int 1201) (ty := tyX8 6) (C := RX8) (T := TX8) (N := 10) hx hb hts (mc_ inX8) tyX8 tyX8_ok nmX8 hown hK hP hD hS 0 rfl rfl 6 (by decide) (hts _ (List.mem_cons_of_mem _ t_291)) (fun _ h9 => h9) rfl (by decide +kernel) rfl rfl (Nat.le_of_ble_eq_true rfl) dX8_fail_77 (fun H locs hP hD hS => ?_)
          have hP : va_P (dC, dI) vwCl [(h0, .inr (8, [.ref t_kinds, .ref t_places, .ref t_values, .ref t_quoted, .ref t_tape, .int t_length, .int 1201, .int t_bracketBehindAll, .int 4, .int y_10])), (t_places, .inl (k_t_places, 1202, .inl f_t_places))] H := hP
          have hD : va_D A [(h0, .inr (8, [.ref t_kinds, .ref t_places, .ref t_values, .ref t_quoted, .ref t_tape, .int t_length, .int 1201, .int t_bracketBehindAll, .int 4, .int y_10])), (t_places, .inl (k_t_places, 1202, .inl f_t_places))] := hD
          have hP9 := hP.sub (ws' := [(h0, .inr (8, [.ref t_kinds, .ref t_places, .ref t_values, .ref t_quoted, .ref t_tape, .int t_length, .int 1201, .int t_bracketBehindAll, .int 4, .int y_10])), (t_places, .inl (k_t_places, 1202, .inl f_t_places))]) [0, 1] rfl
          have hD9 := hD.sub (ws' := [(h0, .inr (8, [.ref t_kinds, .ref t_places, .ref t_values, .ref t_quoted, .ref t_tape, .int t_length, .int 1201, .int t_bracketBehindAll, .int 4, .int y_10])), (t_places, .inl (k_t_places, 1202, .inl f_t_places))]) [0, 1] (by decide) rfl
          have hK9 := hK.sub (tys' := [(k_t_places, .int)]) [0] rfl
          refine W.widen (k := 0) (n := 0) (Nat.le_of_ble_eq_true rfl) (Nat.le_of_ble_eq_true rfl) ?_
          exact W.vret hx hb hr (fun t ht hW => ⟨⟨(), rfl, trivial, 4, y_10, by rw [ht]; exact hP9, va_K.moved hW.alike hK9, hD9⟩, hS.F ht⟩) hS.2.2 dX8_fail_80
set_option maxHeartbeats 4000000 in
set_option maxRecDepth 100000 in
theorem s_X8_atBracket (l : Launch) (dC : Nat → ClassId) (dI : Nat → Nat → Nat) (h0 : Nat) (t_kinds : Nat) (t_places : Nat) (t_values : Nat) (t_quoted : Nat) (t_tape : Nat) (t_length : Int32) (t_at : Int32) (t_bracketBehindAll : Int32) (t_faultKind : Int32) (t_faultPlace : Int32) (k_t_kinds : ClassId) (f_t_kinds : Nat → Int32) (hb_t_length : 0 ≤ t_length.toInt ∧ t_length.toInt ≤ 4000) (hb_t_at : 0 ≤ t_at.toInt ∧ t_at.toInt ≤ 1201) (hb_t_bracketBehindAll : 0 ≤ t_bracketBehindAll.toInt ∧ t_bracketBehindAll.toInt ≤ 1) (sz : Nat) : Met l yX8_atBracket (.code yX8_atBracket cX8_atBracket 1 (some .boolean) :: lw_g) ({ frames := 0, cells := 0, slots := 0, locals := 0 }) (va_Pc [.ref h0] (fun U => U.heap.size = sz ∧ va_P (dC, dI) vwCl [(h0, .inr (8, [.ref t_kinds, .ref t_places, .ref t_values, .ref t_quoted, .ref t_tape, .int t_length, .int t_at, .int t_bracketBehindAll, .int t_faultKind, .int t_faultPlace])), (t_kinds, .inl (k_t_kinds, 1202, .inl f_t_kinds))] U.heap ∧ va_K (dC, dI) vwCl [(k_t_kinds, .int)] U ∧ va_D (fun _ => True) [(h0, .inr (8, [.ref t_kinds, .ref t_places, .ref t_values, .ref t_quoted, .ref t_tape, .int t_length, .int t_at, .int t_bracketBehindAll, .int t_faultKind, .int t_faultPlace])), (t_kinds, .inl (k_t_kinds, 1202, .inl f_t_kinds))])) (va_Qi (fun (r : Int32) (_ : Unit) => True) (fun (_ : Unit) (t : State) => va_P (dC, dI) vwCl [(h0, .inr (8, [.ref t_kinds, .ref t_places, .ref t_values, .ref t_quoted, .ref t_tape, .int t_length, .int t_at, .int t_bracketBehindAll, .int t_faultKind, .int t_faultPlace])), (t_kinds, .inl (k_t_kinds, 1202, .inl f_t_kinds))] t.heap ∧ va_K (dC, dI) vwCl [(k_t_kinds, .int)] t ∧ va_D (va_A [(h0, .inr (8, [.ref t_kinds, .ref t_places, .ref t_values, .ref t_quoted, .ref t_tape, .int t_length, .int t_at, .int t_bracketBehindAll, .int t_faultKind, .int t_faultPlace])), (t_kinds, .inl (k_t_kinds, 1202, .inl f_t_kinds))] sz) [(h0, .inr (8, [.ref t_kinds, .ref t_places, .ref t_values, .ref t_quoted, .ref t_tape, .int t_length, .int t_at, .int t_bracketBehindAll, .int t_faultKind, .int t_faultPlace])), (t_kinds, .inl (k_t_kinds, 1202, .inl f_t_kinds))]) (va_A [(h0, .inr (8, [.ref t_kinds, .ref t_places, .ref t_values, .ref t_quoted, .ref t_tape, .int t_length, .int t_at, .int t_bracketBehindAll, .int t_faultKind, .int t_faultPlace])), (t_kinds, .inl (k_t_kinds, 1202, .inl f_t_kinds))] sz)) 0 0 (va_A [(h0, .inr (8, [.ref t_kinds, .ref t_places, .ref t_values, .ref t_quoted, .ref t_tape, .int t_length, .int t_at, .int t_bracketBehindAll, .int t_faultKind, .int t_faultPlace])), (t_kinds, .inl (k_t_kinds, 1202, .inl f_t_kinds))] sz) := by
  refine Met.ofW (cc := cX8_atBracket) (maxL := 1) (ret := (some .boolean)) (by decide) rfl ?_
  intro p e s m args below meth c s₁ B hml hv
  obtain ⟨rfl, hsz, hP, hK, hD0⟩ := hv
  have hx := B.exec
  have hb := B.bytes
  have hr := B.returns
  have hts := atoms_spec (ws := (.code yX8_atBracket cX8_atBracket 1 (some .boolean) :: lw_g)) B.pre
  have hown : s.vm.findClass RX8 = some m.cls := findClass_of_methodNamed B.named
  have hlocks := B.notSynchronized
  subst hsz
  have hD := hD0.self (sz := s.heap.size)
  generalize hAe : va_A [(h0, .inr (8, [.ref t_kinds, .ref t_places, .ref t_values, .ref t_quoted, .ref t_tape, .int t_length, .int t_at, .int t_bracketBehindAll, .int t_faultKind, .int t_faultPlace])), (t_kinds, .inl (k_t_kinds, 1202, .inl f_t_kinds))] s.heap.size = A at hD ⊢
  have hA : ∀ q : Nat, s.heap.size ≤ q → A q := fun q h => by rw [← hAe]; exact Or.inr h
  have hS : va_S A s.heap s.heap [] := va_S.rf
  have hP : va_P (dC, dI) vwCl [(h0, .inr (8, [.ref t_kinds, .ref t_places, .ref t_values, .ref t_quoted, .ref t_tape, .int t_length, .int t_at, .int t_bracketBehindAll, .int t_faultKind, .int t_faultPlace])), (t_kinds, .inl (k_t_kinds, 1202, .inl f_t_kinds))] s.heap := hP
  have hl := lv_entry ([.ref h0]) (n := 1) (Nat.le_of_ble_eq_true rfl)
  rw [lg_entry_eq]
  generalize (lg_sl ([.ref h0]) ++ List.replicate (1 - (lg_sl ([.ref h0])).length) Slot.unset).toArray = ls at hl ⊢
  have hl : lv_has ls 1 [(0, .ref h0)] := hl
  refine lv_aload_n hx hb dX8_atBracket_0 rfl (lv_at hl 0 rfl) ?_
  refine va_get (D := (dC, dI)) (ci := 8) (v := .int t_at) (C := RX8) (T := TX8) (N := 10) hx hb hts (mc_ inX8) hown hK hP 0 rfl rfl 6 (by decide) (hts _ (List.mem_cons_of_mem _ t_291)) (fun _ h9 => h9) rfl dX8_atBracket_1 ?_
  refine lv_sipush (v := 1200) hx hb dX8_atBracket_4 (by decide) ?_
  have kc_1200 : (1200 : Int32).toInt = 1200 := by decide
  refine lv_icmp_le (tgt := 17) hx hb dX8_atBracket_7 (by decide) (fun c_1 => ?_) (fun c_1 => ?_)
  · have fc_1 := le_f c_1
    refine lv_aload_n hx hb dX8_atBracket_17 rfl (lv_at hl 0 rfl) ?_
    refine va_get (D := (dC, dI)) (ci := 8) (v := .ref t_kinds) (C := RX8) (T := TX8) (N := 10) hx hb hts (mc_ inX8) hown hK hP 0 rfl rfl 0 (by decide) (hts _ (List.mem_cons_of_mem _ t_285)) (fun _ h9 => h9) rfl dX8_atBracket_18 ?_
    refine lv_aload_n hx hb dX8_atBracket_21 rfl (lv_at hl 0 rfl) ?_
    refine va_get (D := (dC, dI)) (ci := 8) (v := .int t_at) (C := RX8) (T := TX8) (N := 10) hx hb hts (mc_ inX8) hown hK hP 0 rfl rfl 6 (by decide) (hts _ (List.mem_cons_of_mem _ t_291)) (fun _ h9 => h9) rfl dX8_atBracket_22 ?_
    refine va_iald hx hb hK hP 1 0 rfl rfl (in_ok (by omega) (by omega)) dX8_atBracket_25 ?_
    refine lv_topi (fun y_2 ey_2 => ?_)
    refine lv_bipush (v := 40) hx hb dX8_atBracket_26 (by decide) ?_
    have kc_40 : (40 : Int32).toInt = 40 := by decide
    refine lv_icmp_ne (tgt := 35) hx hb dX8_atBracket_28 (by decide) (fun c_3 => ?_) (fun c_3 => ?_)
    · have fc_3 := neq_f c_3
      refine lv_iconst (v := 0) hx hb dX8_atBracket_35 (by decide) ?_
      have hP9 := hP.sub (ws' := [(h0, .inr (8, [.ref t_kinds, .ref t_places, .ref t_values, .ref t_quoted, .ref t_tape, .int t_length, .int t_at, .int t_bracketBehindAll, .int t_faultKind, .int t_faultPlace])), (t_kinds, .inl (k_t_kinds, 1202, .inl f_t_kinds))]) [0, 1] rfl
      have hD9 := hD.sub (ws' := [(h0, .inr (8, [.ref t_kinds, .ref t_places, .ref t_values, .ref t_quoted, .ref t_tape, .int t_length, .int t_at, .int t_bracketBehindAll, .int t_faultKind, .int t_faultPlace])), (t_kinds, .inl (k_t_kinds, 1202, .inl f_t_kinds))]) [0, 1] (by decide) rfl
      have hK9 := hK.sub (tys' := [(k_t_kinds, .int)]) [0] rfl
      refine W.widen (k := 0) (n := 0) (Nat.le_of_ble_eq_true rfl) (Nat.le_of_ble_eq_true rfl) ?_
      exact W.zret (v := 0) hx hb hr rfl (fun t ht hW => ⟨⟨_, (), rfl, trivial, by rw [ht]; exact hP9, va_K.moved hW.alike hK9, hD9⟩, hS.F ht⟩) hS.2.2 dX8_atBracket_36
    · have fc_3 := eq_f c_3
      refine lv_iconst (v := 1) hx hb dX8_atBracket_31 (by decide) ?_
      refine lv_goto (tgt := 36) hx hb dX8_atBracket_32 (by decide) ?_
      have hP9 := hP.sub (ws' := [(h0, .inr (8, [.ref t_kinds, .ref t_places, .ref t_values, .ref t_quoted, .ref t_tape, .int t_length, .int t_at, .int t_bracketBehindAll, .int t_faultKind, .int t_faultPlace])), (t_kinds, .inl (k_t_kinds, 1202, .inl f_t_kinds))]) [0, 1] rfl
      have hD9 := hD.sub (ws' := [(h0, .inr (8, [.ref t_kinds, .ref t_places, .ref t_values, .ref t_quoted, .ref t_tape, .int t_length, .int t_at, .int t_bracketBehindAll, .int t_faultKind, .int t_faultPlace])), (t_kinds, .inl (k_t_kinds, 1202, .inl f_t_kinds))]) [0, 1] (by decide) rfl
      have hK9 := hK.sub (tys' := [(k_t_kinds, .int)]) [0] rfl
      refine W.widen (k := 0) (n := 0) (Nat.le_of_ble_eq_true rfl) (Nat.le_of_ble_eq_true rfl) ?_
      exact W.zret (v := 1) hx hb hr rfl (fun t ht hW => ⟨⟨_, (), rfl, trivial, by rw [ht]; exact hP9, va_K.moved hW.alike hK9, hD9⟩, hS.F ht⟩) hS.2.2 dX8_atBracket_36
  · have fc_1 := nle_f c_1
    refine lv_aload_n hx hb dX8_atBracket_10 rfl (lv_at hl 0 rfl) ?_
    refine va_get (D := (dC, dI)) (ci := 8) (v := .int t_bracketBehindAll) (C := RX8) (T := TX8) (N := 10) hx hb hts (mc_ inX8) hown hK hP 0 rfl rfl 7 (by decide) (hts _ (List.mem_cons_of_mem _ t_292)) (fun _ h9 => h9) rfl dX8_atBracket_11 ?_
    refine lv_goto (tgt := 36) hx hb dX8_atBracket_14 (by decide) ?_
    have hP9 := hP.sub (ws' := [(h0, .inr (8, [.ref t_kinds, .ref t_places, .ref t_values, .ref t_quoted, .ref t_tape, .int t_length, .int t_at, .int t_bracketBehindAll, .int t_faultKind, .int t_faultPlace])), (t_kinds, .inl (k_t_kinds, 1202, .inl f_t_kinds))]) [0, 1] rfl
    have hD9 := hD.sub (ws' := [(h0, .inr (8, [.ref t_kinds, .ref t_places, .ref t_values, .ref t_quoted, .ref t_tape, .int t_length, .int t_at, .int t_bracketBehindAll, .int t_faultKind, .int t_faultPlace])), (t_kinds, .inl (k_t_kinds, 1202, .inl f_t_kinds))]) [0, 1] (by decide) rfl
    have hK9 := hK.sub (tys' := [(k_t_kinds, .int)]) [0] rfl
    refine W.widen (k := 0) (n := 0) (Nat.le_of_ble_eq_true rfl) (Nat.le_of_ble_eq_true rfl) ?_
    exact W.zret (v := t_bracketBehindAll) hx hb hr (nar_z (by omega) (by omega)) (fun t ht hW => ⟨⟨_, (), rfl, trivial, by rw [ht]; exact hP9, va_K.moved hW.alike hK9, hD9⟩, hS.F ht⟩) hS.2.2 dX8_atBracket_36
set_option maxHeartbeats 4000000 in
set_option maxRecDepth 100000 in
theorem s_X8_byteAt (l : Launch) (dC : Nat → ClassId) (dI : Nat → Nat → Nat) (h0 : Nat) (t_kinds : Nat) (t_places : Nat) (t_values : Nat) (t_quoted : Nat) (t_tape : Nat) (t_length : Int32) (t_at : Int32) (t_bracketBehindAll : Int32) (t_faultKind : Int32) (t_faultPlace : Int32) (k_t_tape : ClassId) (f_t_tape : Nat → Int32) (a1 : Int32) (hb_t_length : 0 ≤ t_length.toInt ∧ t_length.toInt ≤ 4000) (hb_t_at : 0 ≤ t_at.toInt ∧ t_at.toInt ≤ 1201) (hb_t_bracketBehindAll : 0 ≤ t_bracketBehindAll.toInt ∧ t_bracketBehindAll.toInt ≤ 1) (sz : Nat) : Met l yX8_byteAt (.code yX8_byteAt cX8_byteAt 2 (some .int) :: lw_g) ({ frames := 0, cells := 0, slots := 0, locals := 0 }) (va_Pc [.ref h0, .int a1] (fun U => U.heap.size = sz ∧ va_P (dC, dI) vwCl [(h0, .inr (8, [.ref t_kinds, .ref t_places, .ref t_values, .ref t_quoted, .ref t_tape, .int t_length, .int t_at, .int t_bracketBehindAll, .int t_faultKind, .int t_faultPlace])), (t_tape, .inl (k_t_tape, 4000, .inl f_t_tape))] U.heap ∧ va_K (dC, dI) vwCl [(k_t_tape, .byte)] U ∧ va_D (fun _ => True) [(h0, .inr (8, [.ref t_kinds, .ref t_places, .ref t_values, .ref t_quoted, .ref t_tape, .int t_length, .int t_at, .int t_bracketBehindAll, .int t_faultKind, .int t_faultPlace])), (t_tape, .inl (k_t_tape, 4000, .inl f_t_tape))])) (va_Qi (fun (r : Int32) (_ : Unit) => True) (fun (_ : Unit) (t : State) => va_P (dC, dI) vwCl [(h0, .inr (8, [.ref t_kinds, .ref t_places, .ref t_values, .ref t_quoted, .ref t_tape, .int t_length, .int t_at, .int t_bracketBehindAll, .int t_faultKind, .int t_faultPlace])), (t_tape, .inl (k_t_tape, 4000, .inl f_t_tape))] t.heap ∧ va_K (dC, dI) vwCl [(k_t_tape, .byte)] t ∧ va_D (va_A [(h0, .inr (8, [.ref t_kinds, .ref t_places, .ref t_values, .ref t_quoted, .ref t_tape, .int t_length, .int t_at, .int t_bracketBehindAll, .int t_faultKind, .int t_faultPlace])), (t_tape, .inl (k_t_tape, 4000, .inl f_t_tape))] sz) [(h0, .inr (8, [.ref t_kinds, .ref t_places, .ref t_values, .ref t_quoted, .ref t_tape, .int t_length, .int t_at, .int t_bracketBehindAll, .int t_faultKind, .int t_faultPlace])), (t_tape, .inl (k_t_tape, 4000, .inl f_t_tape))]) (va_A [(h0, .inr (8, [.ref t_kinds, .ref t_places, .ref t_values, .ref t_quoted, .ref t_tape, .int t_length, .int t_at, .int t_bracketBehindAll, .int t_faultKind, .int t_faultPlace])), (t_tape, .inl (k_t_tape, 4000, .inl f_t_tape))] sz)) 0 0 (va_A [(h0, .inr (8, [.ref t_kinds, .ref t_places, .ref t_values, .ref t_quoted, .ref t_tape, .int t_length, .int t_at, .int t_bracketBehindAll, .int t_faultKind, .int t_faultPlace])), (t_tape, .inl (k_t_tape, 4000, .inl f_t_tape))] sz) := by
  refine Met.ofW (cc := cX8_byteAt) (maxL := 2) (ret := (some .int)) (by decide) rfl ?_
  intro p e s m args below meth c s₁ B hml hv
  obtain ⟨rfl, hsz, hP, hK, hD0⟩ := hv
  have hx := B.exec
  have hb := B.bytes
  have hr := B.returns
  have hts := atoms_spec (ws := (.code yX8_byteAt cX8_byteAt 2 (some .int) :: lw_g)) B.pre
  have hown : s.vm.findClass RX8 = some m.cls := findClass_of_methodNamed B.named
  have hlocks := B.notSynchronized
  subst hsz
  have hD := hD0.self (sz := s.heap.size)
  generalize hAe : va_A [(h0, .inr (8, [.ref t_kinds, .ref t_places, .ref t_values, .ref t_quoted, .ref t_tape, .int t_length, .int t_at, .int t_bracketBehindAll, .int t_faultKind, .int t_faultPlace])), (t_tape, .inl (k_t_tape, 4000, .inl f_t_tape))] s.heap.size = A at hD ⊢
  have hA : ∀ q : Nat, s.heap.size ≤ q → A q := fun q h => by rw [← hAe]; exact Or.inr h
  have hS : va_S A s.heap s.heap [] := va_S.rf
  have hP : va_P (dC, dI) vwCl [(h0, .inr (8, [.ref t_kinds, .ref t_places, .ref t_values, .ref t_quoted, .ref t_tape, .int t_length, .int t_at, .int t_bracketBehindAll, .int t_faultKind, .int t_faultPlace])), (t_tape, .inl (k_t_tape, 4000, .inl f_t_tape))] s.heap := hP
  have hl := lv_entry ([.ref h0, .int a1]) (n := 2) (Nat.le_of_ble_eq_true rfl)
  rw [lg_entry_eq]
  generalize (lg_sl ([.ref h0, .int a1]) ++ List.replicate (2 - (lg_sl ([.ref h0, .int a1])).length) Slot.unset).toArray = ls at hl ⊢
  have hl : lv_has ls 2 [(0, .ref h0), (1, .int a1)] := hl
  refine lv_iload_n hx hb dX8_byteAt_0 rfl (lv_at hl 1 rfl) ?_
  have kc_0 : (0 : Int32).toInt = 0 := by decide
  refine lv_if_lt (tgt := 25) hx hb dX8_byteAt_1 (by decide) (fun c_1 => ?_) (fun c_1 => ?_)
  · have fc_1 := lt_f c_1
    refine lv_iconst (v := 0) hx hb dX8_byteAt_25 (by decide) ?_
    have hP9 := hP.sub (ws' := [(h0, .inr (8, [.ref t_kinds, .ref t_places, .ref t_values, .ref t_quoted, .ref t_tape, .int t_length, .int t_at, .int t_bracketBehindAll, .int t_faultKind, .int t_faultPlace])), (t_tape, .inl (k_t_tape, 4000, .inl f_t_tape))]) [0, 1] rfl
    have hD9 := hD.sub (ws' := [(h0, .inr (8, [.ref t_kinds, .ref t_places, .ref t_values, .ref t_quoted, .ref t_tape, .int t_length, .int t_at, .int t_bracketBehindAll, .int t_faultKind, .int t_faultPlace])), (t_tape, .inl (k_t_tape, 4000, .inl f_t_tape))]) [0, 1] (by decide) rfl
    have hK9 := hK.sub (tys' := [(k_t_tape, .byte)]) [0] rfl
    refine W.widen (k := 0) (n := 0) (Nat.le_of_ble_eq_true rfl) (Nat.le_of_ble_eq_true rfl) ?_
    exact W.iret (v := 0) hx hb hr (fun t ht hW => ⟨⟨_, (), rfl, trivial, by rw [ht]; exact hP9, va_K.moved hW.alike hK9, hD9⟩, hS.F ht⟩) hS.2.2 dX8_byteAt_26
  · have fc_1 := nlt_f c_1
    refine lv_iload_n hx hb dX8_byteAt_4 rfl (lv_at hl 1 rfl) ?_
    refine lv_aload_n hx hb dX8_byteAt_5 rfl (lv_at hl 0 rfl) ?_
    refine va_get (D := (dC, dI)) (ci := 8) (v := .int t_length) (C := RX8) (T := TX8) (N := 10) hx hb hts (mc_ inX8) hown hK hP 0 rfl rfl 5 (by decide) (hts _ (List.mem_cons_of_mem _ t_290)) (fun _ h9 => h9) rfl dX8_byteAt_6 ?_
    refine lv_icmp_ge (tgt := 25) hx hb dX8_byteAt_9 (by decide) (fun c_2 => ?_) (fun c_2 => ?_)
    · have fc_2 := le_f c_2
      refine lv_iconst (v := 0) hx hb dX8_byteAt_25 (by decide) ?_
      have hP9 := hP.sub (ws' := [(h0, .inr (8, [.ref t_kinds, .ref t_places, .ref t_values, .ref t_quoted, .ref t_tape, .int t_length, .int t_at, .int t_bracketBehindAll, .int t_faultKind, .int t_faultPlace])), (t_tape, .inl (k_t_tape, 4000, .inl f_t_tape))]) [0, 1] rfl
      have hD9 := hD.sub (ws' := [(h0, .inr (8, [.ref t_kinds, .ref t_places, .ref t_values, .ref t_quoted, .ref t_tape, .int t_length, .int t_at, .int t_bracketBehindAll, .int t_faultKind, .int t_faultPlace])), (t_tape, .inl (k_t_tape, 4000, .inl f_t_tape))]) [0, 1] (by decide) rfl
      have hK9 := hK.sub (tys' := [(k_t_tape, .byte)]) [0] rfl
      refine W.widen (k := 0) (n := 0) (Nat.le_of_ble_eq_true rfl) (Nat.le_of_ble_eq_true rfl) ?_
      exact W.iret (v := 0) hx hb hr (fun t ht hW => ⟨⟨_, (), rfl, trivial, by rw [ht]; exact hP9, va_K.moved hW.alike hK9, hD9⟩, hS.F ht⟩) hS.2.2 dX8_byteAt_26
    · have fc_2 := nle_f c_2
      refine lv_aload_n hx hb dX8_byteAt_12 rfl (lv_at hl 0 rfl) ?_
      refine va_get (D := (dC, dI)) (ci := 8) (v := .ref t_tape) (C := RX8) (T := TX8) (N := 10) hx hb hts (mc_ inX8) hown hK hP 0 rfl rfl 4 (by decide) (hts _ (List.mem_cons_of_mem _ t_289)) (fun _ h9 => h9) rfl dX8_byteAt_13 ?_
      refine lv_iload_n hx hb dX8_byteAt_16 rfl (lv_at hl 1 rfl) ?_
      refine va_bald hx hb hK hP 1 0 rfl rfl (in_ok (by omega) (by omega)) dX8_byteAt_17 ?_
      refine lv_topi (fun y_3 ey_3 => ?_)
      refine lv_sipush (v := 255) hx hb dX8_byteAt_18 (by decide) ?_
      refine lv_iand hx hb dX8_byteAt_21 ?_
      refine lv_topi (fun y_4 ey_4 => ?_)
      refine lv_goto (tgt := 26) hx hb dX8_byteAt_22 (by decide) ?_
      have hP9 := hP.sub (ws' := [(h0, .inr (8, [.ref t_kinds, .ref t_places, .ref t_values, .ref t_quoted, .ref t_tape, .int t_length, .int t_at, .int t_bracketBehindAll, .int t_faultKind, .int t_faultPlace])), (t_tape, .inl (k_t_tape, 4000, .inl f_t_tape))]) [0, 1] rfl
      have hD9 := hD.sub (ws' := [(h0, .inr (8, [.ref t_kinds, .ref t_places, .ref t_values, .ref t_quoted, .ref t_tape, .int t_length, .int t_at, .int t_bracketBehindAll, .int t_faultKind, .int t_faultPlace])), (t_tape, .inl (k_t_tape, 4000, .inl f_t_tape))]) [0, 1] (by decide) rfl
      have hK9 := hK.sub (tys' := [(k_t_tape, .byte)]) [0] rfl
      refine W.widen (k := 0) (n := 0) (Nat.le_of_ble_eq_true rfl) (Nat.le_of_ble_eq_true rfl) ?_
      exact W.iret (v := y_4) hx hb hr (fun t ht hW => ⟨⟨_, (), rfl, trivial, by rw [ht]; exact hP9, va_K.moved hW.alike hK9, hD9⟩, hS.F ht⟩) hS.2.2 dX8_byteAt_26
