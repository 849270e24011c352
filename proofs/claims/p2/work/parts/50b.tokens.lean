set_option maxHeartbeats 4000000 in
set_option maxRecDepth 100000 in
theorem s_X8_kind (l : Launch) (dC : Nat → ClassId) (dI : Nat → Nat → Nat) (h0_ : Nat) (h1_ : Nat) (h2_ : Nat) (h3_ : Nat) (h4_ : Nat) (h5_ : Nat) (p6_ : Int32) (p7_ : Int32) (p8_ : Int32) (p9_ : Int32) (p10_ : Int32) (k11_ : ClassId) (f12_ : Nat → Int32) (hb_p6_ : 0 ≤ p6_.toInt ∧ p6_.toInt ≤ 4000) (hb_p7_ : 0 ≤ p7_.toInt ∧ p7_.toInt ≤ 1201) (hb_p8_ : 0 ≤ p8_.toInt ∧ p8_.toInt ≤ 1) (sz : Nat) : Met l yX8_kind (.code yX8_kind cX8_kind 1 (some .int) :: lw_g) ({ frames := 0, cells := 0, slots := 0, locals := 0 }) (va_Pc [.ref h0_] (fun U => U.heap.size = sz ∧ va_P (dC, dI) vwCl [(h0_, .inr (8, [.ref h1_, .ref h2_, .ref h3_, .ref h4_, .ref h5_, .int p6_, .int p7_, .int p8_, .int p9_, .int p10_])), (h1_, .inl (k11_, 1202, .inl f12_))] U.heap ∧ va_K (dC, dI) vwCl [(k11_, .int)] U ∧ va_D (fun _ => True) [(h0_, .inr (8, [.ref h1_, .ref h2_, .ref h3_, .ref h4_, .ref h5_, .int p6_, .int p7_, .int p8_, .int p9_, .int p10_])), (h1_, .inl (k11_, 1202, .inl f12_))])) (va_Qi (fun (r : Int32) (_ : Unit) => True) (fun (_ : Unit) (t : State) => va_P (dC, dI) vwCl [(h0_, .inr (8, [.ref h1_, .ref h2_, .ref h3_, .ref h4_, .ref h5_, .int p6_, .int p7_, .int p8_, .int p9_, .int p10_])), (h1_, .inl (k11_, 1202, .inl f12_))] t.heap ∧ va_K (dC, dI) vwCl [(k11_, .int)] t ∧ va_D (va_A [(h0_, .inr (8, [.ref h1_, .ref h2_, .ref h3_, .ref h4_, .ref h5_, .int p6_, .int p7_, .int p8_, .int p9_, .int p10_])), (h1_, .inl (k11_, 1202, .inl f12_))] sz) [(h0_, .inr (8, [.ref h1_, .ref h2_, .ref h3_, .ref h4_, .ref h5_, .int p6_, .int p7_, .int p8_, .int p9_, .int p10_])), (h1_, .inl (k11_, 1202, .inl f12_))]) (va_A [(h0_, .inr (8, [.ref h1_, .ref h2_, .ref h3_, .ref h4_, .ref h5_, .int p6_, .int p7_, .int p8_, .int p9_, .int p10_])), (h1_, .inl (k11_, 1202, .inl f12_))] sz)) 0 0 (va_A [(h0_, .inr (8, [.ref h1_, .ref h2_, .ref h3_, .ref h4_, .ref h5_, .int p6_, .int p7_, .int p8_, .int p9_, .int p10_])), (h1_, .inl (k11_, 1202, .inl f12_))] sz) := by
  refine Met.ofW (cc := cX8_kind) (maxL := 1) (ret := (some .int)) (by decide) rfl ?_
  intro p e s m args below meth c s₁ B hml hv
  obtain ⟨rfl, hsz, hP, hK, hD0⟩ := hv
  have hx := B.exec
  have hb := B.bytes
  have hr := B.returns
  have hts := atoms_spec (ws := (.code yX8_kind cX8_kind 1 (some .int) :: lw_g)) B.pre
  have hown : s.vm.findClass RX8 = some m.cls := findClass_of_methodNamed B.named
  have hlocks := B.notSynchronized
  subst hsz
  have hD := hD0.self (sz := s.heap.size)
  generalize hAe : va_A [(h0_, .inr (8, [.ref h1_, .ref h2_, .ref h3_, .ref h4_, .ref h5_, .int p6_, .int p7_, .int p8_, .int p9_, .int p10_])), (h1_, .inl (k11_, 1202, .inl f12_))] s.heap.size = A at hD ⊢
  have hA : ∀ q : Nat, s.heap.size ≤ q → A q := fun q h => by rw [← hAe]; exact Or.inr h
  have hS : va_S A s.heap s.heap [] := va_S.rf
  have hP : va_P (dC, dI) vwCl [(h0_, .inr (8, [.ref h1_, .ref h2_, .ref h3_, .ref h4_, .ref h5_, .int p6_, .int p7_, .int p8_, .int p9_, .int p10_])), (h1_, .inl (k11_, 1202, .inl f12_))] s.heap := hP
  have hl := lv_entry ([.ref h0_]) (n := 1) (Nat.le_of_ble_eq_true rfl)
  rw [lg_entry_eq]
  generalize (lg_sl ([.ref h0_]) ++ List.replicate (1 - (lg_sl ([.ref h0_])).length) Slot.unset).toArray = ls at hl ⊢
  have hl : lv_has ls 1 [(0, .ref h0_)] := hl
  refine lv_aload_n hx hb dX8_kind_0 rfl (lv_at hl 0 rfl) ?_
  refine va_get (D := (dC, dI)) (ci := 8) (v := .ref h1_) (C := RX8) (T := TX8) (N := 10) hx hb hts (mc_ inX8) hown hK hP 0 rfl rfl 0 (by decide) (hts _ (List.mem_cons_of_mem _ t_285)) (fun _ h9 => h9) rfl dX8_kind_1 ?_
  refine lv_aload_n hx hb dX8_kind_4 rfl (lv_at hl 0 rfl) ?_
  refine va_get (D := (dC, dI)) (ci := 8) (v := .int p7_) (C := RX8) (T := TX8) (N := 10) hx hb hts (mc_ inX8) hown hK hP 0 rfl rfl 6 (by decide) (hts _ (List.mem_cons_of_mem _ t_291)) (fun _ h9 => h9) rfl dX8_kind_5 ?_
  refine va_iald hx hb hK hP 1 0 rfl rfl (in_ok (by omega) (by omega)) dX8_kind_8 ?_
  refine lv_topi (fun y_1 ey_1 => ?_)
  have hP9 := hP.sub (ws' := [(h0_, .inr (8, [.ref h1_, .ref h2_, .ref h3_, .ref h4_, .ref h5_, .int p6_, .int p7_, .int p8_, .int p9_, .int p10_])), (h1_, .inl (k11_, 1202, .inl f12_))]) [0, 1] rfl
  have hD9 := hD.sub (ws' := [(h0_, .inr (8, [.ref h1_, .ref h2_, .ref h3_, .ref h4_, .ref h5_, .int p6_, .int p7_, .int p8_, .int p9_, .int p10_])), (h1_, .inl (k11_, 1202, .inl f12_))]) [0, 1] (by decide) rfl
  have hK9 := hK.sub (tys' := [(k11_, .int)]) [0] rfl
  refine W.widen (k := 0) (n := 0) (Nat.le_of_ble_eq_true rfl) (Nat.le_of_ble_eq_true rfl) ?_
  exact W.iret (v := y_1) hx hb hr (fun t ht hW => ⟨⟨_, (), rfl, trivial, by rw [ht]; exact hP9, va_K.moved hW.alike hK9, hD9⟩, hS.F ht⟩) hS.2.2 dX8_kind_9
set_option maxHeartbeats 4000000 in
set_option maxRecDepth 100000 in
theorem s_X8_place (l : Launch) (dC : Nat → ClassId) (dI : Nat → Nat → Nat) (h0_ : Nat) (h1_ : Nat) (h2_ : Nat) (h3_ : Nat) (h4_ : Nat) (h5_ : Nat) (p6_ : Int32) (p7_ : Int32) (p8_ : Int32) (p9_ : Int32) (p10_ : Int32) (k11_ : ClassId) (f12_ : Nat → Int32) (hb_p6_ : 0 ≤ p6_.toInt ∧ p6_.toInt ≤ 4000) (hb_p7_ : 0 ≤ p7_.toInt ∧ p7_.toInt ≤ 1201) (hb_p8_ : 0 ≤ p8_.toInt ∧ p8_.toInt ≤ 1) (sz : Nat) : Met l yX8_place (.code yX8_place cX8_place 1 (some .int) :: lw_g) ({ frames := 0, cells := 0, slots := 0, locals := 0 }) (va_Pc [.ref h0_] (fun U => U.heap.size = sz ∧ va_P (dC, dI) vwCl [(h0_, .inr (8, [.ref h1_, .ref h2_, .ref h3_, .ref h4_, .ref h5_, .int p6_, .int p7_, .int p8_, .int p9_, .int p10_])), (h2_, .inl (k11_, 1202, .inl f12_))] U.heap ∧ va_K (dC, dI) vwCl [(k11_, .int)] U ∧ va_D (fun _ => True) [(h0_, .inr (8, [.ref h1_, .ref h2_, .ref h3_, .ref h4_, .ref h5_, .int p6_, .int p7_, .int p8_, .int p9_, .int p10_])), (h2_, .inl (k11_, 1202, .inl f12_))])) (va_Qi (fun (r : Int32) (_ : Unit) => True) (fun (_ : Unit) (t : State) => va_P (dC, dI) vwCl [(h0_, .inr (8, [.ref h1_, .ref h2_, .ref h3_, .ref h4_, .ref h5_, .int p6_, .int p7_, .int p8_, .int p9_, .int p10_])), (h2_, .inl (k11_, 1202, .inl f12_))] t.heap ∧ va_K (dC, dI) vwCl [(k11_, .int)] t ∧ va_D (va_A [(h0_, .inr (8, [.ref h1_, .ref h2_, .ref h3_, .ref h4_, .ref h5_, .int p6_, .int p7_, .int p8_, .int p9_, .int p10_])), (h2_, .inl (k11_, 1202, .inl f12_))] sz) [(h0_, .inr (8, [.ref h1_, .ref h2_, .ref h3_, .ref h4_, .ref h5_, .int p6_, .int p7_, .int p8_, .int p9_, .int p10_])), (h2_, .inl (k11_, 1202, .inl f12_))]) (va_A [(h0_, .inr (8, [.ref h1_, .ref h2_, .ref h3_, .ref h4_, .ref h5_, .int p6_, .int p7_, .int p8_, .int p9_, .int p10_])), (h2_, .inl (k11_, 1202, .inl f12_))] sz)) 0 0 (va_A [(h0_, .inr (8, [.ref h1_, .ref h2_, .ref h3_, .ref h4_, .ref h5_, .int p6_, .int p7_, .int p8_, .int p9_, .int p10_])), (h2_, .inl (k11_, 1202, .inl f12_))] sz) := by
  refine Met.ofW (cc := cX8_place) (maxL := 1) (ret := (some .int)) (by decide) rfl ?_
  intro p e s m args below meth c s₁ B hml hv
  obtain ⟨rfl, hsz, hP, hK, hD0⟩ := hv
  have hx := B.exec
  have hb := B.bytes
  have hr := B.returns
  have hts := atoms_spec (ws := (.code yX8_place cX8_place 1 (some .int) :: lw_g)) B.pre
  have hown : s.vm.findClass RX8 = some m.cls := findClass_of_methodNamed B.named
  have hlocks := B.notSynchronized
  subst hsz
  have hD := hD0.self (sz := s.heap.size)
  generalize hAe : va_A [(h0_, .inr (8, [.ref h1_, .ref h2_, .ref h3_, .ref h4_, .ref h5_, .int p6_, .int p7_, .int p8_, .int p9_, .int p10_])), (h2_, .inl (k11_, 1202, .inl f12_))] s.heap.size = A at hD ⊢
  have hA : ∀ q : Nat, s.heap.size ≤ q → A q := fun q h => by rw [← hAe]; exact Or.inr h
  have hS : va_S A s.heap s.heap [] := va_S.rf
  have hP : va_P (dC, dI) vwCl [(h0_, .inr (8, [.ref h1_, .ref h2_, .ref h3_, .ref h4_, .ref h5_, .int p6_, .int p7_, .int p8_, .int p9_, .int p10_])), (h2_, .inl (k11_, 1202, .inl f12_))] s.heap := hP
  have hl := lv_entry ([.ref h0_]) (n := 1) (Nat.le_of_ble_eq_true rfl)
  rw [lg_entry_eq]
  generalize (lg_sl ([.ref h0_]) ++ List.replicate (1 - (lg_sl ([.ref h0_])).length) Slot.unset).toArray = ls at hl ⊢
  have hl : lv_has ls 1 [(0, .ref h0_)] := hl
  refine lv_aload_n hx hb dX8_place_0 rfl (lv_at hl 0 rfl) ?_
  refine va_get (D := (dC, dI)) (ci := 8) (v := .ref h2_) (C := RX8) (T := TX8) (N := 10) hx hb hts (mc_ inX8) hown hK hP 0 rfl rfl 1 (by decide) (hts _ (List.mem_cons_of_mem _ t_286)) (fun _ h9 => h9) rfl dX8_place_1 ?_
  refine lv_aload_n hx hb dX8_place_4 rfl (lv_at hl 0 rfl) ?_
  refine va_get (D := (dC, dI)) (ci := 8) (v := .int p7_) (C := RX8) (T := TX8) (N := 10) hx hb hts (mc_ inX8) hown hK hP 0 rfl rfl 6 (by decide) (hts _ (List.mem_cons_of_mem _ t_291)) (fun _ h9 => h9) rfl dX8_place_5 ?_
  refine va_iald hx hb hK hP 1 0 rfl rfl (in_ok (by omega) (by omega)) dX8_place_8 ?_
  refine lv_topi (fun y_1 ey_1 => ?_)
  have hP9 := hP.sub (ws' := [(h0_, .inr (8, [.ref h1_, .ref h2_, .ref h3_, .ref h4_, .ref h5_, .int p6_, .int p7_, .int p8_, .int p9_, .int p10_])), (h2_, .inl (k11_, 1202, .inl f12_))]) [0, 1] rfl
  have hD9 := hD.sub (ws' := [(h0_, .inr (8, [.ref h1_, .ref h2_, .ref h3_, .ref h4_, .ref h5_, .int p6_, .int p7_, .int p8_, .int p9_, .int p10_])), (h2_, .inl (k11_, 1202, .inl f12_))]) [0, 1] (by decide) rfl
  have hK9 := hK.sub (tys' := [(k11_, .int)]) [0] rfl
  refine W.widen (k := 0) (n := 0) (Nat.le_of_ble_eq_true rfl) (Nat.le_of_ble_eq_true rfl) ?_
  exact W.iret (v := y_1) hx hb hr (fun t ht hW => ⟨⟨_, (), rfl, trivial, by rw [ht]; exact hP9, va_K.moved hW.alike hK9, hD9⟩, hS.F ht⟩) hS.2.2 dX8_place_9
set_option maxHeartbeats 4000000 in
set_option maxRecDepth 100000 in
theorem s_X8_value (l : Launch) (dC : Nat → ClassId) (dI : Nat → Nat → Nat) (h0_ : Nat) (h1_ : Nat) (h2_ : Nat) (h3_ : Nat) (h4_ : Nat) (h5_ : Nat) (p6_ : Int32) (p7_ : Int32) (p8_ : Int32) (p9_ : Int32) (p10_ : Int32) (k11_ : ClassId) (f12_ : Nat → Int64) (hb_p6_ : 0 ≤ p6_.toInt ∧ p6_.toInt ≤ 4000) (hb_p7_ : 0 ≤ p7_.toInt ∧ p7_.toInt ≤ 1201) (hb_p8_ : 0 ≤ p8_.toInt ∧ p8_.toInt ≤ 1) (sz : Nat) : Met l yX8_value (.code yX8_value cX8_value 1 (some .long) :: lw_g) ({ frames := 0, cells := 0, slots := 0, locals := 0 }) (va_Pc [.ref h0_] (fun U => U.heap.size = sz ∧ va_P (dC, dI) vwCl [(h0_, .inr (8, [.ref h1_, .ref h2_, .ref h3_, .ref h4_, .ref h5_, .int p6_, .int p7_, .int p8_, .int p9_, .int p10_])), (h3_, .inl (k11_, 1202, .inr (.inl f12_)))] U.heap ∧ va_K (dC, dI) vwCl [(k11_, .long)] U ∧ va_D (fun _ => True) [(h0_, .inr (8, [.ref h1_, .ref h2_, .ref h3_, .ref h4_, .ref h5_, .int p6_, .int p7_, .int p8_, .int p9_, .int p10_])), (h3_, .inl (k11_, 1202, .inr (.inl f12_)))])) (va_Ql (fun (r : Int64) (_ : Unit) => True) (fun (_ : Unit) (t : State) => va_P (dC, dI) vwCl [(h0_, .inr (8, [.ref h1_, .ref h2_, .ref h3_, .ref h4_, .ref h5_, .int p6_, .int p7_, .int p8_, .int p9_, .int p10_])), (h3_, .inl (k11_, 1202, .inr (.inl f12_)))] t.heap ∧ va_K (dC, dI) vwCl [(k11_, .long)] t ∧ va_D (va_A [(h0_, .inr (8, [.ref h1_, .ref h2_, .ref h3_, .ref h4_, .ref h5_, .int p6_, .int p7_, .int p8_, .int p9_, .int p10_])), (h3_, .inl (k11_, 1202, .inr (.inl f12_)))] sz) [(h0_, .inr (8, [.ref h1_, .ref h2_, .ref h3_, .ref h4_, .ref h5_, .int p6_, .int p7_, .int p8_, .int p9_, .int p10_])), (h3_, .inl (k11_, 1202, .inr (.inl f12_)))]) (va_A [(h0_, .inr (8, [.ref h1_, .ref h2_, .ref h3_, .ref h4_, .ref h5_, .int p6_, .int p7_, .int p8_, .int p9_, .int p10_])), (h3_, .inl (k11_, 1202, .inr (.inl f12_)))] sz)) 0 0 (va_A [(h0_, .inr (8, [.ref h1_, .ref h2_, .ref h3_, .ref h4_, .ref h5_, .int p6_, .int p7_, .int p8_, .int p9_, .int p10_])), (h3_, .inl (k11_, 1202, .inr (.inl f12_)))] sz) := by
  refine Met.ofW (cc := cX8_value) (maxL := 1) (ret := (some .long)) (by decide) rfl ?_
  intro p e s m args below meth c s₁ B hml hv
  obtain ⟨rfl, hsz, hP, hK, hD0⟩ := hv
  have hx := B.exec
  have hb := B.bytes
  have hr := B.returns
  have hts := atoms_spec (ws := (.code yX8_value cX8_value 1 (some .long) :: lw_g)) B.pre
  have hown : s.vm.findClass RX8 = some m.cls := findClass_of_methodNamed B.named
  have hlocks := B.notSynchronized
  subst hsz
  have hD := hD0.self (sz := s.heap.size)
  generalize hAe : va_A [(h0_, .inr (8, [.ref h1_, .ref h2_, .ref h3_, .ref h4_, .ref h5_, .int p6_, .int p7_, .int p8_, .int p9_, .int p10_])), (h3_, .inl (k11_, 1202, .inr (.inl f12_)))] s.heap.size = A at hD ⊢
  have hA : ∀ q : Nat, s.heap.size ≤ q → A q := fun q h => by rw [← hAe]; exact Or.inr h
  have hS : va_S A s.heap s.heap [] := va_S.rf
  have hP : va_P (dC, dI) vwCl [(h0_, .inr (8, [.ref h1_, .ref h2_, .ref h3_, .ref h4_, .ref h5_, .int p6_, .int p7_, .int p8_, .int p9_, .int p10_])), (h3_, .inl (k11_, 1202, .inr (.inl f12_)))] s.heap := hP
  have hl := lv_entry ([.ref h0_]) (n := 1) (Nat.le_of_ble_eq_true rfl)
  rw [lg_entry_eq]
  generalize (lg_sl ([.ref h0_]) ++ List.replicate (1 - (lg_sl ([.ref h0_])).length) Slot.unset).toArray = ls at hl ⊢
  have hl : lv_has ls 1 [(0, .ref h0_)] := hl
  refine lv_aload_n hx hb dX8_value_0 rfl (lv_at hl 0 rfl) ?_
  refine va_get (D := (dC, dI)) (ci := 8) (v := .ref h3_) (C := RX8) (T := TX8) (N := 10) hx hb hts (mc_ inX8) hown hK hP 0 rfl rfl 2 (by decide) (hts _ (List.mem_cons_of_mem _ t_287)) (fun _ h9 => h9) rfl dX8_value_1 ?_
  refine lv_aload_n hx hb dX8_value_4 rfl (lv_at hl 0 rfl) ?_
  refine va_get (D := (dC, dI)) (ci := 8) (v := .int p7_) (C := RX8) (T := TX8) (N := 10) hx hb hts (mc_ inX8) hown hK hP 0 rfl rfl 6 (by decide) (hts _ (List.mem_cons_of_mem _ t_291)) (fun _ h9 => h9) rfl dX8_value_5 ?_
  refine va_lald hx hb hK hP 1 0 rfl rfl (in_ok (by omega) (by omega)) dX8_value_8 ?_
  refine lv_topl (fun y_1 ey_1 => ?_)
  have hP9 := hP.sub (ws' := [(h0_, .inr (8, [.ref h1_, .ref h2_, .ref h3_, .ref h4_, .ref h5_, .int p6_, .int p7_, .int p8_, .int p9_, .int p10_])), (h3_, .inl (k11_, 1202, .inr (.inl f12_)))]) [0, 1] rfl
  have hD9 := hD.sub (ws' := [(h0_, .inr (8, [.ref h1_, .ref h2_, .ref h3_, .ref h4_, .ref h5_, .int p6_, .int p7_, .int p8_, .int p9_, .int p10_])), (h3_, .inl (k11_, 1202, .inr (.inl f12_)))]) [0, 1] (by decide) rfl
  have hK9 := hK.sub (tys' := [(k11_, .long)]) [0] rfl
  refine W.widen (k := 0) (n := 0) (Nat.le_of_ble_eq_true rfl) (Nat.le_of_ble_eq_true rfl) ?_
  exact W.lret (v := y_1) hx hb hr (fun t ht hW => ⟨⟨_, (), rfl, trivial, by rw [ht]; exact hP9, va_K.moved hW.alike hK9, hD9⟩, hS.F ht⟩) hS.2.2 dX8_value_9
set_option maxHeartbeats 4000000 in
set_option maxRecDepth 100000 in
theorem s_X8_next (l : Launch) (dC : Nat → ClassId) (dI : Nat → Nat → Nat) (h0_ : Nat) (h1_ : Nat) (h2_ : Nat) (h3_ : Nat) (h4_ : Nat) (h5_ : Nat) (p6_ : Int32) (p7_ : Int32) (p8_ : Int32) (p9_ : Int32) (p10_ : Int32) (hb_p6_ : 0 ≤ p6_.toInt ∧ p6_.toInt ≤ 4000) (hb_p7_ : 0 ≤ p7_.toInt ∧ p7_.toInt ≤ 1201) (hb_p8_ : 0 ≤ p8_.toInt ∧ p8_.toInt ≤ 1) (sz : Nat) : Met l yX8_next (.code yX8_next cX8_next 1 none :: lw_g) ({ frames := 0, cells := 0, slots := 0, locals := 0 }) (va_Pc [.ref h0_] (fun U => U.heap.size = sz ∧ va_P (dC, dI) vwCl [(h0_, .inr (8, [.ref h1_, .ref h2_, .ref h3_, .ref h4_, .ref h5_, .int p6_, .int p7_, .int p8_, .int p9_, .int p10_]))] U.heap ∧ va_K (dC, dI) vwCl [] U ∧ va_D (fun _ => True) [(h0_, .inr (8, [.ref h1_, .ref h2_, .ref h3_, .ref h4_, .ref h5_, .int p6_, .int p7_, .int p8_, .int p9_, .int p10_]))])) (va_Qv (fun _ : Unit => True) (fun (_ : Unit) (t : State) => ∃ z0 : Int32, (0 ≤ z0.toInt ∧ z0.toInt ≤ 1201) ∧ va_P (dC, dI) vwCl [(h0_, .inr (8, [.ref h1_, .ref h2_, .ref h3_, .ref h4_, .ref h5_, .int p6_, .int z0, .int p8_, .int p9_, .int p10_]))] t.heap ∧ va_K (dC, dI) vwCl [] t ∧ va_D (va_A [(h0_, .inr (8, [.ref h1_, .ref h2_, .ref h3_, .ref h4_, .ref h5_, .int p6_, .int p7_, .int p8_, .int p9_, .int p10_]))] sz) [(h0_, .inr (8, [.ref h1_, .ref h2_, .ref h3_, .ref h4_, .ref h5_, .int p6_, .int z0, .int p8_, .int p9_, .int p10_]))]) (va_A [(h0_, .inr (8, [.ref h1_, .ref h2_, .ref h3_, .ref h4_, .ref h5_, .int p6_, .int p7_, .int p8_, .int p9_, .int p10_]))] sz)) 0 0 (va_A [(h0_, .inr (8, [.ref h1_, .ref h2_, .ref h3_, .ref h4_, .ref h5_, .int p6_, .int p7_, .int p8_, .int p9_, .int p10_]))] sz) := by
  refine Met.ofW (cc := cX8_next) (maxL := 1) (ret := none) (by decide) rfl ?_
  intro p e s m args below meth c s₁ B hml hv
  obtain ⟨rfl, hsz, hP, hK, hD0⟩ := hv
  have hx := B.exec
  have hb := B.bytes
  have hr := B.returns
  have hts := atoms_spec (ws := (.code yX8_next cX8_next 1 none :: lw_g)) B.pre
  have hown : s.vm.findClass RX8 = some m.cls := findClass_of_methodNamed B.named
  have hlocks := B.notSynchronized
  subst hsz
  have hD := hD0.self (sz := s.heap.size)
  generalize hAe : va_A [(h0_, .inr (8, [.ref h1_, .ref h2_, .ref h3_, .ref h4_, .ref h5_, .int p6_, .int p7_, .int p8_, .int p9_, .int p10_]))] s.heap.size = A at hD ⊢
  have hA : ∀ q : Nat, s.heap.size ≤ q → A q := fun q h => by rw [← hAe]; exact Or.inr h
  have hS : va_S A s.heap s.heap [] := va_S.rf
  have hP : va_P (dC, dI) vwCl [(h0_, .inr (8, [.ref h1_, .ref h2_, .ref h3_, .ref h4_, .ref h5_, .int p6_, .int p7_, .int p8_, .int p9_, .int p10_]))] s.heap := hP
  have hl := lv_entry ([.ref h0_]) (n := 1) (Nat.le_of_ble_eq_true rfl)
  rw [lg_entry_eq]
  generalize (lg_sl ([.ref h0_]) ++ List.replicate (1 - (lg_sl ([.ref h0_])).length) Slot.unset).toArray = ls at hl ⊢
  have hl : lv_has ls 1 [(0, .ref h0_)] := hl
  refine lv_aload_n hx hb dX8_next_0 rfl (lv_at hl 0 rfl) ?_
  refine va_get (D := (dC, dI)) (ci := 8) (v := .int p7_) (C := RX8) (T := TX8) (N := 10) hx hb hts (mc_ inX8) hown hK hP 0 rfl rfl 6 (by decide) (hts _ (List.mem_cons_of_mem _ t_291)) (fun _ h9 => h9) rfl dX8_next_1 ?_
  refine lv_sipush (v := 1200) hx hb dX8_next_4 (by decide) ?_
  have kc_1200 : (1200 : Int32).toInt = 1200 := by decide
  refine lv_icmp_gt (tgt := 20) hx hb dX8_next_7 (by decide) (fun c_1 => ?_) (fun c_1 => ?_)
  · have fc_1 := lt_f c_1
    have hP9 := hP.sub (ws' := [(h0_, .inr (8, [.ref h1_, .ref h2_, .ref h3_, .ref h4_, .ref h5_, .int p6_, .int p7_, .int p8_, .int p9_, .int p10_]))]) [0] rfl
    have hD9 := hD.sub (ws' := [(h0_, .inr (8, [.ref h1_, .ref h2_, .ref h3_, .ref h4_, .ref h5_, .int p6_, .int p7_, .int p8_, .int p9_, .int p10_]))]) [0] (by decide) rfl
    have hK9 := hK.sub (tys' := []) [] rfl
    refine W.widen (k := 0) (n := 0) (Nat.le_of_ble_eq_true rfl) (Nat.le_of_ble_eq_true rfl) ?_
    exact W.vret hx hb hr (fun t ht hW => ⟨⟨(), rfl, trivial, p7_, ⟨by omega, by omega⟩, by rw [ht]; exact hP9, va_K.moved hW.alike hK9, hD9⟩, hS.F ht⟩) hS.2.2 dX8_next_20
  · have fc_1 := nlt_f c_1
    refine lv_aload_n hx hb dX8_next_10 rfl (lv_at hl 0 rfl) ?_
    refine lv_dup hx hb dX8_next_11 rfl ?_
    refine va_get (D := (dC, dI)) (ci := 8) (v := .int p7_) (C := RX8) (T := TX8) (N := 10) hx hb hts (mc_ inX8) hown hK hP 0 rfl rfl 6 (by decide) (hts _ (List.mem_cons_of_mem _ t_291)) (fun _ h9 => h9) rfl dX8_next_12 ?_
    refine lv_iconst (v := 1) hx hb dX8_next_15 (by decide) ?_
    have kc_1 : (1 : Int32).toInt = 1 := by decide
    refine lv_iadd hx hb dX8_next_16 ?_
    refine lv_topi (fun y_2 ey_2 => ?_)
    have ty_2 : y_2.toInt = p7_.toInt + (1 : Int32).toInt := by rw [ey_2]; exact add_ok (by omega) (by omega)
    have b_3 : 1 ≤ y_2.toInt ∧ y_2.toInt ≤ 1201 := by omega
    refine va_put (D := (dC, dI)) (ci := 8) (v := .int y_2) (ty := tyX8 6) (C := RX8) (T := TX8) (N := 10) hx hb hts (mc_ inX8) tyX8 tyX8_ok nmX8 hown hK hP hD hS 0 rfl rfl 6 (by decide) (hts _ (List.mem_cons_of_mem _ t_291)) (fun _ h9 => h9) rfl (by decide +kernel) rfl rfl (Nat.le_of_ble_eq_true rfl) dX8_next_17 (fun H locs hP hD hS => ?_)
    have hP : va_P (dC, dI) vwCl [(h0_, .inr (8, [.ref h1_, .ref h2_, .ref h3_, .ref h4_, .ref h5_, .int p6_, .int y_2, .int p8_, .int p9_, .int p10_]))] H := hP
    have hD : va_D A [(h0_, .inr (8, [.ref h1_, .ref h2_, .ref h3_, .ref h4_, .ref h5_, .int p6_, .int y_2, .int p8_, .int p9_, .int p10_]))] := hD
    have hP9 := hP.sub (ws' := [(h0_, .inr (8, [.ref h1_, .ref h2_, .ref h3_, .ref h4_, .ref h5_, .int p6_, .int y_2, .int p8_, .int p9_, .int p10_]))]) [0] rfl
    have hD9 := hD.sub (ws' := [(h0_, .inr (8, [.ref h1_, .ref h2_, .ref h3_, .ref h4_, .ref h5_, .int p6_, .int y_2, .int p8_, .int p9_, .int p10_]))]) [0] (by decide) rfl
    have hK9 := hK.sub (tys' := []) [] rfl
    refine W.widen (k := 0) (n := 0) (Nat.le_of_ble_eq_true rfl) (Nat.le_of_ble_eq_true rfl) ?_
    exact W.vret hx hb hr (fun t ht hW => ⟨⟨(), rfl, trivial, y_2, ⟨by omega, by omega⟩, by rw [ht]; exact hP9, va_K.moved hW.alike hK9, hD9⟩, hS.F ht⟩) hS.2.2 dX8_next_20
set_option maxHeartbeats 4000000 in
set_option maxRecDepth 100000 in
theorem s_X8_fail (l : Launch) (dC : Nat → ClassId) (dI : Nat → Nat → Nat) (h0_ : Nat) (p1_ : Int32) (p2_ : Int32) (h3_ : Nat) (h4_ : Nat) (h5_ : Nat) (h6_ : Nat) (h7_ : Nat) (p8_ : Int32) (p9_ : Int32) (p10_ : Int32) (p11_ : Int32) (p12_ : Int32) (k13_ : ClassId) (f14_ : Nat → Int32) (hb_p8_ : 0 ≤ p8_.toInt ∧ p8_.toInt ≤ 4000) (hb_p9_ : 0 ≤ p9_.toInt ∧ p9_.toInt ≤ 1201) (hb_p10_ : 0 ≤ p10_.toInt ∧ p10_.toInt ≤ 1) (sz : Nat) : Met l yX8_fail (.code yX8_fail cX8_fail 4 none :: lw_g) ({ frames := 0, cells := 0, slots := 0, locals := 0 }) (va_Pc [.ref h0_, .int p1_, .int p2_] (fun U => U.heap.size = sz ∧ va_P (dC, dI) vwCl [(h0_, .inr (8, [.ref h3_, .ref h4_, .ref h5_, .ref h6_, .ref h7_, .int p8_, .int p9_, .int p10_, .int p11_, .int p12_])), (h4_, .inl (k13_, 1202, .inl f14_))] U.heap ∧ va_K (dC, dI) vwCl [(k13_, .int)] U ∧ va_D (fun _ => True) [(h0_, .inr (8, [.ref h3_, .ref h4_, .ref h5_, .ref h6_, .ref h7_, .int p8_, .int p9_, .int p10_, .int p11_, .int p12_])), (h4_, .inl (k13_, 1202, .inl f14_))])) (va_Qv (fun _ : Unit => True) (fun (_ : Unit) (t : State) => ∃ z0 : Int32, ∃ z1 : Int32, va_P (dC, dI) vwCl [(h0_, .inr (8, [.ref h3_, .ref h4_, .ref h5_, .ref h6_, .ref h7_, .int p8_, .int 1201, .int p10_, .int z0, .int z1])), (h4_, .inl (k13_, 1202, .inl f14_))] t.heap ∧ va_K (dC, dI) vwCl [(k13_, .int)] t ∧ va_D (va_A [(h0_, .inr (8, [.ref h3_, .ref h4_, .ref h5_, .ref h6_, .ref h7_, .int p8_, .int p9_, .int p10_, .int p11_, .int p12_])), (h4_, .inl (k13_, 1202, .inl f14_))] sz) [(h0_, .inr (8, [.ref h3_, .ref h4_, .ref h5_, .ref h6_, .ref h7_, .int p8_, .int 1201, .int p10_, .int z0, .int z1])), (h4_, .inl (k13_, 1202, .inl f14_))]) (va_A [(h0_, .inr (8, [.ref h3_, .ref h4_, .ref h5_, .ref h6_, .ref h7_, .int p8_, .int p9_, .int p10_, .int p11_, .int p12_])), (h4_, .inl (k13_, 1202, .inl f14_))] sz)) 0 0 (va_A [(h0_, .inr (8, [.ref h3_, .ref h4_, .ref h5_, .ref h6_, .ref h7_, .int p8_, .int p9_, .int p10_, .int p11_, .int p12_])), (h4_, .inl (k13_, 1202, .inl f14_))] sz) := by
  refine Met.ofW (cc := cX8_fail) (maxL := 4) (ret := none) (by decide) rfl ?_
  intro p e s m args below meth c s₁ B hml hv
  obtain ⟨rfl, hsz, hP, hK, hD0⟩ := hv
  have hx := B.exec
  have hb := B.bytes
  have hr := B.returns
  have hts := atoms_spec (ws := (.code yX8_fail cX8_fail 4 none :: lw_g)) B.pre
  have hown : s.vm.findClass RX8 = some m.cls := findClass_of_methodNamed B.named
  have hlocks := B.notSynchronized
  subst hsz
  have hD := hD0.self (sz := s.heap.size)
  generalize hAe : va_A [(h0_, .inr (8, [.ref h3_, .ref h4_, .ref h5_, .ref h6_, .ref h7_, .int p8_, .int p9_, .int p10_, .int p11_, .int p12_])), (h4_, .inl (k13_, 1202, .inl f14_))] s.heap.size = A at hD ⊢
  have hA : ∀ q : Nat, s.heap.size ≤ q → A q := fun q h => by rw [← hAe]; exact Or.inr h
  have hS : va_S A s.heap s.heap [] := va_S.rf
  have hP : va_P (dC, dI) vwCl [(h0_, .inr (8, [.ref h3_, .ref h4_, .ref h5_, .ref h6_, .ref h7_, .int p8_, .int p9_, .int p10_, .int p11_, .int p12_])), (h4_, .inl (k13_, 1202, .inl f14_))] s.heap := hP
  have hl := lv_entry ([.ref h0_, .int p1_, .int p2_]) (n := 4) (Nat.le_of_ble_eq_true rfl)
  rw [lg_entry_eq]
  generalize (lg_sl ([.ref h0_, .int p1_, .int p2_]) ++ List.replicate (4 - (lg_sl ([.ref h0_, .int p1_, .int p2_])).length) Slot.unset).toArray = ls at hl ⊢
  have hl : lv_has ls 4 [(0, .ref h0_), (1, .int p1_), (2, .int p2_)] := hl
  refine lv_aload_n hx hb dX8_fail_0 rfl (lv_at hl 0 rfl) ?_
  refine va_get (D := (dC, dI)) (ci := 8) (v := .int p9_) (C := RX8) (T := TX8) (N := 10) hx hb hts (mc_ inX8) hown hK hP 0 rfl rfl 6 (by decide) (hts _ (List.mem_cons_of_mem _ t_291)) (fun _ h9 => h9) rfl dX8_fail_1 ?_
  refine lv_sipush (v := 1200) hx hb dX8_fail_4 (by decide) ?_
  have kc_1200 : (1200 : Int32).toInt = 1200 := by decide
  refine lv_icmp_le (tgt := 31) hx hb dX8_fail_7 (by decide) (fun c_1 => ?_) (fun c_1 => ?_)
  · have fc_1 := le_f c_1
    refine lv_iconst (v := 0) hx hb dX8_fail_31 (by decide) ?_
    refine lv_istore_n (lv' := [(3, .int 0), (0, .ref h0_), (1, .int p1_), (2, .int p2_)]) hx hb dX8_fail_32 rfl hl (by decide) rfl (fun ls hl => ?_)
    refine lv_aload_n hx hb dX8_fail_33 rfl (lv_at hl 1 rfl) ?_
    refine va_get (D := (dC, dI)) (ci := 8) (v := .int p11_) (C := RX8) (T := TX8) (N := 10) hx hb hts (mc_ inX8) hown hK hP 0 rfl rfl 8 (by decide) (hts _ (List.mem_cons_of_mem _ t_295)) (fun _ h9 => h9) rfl dX8_fail_34 ?_
    have kc_0 : (0 : Int32).toInt = 0 := by decide
    refine lv_if_ne (tgt := 73) hx hb dX8_fail_37 (by decide) (fun c_2 => ?_) (fun c_2 => ?_)
    · have fc_2 := neq_f c_2
      refine lv_aload_n hx hb dX8_fail_73 rfl (lv_at hl 1 rfl) ?_
      refine lv_sipush (v := 1201) hx hb dX8_fail_74 (by decide) ?_
      refine va_put (D := (dC, dI)) (ci := 8) (v := .int 1201) (ty := tyX8 6) (C := RX8) (T := TX8) (N := 10) hx hb hts (mc_ inX8) tyX8 tyX8_ok nmX8 hown hK hP hD hS 0 rfl rfl 6 (by decide) (hts _ (List.mem_cons_of_mem _ t_291)) (fun _ h9 => h9) rfl (by decide +kernel) rfl rfl (Nat.le_of_ble_eq_true rfl) dX8_fail_77 (fun H locs hP hD hS => ?_)
      have hP : va_P (dC, dI) vwCl [(h0_, .inr (8, [.ref h3_, .ref h4_, .ref h5_, .ref h6_, .ref h7_, .int p8_, .int 1201, .int p10_, .int p11_, .int p12_])), (h4_, .inl (k13_, 1202, .inl f14_))] H := hP
      have hD : va_D A [(h0_, .inr (8, [.ref h3_, .ref h4_, .ref h5_, .ref h6_, .ref h7_, .int p8_, .int 1201, .int p10_, .int p11_, .int p12_])), (h4_, .inl (k13_, 1202, .inl f14_))] := hD
      have hP9 := hP.sub (ws' := [(h0_, .inr (8, [.ref h3_, .ref h4_, .ref h5_, .ref h6_, .ref h7_, .int p8_, .int 1201, .int p10_, .int p11_, .int p12_])), (h4_, .inl (k13_, 1202, .inl f14_))]) [0, 1] rfl
      have hD9 := hD.sub (ws' := [(h0_, .inr (8, [.ref h3_, .ref h4_, .ref h5_, .ref h6_, .ref h7_, .int p8_, .int 1201, .int p10_, .int p11_, .int p12_])), (h4_, .inl (k13_, 1202, .inl f14_))]) [0, 1] (by decide) rfl
      have hK9 := hK.sub (tys' := [(k13_, .int)]) [0] rfl
      refine W.widen (k := 0) (n := 0) (Nat.le_of_ble_eq_true rfl) (Nat.le_of_ble_eq_true rfl) ?_
      exact W.vret hx hb hr (fun t ht hW => ⟨⟨(), rfl, trivial, p11_, p12_, by rw [ht]; exact hP9, va_K.moved hW.alike hK9, hD9⟩, hS.F ht⟩) hS.2.2 dX8_fail_80
    · have fc_2 := eq_f c_2
      refine lv_aload_n hx hb dX8_fail_40 rfl (lv_at hl 1 rfl) ?_
      refine lv_iload_n hx hb dX8_fail_41 rfl (lv_at hl 0 rfl) ?_
      refine lv_if_eq (tgt := 49) hx hb dX8_fail_42 (by decide) (fun c_ => ?_) (fun c_ => absurd (by decide) c_)
      refine lv_iload_n hx hb dX8_fail_49 rfl (lv_at hl 2 rfl) ?_
      refine va_put (D := (dC, dI)) (ci := 8) (v := .int p1_) (ty := tyX8 8) (C := RX8) (T := TX8) (N := 10) hx hb hts (mc_ inX8) tyX8 tyX8_ok nmX8 hown hK hP hD hS 0 rfl rfl 8 (by decide) (hts _ (List.mem_cons_of_mem _ t_295)) (fun _ h9 => h9) rfl (by decide +kernel) rfl rfl (Nat.le_of_ble_eq_true rfl) dX8_fail_50 (fun H locs hP hD hS => ?_)
      have hP : va_P (dC, dI) vwCl [(h0_, .inr (8, [.ref h3_, .ref h4_, .ref h5_, .ref h6_, .ref h7_, .int p8_, .int p9_, .int p10_, .int p1_, .int p12_])), (h4_, .inl (k13_, 1202, .inl f14_))] H := hP
      have hD : va_D A [(h0_, .inr (8, [.ref h3_, .ref h4_, .ref h5_, .ref h6_, .ref h7_, .int p8_, .int p9_, .int p10_, .int p1_, .int p12_])), (h4_, .inl (k13_, 1202, .inl f14_))] := hD
      refine lv_aload_n hx hb dX8_fail_53 rfl (lv_at hl 1 rfl) ?_
      refine lv_iload_n hx hb dX8_fail_54 rfl (lv_at hl 0 rfl) ?_
      refine lv_if_eq (tgt := 69) hx hb dX8_fail_55 (by decide) (fun c_ => ?_) (fun c_ => absurd (by decide) c_)
      refine lv_iload_n hx hb dX8_fail_69 rfl (lv_at hl 3 rfl) ?_
      refine va_put (D := (dC, dI)) (ci := 8) (v := .int p2_) (ty := tyX8 9) (C := RX8) (T := TX8) (N := 10) hx hb hts (mc_ inX8) tyX8 tyX8_ok nmX8 hown hK hP hD hS 0 rfl rfl 9 (by decide) (hts _ (List.mem_cons_of_mem _ t_296)) (fun _ h9 => h9) rfl (by decide +kernel) rfl rfl (Nat.le_of_ble_eq_true rfl) dX8_fail_70 (fun H locs hP hD hS => ?_)
      have hP : va_P (dC, dI) vwCl [(h0_, .inr (8, [.ref h3_, .ref h4_, .ref h5_, .ref h6_, .ref h7_, .int p8_, .int p9_, .int p10_, .int p1_, .int p2_])), (h4_, .inl (k13_, 1202, .inl f14_))] H := hP
      have hD : va_D A [(h0_, .inr (8, [.ref h3_, .ref h4_, .ref h5_, .ref h6_, .ref h7_, .int p8_, .int p9_, .int p10_, .int p1_, .int p2_])), (h4_, .inl (k13_, 1202, .inl f14_))] := hD
      refine lv_aload_n hx hb dX8_fail_73 rfl (lv_at hl 1 rfl) ?_
      refine lv_sipush (v := 1201) hx hb dX8_fail_74 (by decide) ?_
      refine va_put (D := (dC, dI)) (ci := 8) (v := .int 1201) (ty := tyX8 6) (C := RX8) (T := TX8) (N := 10) hx hb hts (mc_ inX8) tyX8 tyX8_ok nmX8 hown hK hP hD hS 0 rfl rfl 6 (by decide) (hts _ (List.mem_cons_of_mem _ t_291)) (fun _ h9 => h9) rfl (by decide +kernel) rfl rfl (Nat.le_of_ble_eq_true rfl) dX8_fail_77 (fun H locs hP hD hS => ?_)
      have hP : va_P (dC, dI) vwCl [(h0_, .inr (8, [.ref h3_, .ref h4_, .ref h5_, .ref h6_, .ref h7_, .int p8_, .int 1201, .int p10_, .int p1_, .int p2_])), (h4_, .inl (k13_, 1202, .inl f14_))] H := hP
      have hD : va_D A [(h0_, .inr (8, [.ref h3_, .ref h4_, .ref h5_, .ref h6_, .ref h7_, .int p8_, .int 1201, .int p10_, .int p1_, .int p2_])), (h4_, .inl (k13_, 1202, .inl f14_))] := hD
      have hP9 := hP.sub (ws' := [(h0_, .inr (8, [.ref h3_, .ref h4_, .ref h5_, .ref h6_, .ref h7_, .int p8_, .int 1201, .int p10_, .int p1_, .int p2_])), (h4_, .inl (k13_, 1202, .inl f14_))]) [0, 1] rfl
      have hD9 := hD.sub (ws' := [(h0_, .inr (8, [.ref h3_, .ref h4_, .ref h5_, .ref h6_, .ref h7_, .int p8_, .int 1201, .int p10_, .int p1_, .int p2_])), (h4_, .inl (k13_, 1202, .inl f14_))]) [0, 1] (by decide) rfl
      have hK9 := hK.sub (tys' := [(k13_, .int)]) [0] rfl
      refine W.widen (k := 0) (n := 0) (Nat.le_of_ble_eq_true rfl) (Nat.le_of_ble_eq_true rfl) ?_
      exact W.vret hx hb hr (fun t ht hW => ⟨⟨(), rfl, trivial, p1_, p2_, by rw [ht]; exact hP9, va_K.moved hW.alike hK9, hD9⟩, hS.F ht⟩) hS.2.2 dX8_fail_80
  · have fc_1 := nle_f c_1
    refine lv_iload_n hx hb dX8_fail_10 rfl (lv_at hl 1 rfl) ?_
    refine lv_iconst (v := 4) hx hb dX8_fail_11 (by decide) ?_
    have kc_4 : (4 : Int32).toInt = 4 := by decide
    refine lv_icmp_gt (tgt := 27) hx hb dX8_fail_12 (by decide) (fun c_3 => ?_) (fun c_3 => ?_)
    · have fc_3 := lt_f c_3
      refine lv_iconst (v := 1) hx hb dX8_fail_27 (by decide) ?_
      refine lv_goto (tgt := 32) hx hb dX8_fail_28 (by decide) ?_
      refine lv_istore_n (lv' := [(3, .int 1), (0, .ref h0_), (1, .int p1_), (2, .int p2_)]) hx hb dX8_fail_32 rfl hl (by decide) rfl (fun ls hl => ?_)
      refine lv_aload_n hx hb dX8_fail_33 rfl (lv_at hl 1 rfl) ?_
      refine va_get (D := (dC, dI)) (ci := 8) (v := .int p11_) (C := RX8) (T := TX8) (N := 10) hx hb hts (mc_ inX8) hown hK hP 0 rfl rfl 8 (by decide) (hts _ (List.mem_cons_of_mem _ t_295)) (fun _ h9 => h9) rfl dX8_fail_34 ?_
      have kc_0 : (0 : Int32).toInt = 0 := by decide
      refine lv_if_ne (tgt := 73) hx hb dX8_fail_37 (by decide) (fun c_4 => ?_) (fun c_4 => ?_)
      · have fc_4 := neq_f c_4
        refine lv_aload_n hx hb dX8_fail_73 rfl (lv_at hl 1 rfl) ?_
        refine lv_sipush (v := 1201) hx hb dX8_fail_74 (by decide) ?_
        refine va_put (D := (dC, dI)) (ci := 8) (v := .int 1201) (ty := tyX8 6) (C := RX8) (T := TX8) (N := 10) hx hb hts (mc_ inX8) tyX8 tyX8_ok nmX8 hown hK hP hD hS 0 rfl rfl 6 (by decide) (hts _ (List.mem_cons_of_mem _ t_291)) (fun _ h9 => h9) rfl (by decide +kernel) rfl rfl (Nat.le_of_ble_eq_true rfl) dX8_fail_77 (fun H locs hP hD hS => ?_)
        have hP : va_P (dC, dI) vwCl [(h0_, .inr (8, [.ref h3_, .ref h4_, .ref h5_, .ref h6_, .ref h7_, .int p8_, .int 1201, .int p10_, .int p11_, .int p12_])), (h4_, .inl (k13_, 1202, .inl f14_))] H := hP
        have hD : va_D A [(h0_, .inr (8, [.ref h3_, .ref h4_, .ref h5_, .ref h6_, .ref h7_, .int p8_, .int 1201, .int p10_, .int p11_, .int p12_])), (h4_, .inl (k13_, 1202, .inl f14_))] := hD
        have hP9 := hP.sub (ws' := [(h0_, .inr (8, [.ref h3_, .ref h4_, .ref h5_, .ref h6_, .ref h7_, .int p8_, .int 1201, .int p10_, .int p11_, .int p12_])), (h4_, .inl (k13_, 1202, .inl f14_))]) [0, 1] rfl
        have hD9 := hD.sub (ws' := [(h0_, .inr (8, [.ref h3_, .ref h4_, .ref h5_, .ref h6_, .ref h7_, .int p8_, .int 1201, .int p10_, .int p11_, .int p12_])), (h4_, .inl (k13_, 1202, .inl f14_))]) [0, 1] (by decide) rfl
        have hK9 := hK.sub (tys' := [(k13_, .int)]) [0] rfl
        refine W.widen (k := 0) (n := 0) (Nat.le_of_ble_eq_true rfl) (Nat.le_of_ble_eq_true rfl) ?_
        exact W.vret hx hb hr (fun t ht hW => ⟨⟨(), rfl, trivial, p11_, p12_, by rw [ht]; exact hP9, va_K.moved hW.alike hK9, hD9⟩, hS.F ht⟩) hS.2.2 dX8_fail_80
      · have fc_4 := eq_f c_4
        refine lv_aload_n hx hb dX8_fail_40 rfl (lv_at hl 1 rfl) ?_
        refine lv_iload_n hx hb dX8_fail_41 rfl (lv_at hl 0 rfl) ?_
        refine lv_if_eq (tgt := 49) hx hb dX8_fail_42 (by decide) (fun c_ => absurd c_ (by decide)) (fun c_ => ?_)
        refine lv_iconst (v := 4) hx hb dX8_fail_45 (by decide) ?_
        refine lv_goto (tgt := 50) hx hb dX8_fail_46 (by decide) ?_
        refine va_put (D := (dC, dI)) (ci := 8) (v := .int 4) (ty := tyX8 8) (C := RX8) (T := TX8) (N := 10) hx hb hts (mc_ inX8) tyX8 tyX8_ok nmX8 hown hK hP hD hS 0 rfl rfl 8 (by decide) (hts _ (List.mem_cons_of_mem _ t_295)) (fun _ h9 => h9) rfl (by decide +kernel) rfl rfl (Nat.le_of_ble_eq_true rfl) dX8_fail_50 (fun H locs hP hD hS => ?_)
        have hP : va_P (dC, dI) vwCl [(h0_, .inr (8, [.ref h3_, .ref h4_, .ref h5_, .ref h6_, .ref h7_, .int p8_, .int p9_, .int p10_, .int 4, .int p12_])), (h4_, .inl (k13_, 1202, .inl f14_))] H := hP
        have hD : va_D A [(h0_, .inr (8, [.ref h3_, .ref h4_, .ref h5_, .ref h6_, .ref h7_, .int p8_, .int p9_, .int p10_, .int 4, .int p12_])), (h4_, .inl (k13_, 1202, .inl f14_))] := hD
        refine lv_aload_n hx hb dX8_fail_53 rfl (lv_at hl 1 rfl) ?_
        refine lv_iload_n hx hb dX8_fail_54 rfl (lv_at hl 0 rfl) ?_
        refine lv_if_eq (tgt := 69) hx hb dX8_fail_55 (by decide) (fun c_ => absurd c_ (by decide)) (fun c_ => ?_)
        refine lv_aload_n hx hb dX8_fail_58 rfl (lv_at hl 1 rfl) ?_
        refine va_get (D := (dC, dI)) (ci := 8) (v := .ref h4_) (C := RX8) (T := TX8) (N := 10) hx hb hts (mc_ inX8) hown hK hP 0 rfl rfl 1 (by decide) (hts _ (List.mem_cons_of_mem _ t_286)) (fun _ h9 => h9) rfl dX8_fail_59 ?_
        refine lv_sipush (v := 1200) hx hb dX8_fail_62 (by decide) ?_
        refine va_iald hx hb hK hP 1 0 rfl rfl (by unfold vp_in; decide) dX8_fail_65 ?_
        refine lv_topi (fun y_5 ey_5 => ?_)
        refine lv_goto (tgt := 70) hx hb dX8_fail_66 (by decide) ?_
        refine va_put (D := (dC, dI)) (ci := 8) (v := .int y_5) (ty := tyX8 9) (C := RX8) (T := TX8) (N := 10) hx hb hts (mc_ inX8) tyX8 tyX8_ok nmX8 hown hK hP hD hS 0 rfl rfl 9 (by decide) (hts _ (List.mem_cons_of_mem _ t_296)) (fun _ h9 => h9) rfl (by decide +kernel) rfl rfl (Nat.le_of_ble_eq_true rfl) dX8_fail_70 (fun H locs hP hD hS => ?_)
        have hP : va_P (dC, dI) vwCl [(h0_, .inr (8, [.ref h3_, .ref h4_, .ref h5_, .ref h6_, .ref h7_, .int p8_, .int p9_, .int p10_, .int 4, .int y_5])), (h4_, .inl (k13_, 1202, .inl f14_))] H := hP
        have hD : va_D A [(h0_, .inr (8, [.ref h3_, .ref h4_, .ref h5_, .ref h6_, .ref h7_, .int p8_, .int p9_, .int p10_, .int 4, .int y_5])), (h4_, .inl (k13_, 1202, .inl f14_))] := hD
        refine lv_aload_n hx hb dX8_fail_73 rfl (lv_at hl 1 rfl) ?_
        refine lv_sipush (v := 1201) hx hb dX8_fail_74 (by decide) ?_
        refine va_put (D := (dC, dI)) (ci := 8) (v := .int 1201) (ty := tyX8 6) (C := RX8) (T := TX8) (N := 10) hx hb hts (mc_ inX8) tyX8 tyX8_ok nmX8 hown hK hP hD hS 0 rfl rfl 6 (by decide) (hts _ (List.mem_cons_of_mem _ t_291)) (fun _ h9 => h9) rfl (by decide +kernel) rfl rfl (Nat.le_of_ble_eq_true rfl) dX8_fail_77 (fun H locs hP hD hS => ?_)
        have hP : va_P (dC, dI) vwCl [(h0_, .inr (8, [.ref h3_, .ref h4_, .ref h5_, .ref h6_, .ref h7_, .int p8_, .int 1201, .int p10_, .int 4, .int y_5])), (h4_, .inl (k13_, 1202, .inl f14_))] H := hP
        have hD : va_D A [(h0_, .inr (8, [.ref h3_, .ref h4_, .ref h5_, .ref h6_, .ref h7_, .int p8_, .int 1201, .int p10_, .int 4, .int y_5])), (h4_, .inl (k13_, 1202, .inl f14_))] := hD
        have hP9 := hP.sub (ws' := [(h0_, .inr (8, [.ref h3_, .ref h4_, .ref h5_, .ref h6_, .ref h7_, .int p8_, .int 1201, .int p10_, .int 4, .int y_5])), (h4_, .inl (k13_, 1202, .inl f14_))]) [0, 1] rfl
        have hD9 := hD.sub (ws' := [(h0_, .inr (8, [.ref h3_, .ref h4_, .ref h5_, .ref h6_, .ref h7_, .int p8_, .int 1201, .int p10_, .int 4, .int y_5])), (h4_, .inl (k13_, 1202, .inl f14_))]) [0, 1] (by decide) rfl
        have hK9 := hK.sub (tys' := [(k13_, .int)]) [0] rfl
        refine W.widen (k := 0) (n := 0) (Nat.le_of_ble_eq_true rfl) (Nat.le_of_ble_eq_true rfl) ?_
        exact W.vret hx hb hr (fun t ht hW => ⟨⟨(), rfl, trivial, 4, y_5, by rw [ht]; exact hP9, va_K.moved hW.alike hK9, hD9⟩, hS.F ht⟩) hS.2.2 dX8_fail_80
    · have fc_3 := nlt_f c_3
      refine lv_iload_n hx hb dX8_fail_15 rfl (lv_at hl 2 rfl) ?_
      refine lv_aload_n hx hb dX8_fail_16 rfl (lv_at hl 0 rfl) ?_
      refine va_get (D := (dC, dI)) (ci := 8) (v := .ref h4_) (C := RX8) (T := TX8) (N := 10) hx hb hts (mc_ inX8) hown hK hP 0 rfl rfl 1 (by decide) (hts _ (List.mem_cons_of_mem _ t_286)) (fun _ h9 => h9) rfl dX8_fail_17 ?_
      refine lv_sipush (v := 1200) hx hb dX8_fail_20 (by decide) ?_
      refine va_iald hx hb hK hP 1 0 rfl rfl (by unfold vp_in; decide) dX8_fail_23 ?_
      refine lv_topi (fun y_6 ey_6 => ?_)
      refine lv_icmp_eq (tgt := 31) hx hb dX8_fail_24 (by decide) (fun c_7 => ?_) (fun c_7 => ?_)
      · have fc_7 := eq_f c_7
        refine lv_iconst (v := 0) hx hb dX8_fail_31 (by decide) ?_
        refine lv_istore_n (lv' := [(3, .int 0), (0, .ref h0_), (1, .int p1_), (2, .int p2_)]) hx hb dX8_fail_32 rfl hl (by decide) rfl (fun ls hl => ?_)
        refine lv_aload_n hx hb dX8_fail_33 rfl (lv_at hl 1 rfl) ?_
        refine va_get (D := (dC, dI)) (ci := 8) (v := .int p11_) (C := RX8) (T := TX8) (N := 10) hx hb hts (mc_ inX8) hown hK hP 0 rfl rfl 8 (by decide) (hts _ (List.mem_cons_of_mem _ t_295)) (fun _ h9 => h9) rfl dX8_fail_34 ?_
        have kc_0 : (0 : Int32).toInt = 0 := by decide
        refine lv_if_ne (tgt := 73) hx hb dX8_fail_37 (by decide) (fun c_8 => ?_) (fun c_8 => ?_)
        · have fc_8 := neq_f c_8
          refine lv_aload_n hx hb dX8_fail_73 rfl (lv_at hl 1 rfl) ?_
          refine lv_sipush (v := 1201) hx hb dX8_fail_74 (by decide) ?_
          refine va_put (D := (dC, dI)) (ci := 8) (v := .int 1201) (ty := tyX8 6) (C := RX8) (T := TX8) (N := 10) hx hb hts (mc_ inX8) tyX8 tyX8_ok nmX8 hown hK hP hD hS 0 rfl rfl 6 (by decide) (hts _ (List.mem_cons_of_mem _ t_291)) (fun _ h9 => h9) rfl (by decide +kernel) rfl rfl (Nat.le_of_ble_eq_true rfl) dX8_fail_77 (fun H locs hP hD hS => ?_)
          have hP : va_P (dC, dI) vwCl [(h0_, .inr (8, [.ref h3_, .ref h4_, .ref h5_, .ref h6_, .ref h7_, .int p8_, .int 1201, .int p10_, .int p11_, .int p12_])), (h4_, .inl (k13_, 1202, .inl f14_))] H := hP
          have hD : va_D A [(h0_, .inr (8, [.ref h3_, .ref h4_, .ref h5_, .ref h6_, .ref h7_, .int p8_, .int 1201, .int p10_, .int p11_, .int p12_])), (h4_, .inl (k13_, 1202, .inl f14_))] := hD
          have hP9 := hP.sub (ws' := [(h0_, .inr (8, [.ref h3_, .ref h4_, .ref h5_, .ref h6_, .ref h7_, .int p8_, .int 1201, .int p10_, .int p11_, .int p12_])), (h4_, .inl (k13_, 1202, .inl f14_))]) [0, 1] rfl
          have hD9 := hD.sub (ws' := [(h0_, .inr (8, [.ref h3_, .ref h4_, .ref h5_, .ref h6_, .ref h7_, .int p8_, .int 1201, .int p10_, .int p11_, .int p12_])), (h4_, .inl (k13_, 1202, .inl f14_))]) [0, 1] (by decide) rfl
          have hK9 := hK.sub (tys' := [(k13_, .int)]) [0] rfl
          refine W.widen (k := 0) (n := 0) (Nat.le_of_ble_eq_true rfl) (Nat.le_of_ble_eq_true rfl) ?_
          exact W.vret hx hb hr (fun t ht hW => ⟨⟨(), rfl, trivial, p11_, p12_, by rw [ht]; exact hP9, va_K.moved hW.alike hK9, hD9⟩, hS.F ht⟩) hS.2.2 dX8_fail_80
        · have fc_8 := eq_f c_8
          refine lv_aload_n hx hb dX8_fail_40 rfl (lv_at hl 1 rfl) ?_
          refine lv_iload_n hx hb dX8_fail_41 rfl (lv_at hl 0 rfl) ?_
          refine lv_if_eq (tgt := 49) hx hb dX8_fail_42 (by decide) (fun c_ => ?_) (fun c_ => absurd (by decide) c_)
          refine lv_iload_n hx hb dX8_fail_49 rfl (lv_at hl 2 rfl) ?_
          refine va_put (D := (dC, dI)) (ci := 8) (v := .int p1_) (ty := tyX8 8) (C := RX8) (T := TX8) (N := 10) hx hb hts (mc_ inX8) tyX8 tyX8_ok nmX8 hown hK hP hD hS 0 rfl rfl 8 (by decide) (hts _ (List.mem_cons_of_mem _ t_295)) (fun _ h9 => h9) rfl (by decide +kernel) rfl rfl (Nat.le_of_ble_eq_true rfl) dX8_fail_50 (fun H locs hP hD hS => ?_)
          have hP : va_P (dC, dI) vwCl [(h0_, .inr (8, [.ref h3_, .ref h4_, .ref h5_, .ref h6_, .ref h7_, .int p8_, .int p9_, .int p10_, .int p1_, .int p12_])), (h4_, .inl (k13_, 1202, .inl f14_))] H := hP
          have hD : va_D A [(h0_, .inr (8, [.ref h3_, .ref h4_, .ref h5_, .ref h6_, .ref h7_, .int p8_, .int p9_, .int p10_, .int p1_, .int p12_])), (h4_, .inl (k13_, 1202, .inl f14_))] := hD
          refine lv_aload_n hx hb dX8_fail_53 rfl (lv_at hl 1 rfl) ?_
          refine lv_iload_n hx hb dX8_fail_54 rfl (lv_at hl 0 rfl) ?_
          refine lv_if_eq (tgt := 69) hx hb dX8_fail_55 (by decide) (fun c_ => ?_) (fun c_ => absurd (by decide) c_)
          refine lv_iload_n hx hb dX8_fail_69 rfl (lv_at hl 3 rfl) ?_
          refine va_put (D := (dC, dI)) (ci := 8) (v := .int p2_) (ty := tyX8 9) (C := RX8) (T := TX8) (N := 10) hx hb hts (mc_ inX8) tyX8 tyX8_ok nmX8 hown hK hP hD hS 0 rfl rfl 9 (by decide) (hts _ (List.mem_cons_of_mem _ t_296)) (fun _ h9 => h9) rfl (by decide +kernel) rfl rfl (Nat.le_of_ble_eq_true rfl) dX8_fail_70 (fun H locs hP hD hS => ?_)
          have hP : va_P (dC, dI) vwCl [(h0_, .inr (8, [.ref h3_, .ref h4_, .ref h5_, .ref h6_, .ref h7_, .int p8_, .int p9_, .int p10_, .int p1_, .int p2_])), (h4_, .inl (k13_, 1202, .inl f14_))] H := hP
          have hD : va_D A [(h0_, .inr (8, [.ref h3_, .ref h4_, .ref h5_, .ref h6_, .ref h7_, .int p8_, .int p9_, .int p10_, .int p1_, .int p2_])), (h4_, .inl (k13_, 1202, .inl f14_))] := hD
          refine lv_aload_n hx hb dX8_fail_73 rfl (lv_at hl 1 rfl) ?_
          refine lv_sipush (v := 1201) hx hb dX8_fail_74 (by decide) ?_
          refine va_put (D := (dC, dI)) (ci := 8) (v := .int 1201) (ty := tyX8 6) (C := RX8) (T := TX8) (N := 10) hx hb hts (mc_ inX8) tyX8 tyX8_ok nmX8 hown hK hP hD hS 0 rfl rfl 6 (by decide) (hts _ (List.mem_cons_of_mem _ t_291)) (fun _ h9 => h9) rfl (by decide +kernel) rfl rfl (Nat.le_of_ble_eq_true rfl) dX8_fail_77 (fun H locs hP hD hS => ?_)
          have hP : va_P (dC, dI) vwCl [(h0_, .inr (8, [.ref h3_, .ref h4_, .ref h5_, .ref h6_, .ref h7_, .int p8_, .int 1201, .int p10_, .int p1_, .int p2_])), (h4_, .inl (k13_, 1202, .inl f14_))] H := hP
          have hD : va_D A [(h0_, .inr (8, [.ref h3_, .ref h4_, .ref h5_, .ref h6_, .ref h7_, .int p8_, .int 1201, .int p10_, .int p1_, .int p2_])), (h4_, .inl (k13_, 1202, .inl f14_))] := hD
          have hP9 := hP.sub (ws' := [(h0_, .inr (8, [.ref h3_, .ref h4_, .ref h5_, .ref h6_, .ref h7_, .int p8_, .int 1201, .int p10_, .int p1_, .int p2_])), (h4_, .inl (k13_, 1202, .inl f14_))]) [0, 1] rfl
          have hD9 := hD.sub (ws' := [(h0_, .inr (8, [.ref h3_, .ref h4_, .ref h5_, .ref h6_, .ref h7_, .int p8_, .int 1201, .int p10_, .int p1_, .int p2_])), (h4_, .inl (k13_, 1202, .inl f14_))]) [0, 1] (by decide) rfl
          have hK9 := hK.sub (tys' := [(k13_, .int)]) [0] rfl
          refine W.widen (k := 0) (n := 0) (Nat.le_of_ble_eq_true rfl) (Nat.le_of_ble_eq_true rfl) ?_
          exact W.vret hx hb hr (fun t ht hW => ⟨⟨(), rfl, trivial, p1_, p2_, by rw [ht]; exact hP9, va_K.moved hW.alike hK9, hD9⟩, hS.F ht⟩) hS.2.2 dX8_fail_80
      · have fc_7 := neq_f c_7
        refine lv_iconst (v := 1) hx hb dX8_fail_27 (by decide) ?_
        refine lv_goto (tgt := 32) hx hb dX8_fail_28 (by decide) ?_
        refine lv_istore_n (lv' := [(3, .int 1), (0, .ref h0_), (1, .int p1_), (2, .int p2_)]) hx hb dX8_fail_32 rfl hl (by decide) rfl (fun ls hl => ?_)
        refine lv_aload_n hx hb dX8_fail_33 rfl (lv_at hl 1 rfl) ?_
        refine va_get (D := (dC, dI)) (ci := 8) (v := .int p11_) (C := RX8) (T := TX8) (N := 10) hx hb hts (mc_ inX8) hown hK hP 0 rfl rfl 8 (by decide) (hts _ (List.mem_cons_of_mem _ t_295)) (fun _ h9 => h9) rfl dX8_fail_34 ?_
        have kc_0 : (0 : Int32).toInt = 0 := by decide
        refine lv_if_ne (tgt := 73) hx hb dX8_fail_37 (by decide) (fun c_9 => ?_) (fun c_9 => ?_)
        · have fc_9 := neq_f c_9
          refine lv_aload_n hx hb dX8_fail_73 rfl (lv_at hl 1 rfl) ?_
          refine lv_sipush (v := 1201) hx hb dX8_fail_74 (by decide) ?_
          refine va_put (D := (dC, dI)) (ci := 8) (v := .int 1201) (ty := tyX8 6) (C := RX8) (T := TX8) (N := 10) hx hb hts (mc_ inX8) tyX8 tyX8_ok nmX8 hown hK hP hD hS 0 rfl rfl 6 (by decide) (hts _ (List.mem_cons_of_mem _ t_291)) (fun _ h9 => h9) rfl (by decide +kernel) rfl rfl (Nat.le_of_ble_eq_true rfl) dX8_fail_77 (fun H locs hP hD hS => ?_)
          have hP : va_P (dC, dI) vwCl [(h0_, .inr (8, [.ref h3_, .ref h4_, .ref h5_, .ref h6_, .ref h7_, .int p8_, .int 1201, .int p10_, .int p11_, .int p12_])), (h4_, .inl (k13_, 1202, .inl f14_))] H := hP
          have hD : va_D A [(h0_, .inr (8, [.ref h3_, .ref h4_, .ref h5_, .ref h6_, .ref h7_, .int p8_, .int 1201, .int p10_, .int p11_, .int p12_])), (h4_, .inl (k13_, 1202, .inl f14_))] := hD
          have hP9 := hP.sub (ws' := [(h0_, .inr (8, [.ref h3_, .ref h4_, .ref h5_, .ref h6_, .ref h7_, .int p8_, .int 1201, .int p10_, .int p11_, .int p12_])), (h4_, .inl (k13_, 1202, .inl f14_))]) [0, 1] rfl
          have hD9 := hD.sub (ws' := [(h0_, .inr (8, [.ref h3_, .ref h4_, .ref h5_, .ref h6_, .ref h7_, .int p8_, .int 1201, .int p10_, .int p11_, .int p12_])), (h4_, .inl (k13_, 1202, .inl f14_))]) [0, 1] (by decide) rfl
          have hK9 := hK.sub (tys' := [(k13_, .int)]) [0] rfl
          refine W.widen (k := 0) (n := 0) (Nat.le_of_ble_eq_true rfl) (Nat.le_of_ble_eq_true rfl) ?_
          exact W.vret hx hb hr (fun t ht hW => ⟨⟨(), rfl, trivial, p11_, p12_, by rw [ht]; exact hP9, va_K.moved hW.alike hK9, hD9⟩, hS.F ht⟩) hS.2.2 dX8_fail_80
        · have fc_9 := eq_f c_9
          refine lv_aload_n hx hb dX8_fail_40 rfl (lv_at hl 1 rfl) ?_
          refine lv_iload_n hx hb dX8_fail_41 rfl (lv_at hl 0 rfl) ?_
          refine lv_if_eq (tgt := 49) hx hb dX8_fail_42 (by decide) (fun c_ => absurd c_ (by decide)) (fun c_ => ?_)
          refine lv_iconst (v := 4) hx hb dX8_fail_45 (by decide) ?_
          refine lv_goto (tgt := 50) hx hb dX8_fail_46 (by decide) ?_
          refine va_put (D := (dC, dI)) (ci := 8) (v := .int 4) (ty := tyX8 8) (C := RX8) (T := TX8) (N := 10) hx hb hts (mc_ inX8) tyX8 tyX8_ok nmX8 hown hK hP hD hS 0 rfl rfl 8 (by decide) (hts _ (List.mem_cons_of_mem _ t_295)) (fun _ h9 => h9) rfl (by decide +kernel) rfl rfl (Nat.le_of_ble_eq_true rfl) dX8_fail_50 (fun H locs hP hD hS => ?_)
          have hP : va_P (dC, dI) vwCl [(h0_, .inr (8, [.ref h3_, .ref h4_, .ref h5_, .ref h6_, .ref h7_, .int p8_, .int p9_, .int p10_, .int 4, .int p12_])), (h4_, .inl (k13_, 1202, .inl f14_))] H := hP
          have hD : va_D A [(h0_, .inr (8, [.ref h3_, .ref h4_, .ref h5_, .ref h6_, .ref h7_, .int p8_, .int p9_, .int p10_, .int 4, .int p12_])), (h4_, .inl (k13_, 1202, .inl f14_))] := hD
          refine lv_aload_n hx hb dX8_fail_53 rfl (lv_at hl 1 rfl) ?_
          refine lv_iload_n hx hb dX8_fail_54 rfl (lv_at hl 0 rfl) ?_
          refine lv_if_eq (tgt := 69) hx hb dX8_fail_55 (by decide) (fun c_ => absurd c_ (by decide)) (fun c_ => ?_)
          refine lv_aload_n hx hb dX8_fail_58 rfl (lv_at hl 1 rfl) ?_
          refine va_get (D := (dC, dI)) (ci := 8) (v := .ref h4_) (C := RX8) (T := TX8) (N := 10) hx hb hts (mc_ inX8) hown hK hP 0 rfl rfl 1 (by decide) (hts _ (List.mem_cons_of_mem _ t_286)) (fun _ h9 => h9) rfl dX8_fail_59 ?_
          refine lv_sipush (v := 1200) hx hb dX8_fail_62 (by decide) ?_
          refine va_iald hx hb hK hP 1 0 rfl rfl (by unfold vp_in; decide) dX8_fail_65 ?_
          refine lv_topi (fun y_10 ey_10 => ?_)
          refine lv_goto (tgt := 70) hx hb dX8_fail_66 (by decide) ?_
          refine va_put (D := (dC, dI)) (ci := 8) (v := .int y_10) (ty := tyX8 9) (C := RX8) (T := TX8) (N := 10) hx hb hts (mc_ inX8) tyX8 tyX8_ok nmX8 hown hK hP hD hS 0 rfl rfl 9 (by decide) (hts _ (List.mem_cons_of_mem _ t_296)) (fun _ h9 => h9) rfl (by decide +kernel) rfl rfl (Nat.le_of_ble_eq_true rfl) dX8_fail_70 (fun H locs hP hD hS => ?_)
          have hP : va_P (dC, dI) vwCl [(h0_, .inr (8, [.ref h3_, .ref h4_, .ref h5_, .ref h6_, .ref h7_, .int p8_, .int p9_, .int p10_, .int 4, .int y_10])), (h4_, .inl (k13_, 1202, .inl f14_))] H := hP
          have hD : va_D A [(h0_, .inr (8, [.ref h3_, .ref h4_, .ref h5_, .ref h6_, .ref h7_, .int p8_, .int p9_, .int p10_, .int 4, .int y_10])), (h4_, .inl (k13_, 1202, .inl f14_))] := hD
          refine lv_aload_n hx hb dX8_fail_73 rfl (lv_at hl 1 rfl) ?_
          refine lv_sipush (v := 1201) hx hb dX8_fail_74 (by decide) ?_
          refine va_put (D := (dC, dI)) (ci := 8) (v := .int 1201) (ty := tyX8 6) (C := RX8) (T := TX8) (N := 10) hx hb hts (mc_ inX8) tyX8 tyX8_ok nmX8 hown hK hP hD hS 0 rfl rfl 6 (by decide) (hts _ (List.mem_cons_of_mem _ t_291)) (fun _ h9 => h9) rfl (by decide +kernel) rfl rfl (Nat.le_of_ble_eq_true rfl) dX8_fail_77 (fun H locs hP hD hS => ?_)
          have hP : va_P (dC, dI) vwCl [(h0_, .inr (8, [.ref h3_, .ref h4_, .ref h5_, .ref h6_, .ref h7_, .int p8_, .int 1201, .int p10_, .int 4, .int y_10])), (h4_, .inl (k13_, 1202, .inl f14_))] H := hP
          have hD : va_D A [(h0_, .inr (8, [.ref h3_, .ref h4_, .ref h5_, .ref h6_, .ref h7_, .int p8_, .int 1201, .int p10_, .int 4, .int y_10])), (h4_, .inl (k13_, 1202, .inl f14_))] := hD
          have hP9 := hP.sub (ws' := [(h0_, .inr (8, [.ref h3_, .ref h4_, .ref h5_, .ref h6_, .ref h7_, .int p8_, .int 1201, .int p10_, .int 4, .int y_10])), (h4_, .inl (k13_, 1202, .inl f14_))]) [0, 1] rfl
          have hD9 := hD.sub (ws' := [(h0_, .inr (8, [.ref h3_, .ref h4_, .ref h5_, .ref h6_, .ref h7_, .int p8_, .int 1201, .int p10_, .int 4, .int y_10])), (h4_, .inl (k13_, 1202, .inl f14_))]) [0, 1] (by decide) rfl
          have hK9 := hK.sub (tys' := [(k13_, .int)]) [0] rfl
          refine W.widen (k := 0) (n := 0) (Nat.le_of_ble_eq_true rfl) (Nat.le_of_ble_eq_true rfl) ?_
          exact W.vret hx hb hr (fun t ht hW => ⟨⟨(), rfl, trivial, 4, y_10, by rw [ht]; exact hP9, va_K.moved hW.alike hK9, hD9⟩, hS.F ht⟩) hS.2.2 dX8_fail_80
set_option maxHeartbeats 4000000 in
set_option maxRecDepth 100000 in
theorem s_X8_atBracket (l : Launch) (dC : Nat → ClassId) (dI : Nat → Nat → Nat) (h0_ : Nat) (h1_ : Nat) (h2_ : Nat) (h3_ : Nat) (h4_ : Nat) (h5_ : Nat) (p6_ : Int32) (p7_ : Int32) (p8_ : Int32) (p9_ : Int32) (p10_ : Int32) (k11_ : ClassId) (f12_ : Nat → Int32) (hb_p6_ : 0 ≤ p6_.toInt ∧ p6_.toInt ≤ 4000) (hb_p7_ : 0 ≤ p7_.toInt ∧ p7_.toInt ≤ 1201) (hb_p8_ : 0 ≤ p8_.toInt ∧ p8_.toInt ≤ 1) (sz : Nat) : Met l yX8_atBracket (.code yX8_atBracket cX8_atBracket 1 (some .boolean) :: lw_g) ({ frames := 0, cells := 0, slots := 0, locals := 0 }) (va_Pc [.ref h0_] (fun U => U.heap.size = sz ∧ va_P (dC, dI) vwCl [(h0_, .inr (8, [.ref h1_, .ref h2_, .ref h3_, .ref h4_, .ref h5_, .int p6_, .int p7_, .int p8_, .int p9_, .int p10_])), (h1_, .inl (k11_, 1202, .inl f12_))] U.heap ∧ va_K (dC, dI) vwCl [(k11_, .int)] U ∧ va_D (fun _ => True) [(h0_, .inr (8, [.ref h1_, .ref h2_, .ref h3_, .ref h4_, .ref h5_, .int p6_, .int p7_, .int p8_, .int p9_, .int p10_])), (h1_, .inl (k11_, 1202, .inl f12_))])) (va_Qi (fun (r : Int32) (_ : Unit) => 0 ≤ r.toInt ∧ r.toInt ≤ 1) (fun (_ : Unit) (t : State) => va_P (dC, dI) vwCl [(h0_, .inr (8, [.ref h1_, .ref h2_, .ref h3_, .ref h4_, .ref h5_, .int p6_, .int p7_, .int p8_, .int p9_, .int p10_])), (h1_, .inl (k11_, 1202, .inl f12_))] t.heap ∧ va_K (dC, dI) vwCl [(k11_, .int)] t ∧ va_D (va_A [(h0_, .inr (8, [.ref h1_, .ref h2_, .ref h3_, .ref h4_, .ref h5_, .int p6_, .int p7_, .int p8_, .int p9_, .int p10_])), (h1_, .inl (k11_, 1202, .inl f12_))] sz) [(h0_, .inr (8, [.ref h1_, .ref h2_, .ref h3_, .ref h4_, .ref h5_, .int p6_, .int p7_, .int p8_, .int p9_, .int p10_])), (h1_, .inl (k11_, 1202, .inl f12_))]) (va_A [(h0_, .inr (8, [.ref h1_, .ref h2_, .ref h3_, .ref h4_, .ref h5_, .int p6_, .int p7_, .int p8_, .int p9_, .int p10_])), (h1_, .inl (k11_, 1202, .inl f12_))] sz)) 0 0 (va_A [(h0_, .inr (8, [.ref h1_, .ref h2_, .ref h3_, .ref h4_, .ref h5_, .int p6_, .int p7_, .int p8_, .int p9_, .int p10_])), (h1_, .inl (k11_, 1202, .inl f12_))] sz) := by
  refine Met.ofW (cc := cX8_atBracket) (maxL := 1) (ret := (some .boolean)) (by decide) rfl ?_
  intro p e s m args below meth c s₁ B hml hv
  obtain ⟨rfl, hsz, hP, hK, hD0⟩ := hv
  have hx := B.exec
  have hb := B.bytes
  have hr := B.returns
  have hts := atoms_spec (ws := (.code yX8_atBracket cX8_atBracket 1 (some .boolean) :: lw_g)) B.pre
  have hown : s.vm.findClass RX8 = some m.cls := findClass_of_methodNamed B.named
  have hlocks := B.notSynchronized
  subst hsz
  have hD := hD0.self (sz := s.heap.size)
  generalize hAe : va_A [(h0_, .inr (8, [.ref h1_, .ref h2_, .ref h3_, .ref h4_, .ref h5_, .int p6_, .int p7_, .int p8_, .int p9_, .int p10_])), (h1_, .inl (k11_, 1202, .inl f12_))] s.heap.size = A at hD ⊢
  have hA : ∀ q : Nat, s.heap.size ≤ q → A q := fun q h => by rw [← hAe]; exact Or.inr h
  have hS : va_S A s.heap s.heap [] := va_S.rf
  have hP : va_P (dC, dI) vwCl [(h0_, .inr (8, [.ref h1_, .ref h2_, .ref h3_, .ref h4_, .ref h5_, .int p6_, .int p7_, .int p8_, .int p9_, .int p10_])), (h1_, .inl (k11_, 1202, .inl f12_))] s.heap := hP
  have hl := lv_entry ([.ref h0_]) (n := 1) (Nat.le_of_ble_eq_true rfl)
  rw [lg_entry_eq]
  generalize (lg_sl ([.ref h0_]) ++ List.replicate (1 - (lg_sl ([.ref h0_])).length) Slot.unset).toArray = ls at hl ⊢
  have hl : lv_has ls 1 [(0, .ref h0_)] := hl
  refine lv_aload_n hx hb dX8_atBracket_0 rfl (lv_at hl 0 rfl) ?_
  refine va_get (D := (dC, dI)) (ci := 8) (v := .int p7_) (C := RX8) (T := TX8) (N := 10) hx hb hts (mc_ inX8) hown hK hP 0 rfl rfl 6 (by decide) (hts _ (List.mem_cons_of_mem _ t_291)) (fun _ h9 => h9) rfl dX8_atBracket_1 ?_
  refine lv_sipush (v := 1200) hx hb dX8_atBracket_4 (by decide) ?_
  have kc_1200 : (1200 : Int32).toInt = 1200 := by decide
  refine lv_icmp_le (tgt := 17) hx hb dX8_atBracket_7 (by decide) (fun c_1 => ?_) (fun c_1 => ?_)
  · have fc_1 := le_f c_1
    refine lv_aload_n hx hb dX8_atBracket_17 rfl (lv_at hl 0 rfl) ?_
    refine va_get (D := (dC, dI)) (ci := 8) (v := .ref h1_) (C := RX8) (T := TX8) (N := 10) hx hb hts (mc_ inX8) hown hK hP 0 rfl rfl 0 (by decide) (hts _ (List.mem_cons_of_mem _ t_285)) (fun _ h9 => h9) rfl dX8_atBracket_18 ?_
    refine lv_aload_n hx hb dX8_atBracket_21 rfl (lv_at hl 0 rfl) ?_
    refine va_get (D := (dC, dI)) (ci := 8) (v := .int p7_) (C := RX8) (T := TX8) (N := 10) hx hb hts (mc_ inX8) hown hK hP 0 rfl rfl 6 (by decide) (hts _ (List.mem_cons_of_mem _ t_291)) (fun _ h9 => h9) rfl dX8_atBracket_22 ?_
    refine va_iald hx hb hK hP 1 0 rfl rfl (in_ok (by omega) (by omega)) dX8_atBracket_25 ?_
    refine lv_topi (fun y_2 ey_2 => ?_)
    refine lv_bipush (v := 40) hx hb dX8_atBracket_26 (by decide) ?_
    have kc_40 : (40 : Int32).toInt = 40 := by decide
    refine lv_icmp_ne (tgt := 35) hx hb dX8_atBracket_28 (by decide) (fun c_3 => ?_) (fun c_3 => ?_)
    · have fc_3 := neq_f c_3
      refine lv_iconst (v := 0) hx hb dX8_atBracket_35 (by decide) ?_
      have hP9 := hP.sub (ws' := [(h0_, .inr (8, [.ref h1_, .ref h2_, .ref h3_, .ref h4_, .ref h5_, .int p6_, .int p7_, .int p8_, .int p9_, .int p10_])), (h1_, .inl (k11_, 1202, .inl f12_))]) [0, 1] rfl
      have hD9 := hD.sub (ws' := [(h0_, .inr (8, [.ref h1_, .ref h2_, .ref h3_, .ref h4_, .ref h5_, .int p6_, .int p7_, .int p8_, .int p9_, .int p10_])), (h1_, .inl (k11_, 1202, .inl f12_))]) [0, 1] (by decide) rfl
      have hK9 := hK.sub (tys' := [(k11_, .int)]) [0] rfl
      refine W.widen (k := 0) (n := 0) (Nat.le_of_ble_eq_true rfl) (Nat.le_of_ble_eq_true rfl) ?_
      exact W.zret (v := 0) hx hb hr rfl (fun t ht hW => ⟨⟨_, (), rfl, ⟨by decide, by decide⟩, by rw [ht]; exact hP9, va_K.moved hW.alike hK9, hD9⟩, hS.F ht⟩) hS.2.2 dX8_atBracket_36
    · have fc_3 := eq_f c_3
      refine lv_iconst (v := 1) hx hb dX8_atBracket_31 (by decide) ?_
      refine lv_goto (tgt := 36) hx hb dX8_atBracket_32 (by decide) ?_
      have hP9 := hP.sub (ws' := [(h0_, .inr (8, [.ref h1_, .ref h2_, .ref h3_, .ref h4_, .ref h5_, .int p6_, .int p7_, .int p8_, .int p9_, .int p10_])), (h1_, .inl (k11_, 1202, .inl f12_))]) [0, 1] rfl
      have hD9 := hD.sub (ws' := [(h0_, .inr (8, [.ref h1_, .ref h2_, .ref h3_, .ref h4_, .ref h5_, .int p6_, .int p7_, .int p8_, .int p9_, .int p10_])), (h1_, .inl (k11_, 1202, .inl f12_))]) [0, 1] (by decide) rfl
      have hK9 := hK.sub (tys' := [(k11_, .int)]) [0] rfl
      refine W.widen (k := 0) (n := 0) (Nat.le_of_ble_eq_true rfl) (Nat.le_of_ble_eq_true rfl) ?_
      exact W.zret (v := 1) hx hb hr rfl (fun t ht hW => ⟨⟨_, (), rfl, ⟨by decide, by decide⟩, by rw [ht]; exact hP9, va_K.moved hW.alike hK9, hD9⟩, hS.F ht⟩) hS.2.2 dX8_atBracket_36
  · have fc_1 := nle_f c_1
    refine lv_aload_n hx hb dX8_atBracket_10 rfl (lv_at hl 0 rfl) ?_
    refine va_get (D := (dC, dI)) (ci := 8) (v := .int p8_) (C := RX8) (T := TX8) (N := 10) hx hb hts (mc_ inX8) hown hK hP 0 rfl rfl 7 (by decide) (hts _ (List.mem_cons_of_mem _ t_292)) (fun _ h9 => h9) rfl dX8_atBracket_11 ?_
    refine lv_goto (tgt := 36) hx hb dX8_atBracket_14 (by decide) ?_
    have hP9 := hP.sub (ws' := [(h0_, .inr (8, [.ref h1_, .ref h2_, .ref h3_, .ref h4_, .ref h5_, .int p6_, .int p7_, .int p8_, .int p9_, .int p10_])), (h1_, .inl (k11_, 1202, .inl f12_))]) [0, 1] rfl
    have hD9 := hD.sub (ws' := [(h0_, .inr (8, [.ref h1_, .ref h2_, .ref h3_, .ref h4_, .ref h5_, .int p6_, .int p7_, .int p8_, .int p9_, .int p10_])), (h1_, .inl (k11_, 1202, .inl f12_))]) [0, 1] (by decide) rfl
    have hK9 := hK.sub (tys' := [(k11_, .int)]) [0] rfl
    refine W.widen (k := 0) (n := 0) (Nat.le_of_ble_eq_true rfl) (Nat.le_of_ble_eq_true rfl) ?_
    exact W.zret (v := p8_) hx hb hr (nar_z (by omega) (by omega)) (fun t ht hW => ⟨⟨_, (), rfl, ⟨by omega, by omega⟩, by rw [ht]; exact hP9, va_K.moved hW.alike hK9, hD9⟩, hS.F ht⟩) hS.2.2 dX8_atBracket_36
set_option maxHeartbeats 4000000 in
set_option maxRecDepth 100000 in
theorem s_X8_byteAt (l : Launch) (dC : Nat → ClassId) (dI : Nat → Nat → Nat) (h0_ : Nat) (p1_ : Int32) (h2_ : Nat) (h3_ : Nat) (h4_ : Nat) (h5_ : Nat) (h6_ : Nat) (p7_ : Int32) (p8_ : Int32) (p9_ : Int32) (p10_ : Int32) (p11_ : Int32) (k12_ : ClassId) (f13_ : Nat → Int32) (hb_p7_ : 0 ≤ p7_.toInt ∧ p7_.toInt ≤ 4000) (hb_p8_ : 0 ≤ p8_.toInt ∧ p8_.toInt ≤ 1201) (hb_p9_ : 0 ≤ p9_.toInt ∧ p9_.toInt ≤ 1) (sz : Nat) : Met l yX8_byteAt (.code yX8_byteAt cX8_byteAt 2 (some .int) :: lw_g) ({ frames := 0, cells := 0, slots := 0, locals := 0 }) (va_Pc [.ref h0_, .int p1_] (fun U => U.heap.size = sz ∧ va_P (dC, dI) vwCl [(h0_, .inr (8, [.ref h2_, .ref h3_, .ref h4_, .ref h5_, .ref h6_, .int p7_, .int p8_, .int p9_, .int p10_, .int p11_])), (h6_, .inl (k12_, 4000, .inl f13_))] U.heap ∧ va_K (dC, dI) vwCl [(k12_, .byte)] U ∧ va_D (fun _ => True) [(h0_, .inr (8, [.ref h2_, .ref h3_, .ref h4_, .ref h5_, .ref h6_, .int p7_, .int p8_, .int p9_, .int p10_, .int p11_])), (h6_, .inl (k12_, 4000, .inl f13_))])) (va_Qi (fun (r : Int32) (_ : Unit) => True) (fun (_ : Unit) (t : State) => va_P (dC, dI) vwCl [(h0_, .inr (8, [.ref h2_, .ref h3_, .ref h4_, .ref h5_, .ref h6_, .int p7_, .int p8_, .int p9_, .int p10_, .int p11_])), (h6_, .inl (k12_, 4000, .inl f13_))] t.heap ∧ va_K (dC, dI) vwCl [(k12_, .byte)] t ∧ va_D (va_A [(h0_, .inr (8, [.ref h2_, .ref h3_, .ref h4_, .ref h5_, .ref h6_, .int p7_, .int p8_, .int p9_, .int p10_, .int p11_])), (h6_, .inl (k12_, 4000, .inl f13_))] sz) [(h0_, .inr (8, [.ref h2_, .ref h3_, .ref h4_, .ref h5_, .ref h6_, .int p7_, .int p8_, .int p9_, .int p10_, .int p11_])), (h6_, .inl (k12_, 4000, .inl f13_))]) (va_A [(h0_, .inr (8, [.ref h2_, .ref h3_, .ref h4_, .ref h5_, .ref h6_, .int p7_, .int p8_, .int p9_, .int p10_, .int p11_])), (h6_, .inl (k12_, 4000, .inl f13_))] sz)) 0 0 (va_A [(h0_, .inr (8, [.ref h2_, .ref h3_, .ref h4_, .ref h5_, .ref h6_, .int p7_, .int p8_, .int p9_, .int p10_, .int p11_])), (h6_, .inl (k12_, 4000, .inl f13_))] sz) := by
  refine Met.ofW (cc := cX8_byteAt) (maxL := 2) (ret := (some .int)) (by decide) rfl ?_
  intro p e s m args below meth c s₁ B hml hv
  obtain ⟨rfl, hsz, hP, hK, hD0⟩ := hv
  have hx := B.exec
  have hb := B.bytes
  have hr := B.returns
  have hts := atoms_spec (ws := (.code yX8_byteAt cX8_byteAt 2 (some .int) :: lw_g)) B.pre
  have hown : s.vm.findClass RX8 = some m.cls := findClass_of_methodNamed B.named
  have hlocks := B.notSynchronized
  subst hsz
  have hD := hD0.self (sz := s.heap.size)
  generalize hAe : va_A [(h0_, .inr (8, [.ref h2_, .ref h3_, .ref h4_, .ref h5_, .ref h6_, .int p7_, .int p8_, .int p9_, .int p10_, .int p11_])), (h6_, .inl (k12_, 4000, .inl f13_))] s.heap.size = A at hD ⊢
  have hA : ∀ q : Nat, s.heap.size ≤ q → A q := fun q h => by rw [← hAe]; exact Or.inr h
  have hS : va_S A s.heap s.heap [] := va_S.rf
  have hP : va_P (dC, dI) vwCl [(h0_, .inr (8, [.ref h2_, .ref h3_, .ref h4_, .ref h5_, .ref h6_, .int p7_, .int p8_, .int p9_, .int p10_, .int p11_])), (h6_, .inl (k12_, 4000, .inl f13_))] s.heap := hP
  have hl := lv_entry ([.ref h0_, .int p1_]) (n := 2) (Nat.le_of_ble_eq_true rfl)
  rw [lg_entry_eq]
  generalize (lg_sl ([.ref h0_, .int p1_]) ++ List.replicate (2 - (lg_sl ([.ref h0_, .int p1_])).length) Slot.unset).toArray = ls at hl ⊢
  have hl : lv_has ls 2 [(0, .ref h0_), (1, .int p1_)] := hl
  refine lv_iload_n hx hb dX8_byteAt_0 rfl (lv_at hl 1 rfl) ?_
  have kc_0 : (0 : Int32).toInt = 0 := by decide
  refine lv_if_lt (tgt := 25) hx hb dX8_byteAt_1 (by decide) (fun c_1 => ?_) (fun c_1 => ?_)
  · have fc_1 := lt_f c_1
    refine lv_iconst (v := 0) hx hb dX8_byteAt_25 (by decide) ?_
    have hP9 := hP.sub (ws' := [(h0_, .inr (8, [.ref h2_, .ref h3_, .ref h4_, .ref h5_, .ref h6_, .int p7_, .int p8_, .int p9_, .int p10_, .int p11_])), (h6_, .inl (k12_, 4000, .inl f13_))]) [0, 1] rfl
    have hD9 := hD.sub (ws' := [(h0_, .inr (8, [.ref h2_, .ref h3_, .ref h4_, .ref h5_, .ref h6_, .int p7_, .int p8_, .int p9_, .int p10_, .int p11_])), (h6_, .inl (k12_, 4000, .inl f13_))]) [0, 1] (by decide) rfl
    have hK9 := hK.sub (tys' := [(k12_, .byte)]) [0] rfl
    refine W.widen (k := 0) (n := 0) (Nat.le_of_ble_eq_true rfl) (Nat.le_of_ble_eq_true rfl) ?_
    exact W.iret (v := 0) hx hb hr (fun t ht hW => ⟨⟨_, (), rfl, trivial, by rw [ht]; exact hP9, va_K.moved hW.alike hK9, hD9⟩, hS.F ht⟩) hS.2.2 dX8_byteAt_26
  · have fc_1 := nlt_f c_1
    refine lv_iload_n hx hb dX8_byteAt_4 rfl (lv_at hl 1 rfl) ?_
    refine lv_aload_n hx hb dX8_byteAt_5 rfl (lv_at hl 0 rfl) ?_
    refine va_get (D := (dC, dI)) (ci := 8) (v := .int p7_) (C := RX8) (T := TX8) (N := 10) hx hb hts (mc_ inX8) hown hK hP 0 rfl rfl 5 (by decide) (hts _ (List.mem_cons_of_mem _ t_290)) (fun _ h9 => h9) rfl dX8_byteAt_6 ?_
    refine lv_icmp_ge (tgt := 25) hx hb dX8_byteAt_9 (by decide) (fun c_2 => ?_) (fun c_2 => ?_)
    · have fc_2 := le_f c_2
      refine lv_iconst (v := 0) hx hb dX8_byteAt_25 (by decide) ?_
      have hP9 := hP.sub (ws' := [(h0_, .inr (8, [.ref h2_, .ref h3_, .ref h4_, .ref h5_, .ref h6_, .int p7_, .int p8_, .int p9_, .int p10_, .int p11_])), (h6_, .inl (k12_, 4000, .inl f13_))]) [0, 1] rfl
      have hD9 := hD.sub (ws' := [(h0_, .inr (8, [.ref h2_, .ref h3_, .ref h4_, .ref h5_, .ref h6_, .int p7_, .int p8_, .int p9_, .int p10_, .int p11_])), (h6_, .inl (k12_, 4000, .inl f13_))]) [0, 1] (by decide) rfl
      have hK9 := hK.sub (tys' := [(k12_, .byte)]) [0] rfl
      refine W.widen (k := 0) (n := 0) (Nat.le_of_ble_eq_true rfl) (Nat.le_of_ble_eq_true rfl) ?_
      exact W.iret (v := 0) hx hb hr (fun t ht hW => ⟨⟨_, (), rfl, trivial, by rw [ht]; exact hP9, va_K.moved hW.alike hK9, hD9⟩, hS.F ht⟩) hS.2.2 dX8_byteAt_26
    · have fc_2 := nle_f c_2
      refine lv_aload_n hx hb dX8_byteAt_12 rfl (lv_at hl 0 rfl) ?_
      refine va_get (D := (dC, dI)) (ci := 8) (v := .ref h6_) (C := RX8) (T := TX8) (N := 10) hx hb hts (mc_ inX8) hown hK hP 0 rfl rfl 4 (by decide) (hts _ (List.mem_cons_of_mem _ t_289)) (fun _ h9 => h9) rfl dX8_byteAt_13 ?_
      refine lv_iload_n hx hb dX8_byteAt_16 rfl (lv_at hl 1 rfl) ?_
      refine va_bald hx hb hK hP 1 0 rfl rfl (in_ok (by omega) (by omega)) dX8_byteAt_17 ?_
      refine lv_topi (fun y_3 ey_3 => ?_)
      refine lv_sipush (v := 255) hx hb dX8_byteAt_18 (by decide) ?_
      refine lv_iand hx hb dX8_byteAt_21 ?_
      refine lv_topi (fun y_4 ey_4 => ?_)
      refine lv_goto (tgt := 26) hx hb dX8_byteAt_22 (by decide) ?_
      have hP9 := hP.sub (ws' := [(h0_, .inr (8, [.ref h2_, .ref h3_, .ref h4_, .ref h5_, .ref h6_, .int p7_, .int p8_, .int p9_, .int p10_, .int p11_])), (h6_, .inl (k12_, 4000, .inl f13_))]) [0, 1] rfl
      have hD9 := hD.sub (ws' := [(h0_, .inr (8, [.ref h2_, .ref h3_, .ref h4_, .ref h5_, .ref h6_, .int p7_, .int p8_, .int p9_, .int p10_, .int p11_])), (h6_, .inl (k12_, 4000, .inl f13_))]) [0, 1] (by decide) rfl
      have hK9 := hK.sub (tys' := [(k12_, .byte)]) [0] rfl
      refine W.widen (k := 0) (n := 0) (Nat.le_of_ble_eq_true rfl) (Nat.le_of_ble_eq_true rfl) ?_
      exact W.iret (v := y_4) hx hb hr (fun t ht hW => ⟨⟨_, (), rfl, trivial, by rw [ht]; exact hP9, va_K.moved hW.alike hK9, hD9⟩, hS.F ht⟩) hS.2.2 dX8_byteAt_26
set_option maxHeartbeats 4000000 in
set_option maxRecDepth 100000 in
theorem s_X8_take (l : Launch) (dC : Nat → ClassId) (dI : Nat → Nat → Nat) (h0_ : Nat) (p1_ : Int32) (h2_ : Nat) (h3_ : Nat) (h4_ : Nat) (h5_ : Nat) (h6_ : Nat) (p7_ : Int32) (p8_ : Int32) (p9_ : Int32) (p10_ : Int32) (p11_ : Int32) (k12_ : ClassId) (f13_ : Nat → Int32) (k14_ : ClassId) (f15_ : Nat → Int32) (hb_p7_ : 0 ≤ p7_.toInt ∧ p7_.toInt ≤ 4000) (hb_p8_ : 0 ≤ p8_.toInt ∧ p8_.toInt ≤ 1201) (hb_p9_ : 0 ≤ p9_.toInt ∧ p9_.toInt ≤ 1) (sz : Nat) : Met l yX8_take (.code yX8_take cX8_take 2 none :: lw_g) ({ frames := 1, cells := 0, slots := 0, locals := 23 }) (va_Pc [.ref h0_, .int p1_] (fun U => U.heap.size = sz ∧ va_P (dC, dI) vwCl [(h0_, .inr (8, [.ref h2_, .ref h3_, .ref h4_, .ref h5_, .ref h6_, .int p7_, .int p8_, .int p9_, .int p10_, .int p11_])), (h2_, .inl (k12_, 1202, .inl f13_)), (h3_, .inl (k14_, 1202, .inl f15_))] U.heap ∧ va_K (dC, dI) vwCl [(k12_, .int), (k14_, .int)] U ∧ va_D (fun _ => True) [(h0_, .inr (8, [.ref h2_, .ref h3_, .ref h4_, .ref h5_, .ref h6_, .int p7_, .int p8_, .int p9_, .int p10_, .int p11_])), (h2_, .inl (k12_, 1202, .inl f13_)), (h3_, .inl (k14_, 1202, .inl f15_))])) (va_Qv (fun _ : Unit => True) (fun (_ : Unit) (t : State) => ∃ z0 : Int32, ∃ z1 : Int32, ∃ z2 : Int32, (0 ≤ z0.toInt ∧ z0.toInt ≤ 1201) ∧ va_P (dC, dI) vwCl [(h0_, .inr (8, [.ref h2_, .ref h3_, .ref h4_, .ref h5_, .ref h6_, .int p7_, .int z0, .int p9_, .int z1, .int z2])), (h2_, .inl (k12_, 1202, .inl f13_)), (h3_, .inl (k14_, 1202, .inl f15_))] t.heap ∧ va_K (dC, dI) vwCl [(k12_, .int), (k14_, .int)] t ∧ va_D (va_A [(h0_, .inr (8, [.ref h2_, .ref h3_, .ref h4_, .ref h5_, .ref h6_, .int p7_, .int p8_, .int p9_, .int p10_, .int p11_])), (h2_, .inl (k12_, 1202, .inl f13_)), (h3_, .inl (k14_, 1202, .inl f15_))] sz) [(h0_, .inr (8, [.ref h2_, .ref h3_, .ref h4_, .ref h5_, .ref h6_, .int p7_, .int z0, .int p9_, .int z1, .int z2])), (h2_, .inl (k12_, 1202, .inl f13_)), (h3_, .inl (k14_, 1202, .inl f15_))]) (va_A [(h0_, .inr (8, [.ref h2_, .ref h3_, .ref h4_, .ref h5_, .ref h6_, .int p7_, .int p8_, .int p9_, .int p10_, .int p11_])), (h2_, .inl (k12_, 1202, .inl f13_)), (h3_, .inl (k14_, 1202, .inl f15_))] sz)) 0 0 (va_A [(h0_, .inr (8, [.ref h2_, .ref h3_, .ref h4_, .ref h5_, .ref h6_, .int p7_, .int p8_, .int p9_, .int p10_, .int p11_])), (h2_, .inl (k12_, 1202, .inl f13_)), (h3_, .inl (k14_, 1202, .inl f15_))] sz) := by
  refine Met.ofW (cc := cX8_take) (maxL := 2) (ret := none) (by decide) rfl ?_
  intro p e s m args below meth c s₁ B hml hv
  obtain ⟨rfl, hsz, hP, hK, hD0⟩ := hv
  have hx := B.exec
  have hb := B.bytes
  have hr := B.returns
  have hts := atoms_spec (ws := (.code yX8_take cX8_take 2 none :: lw_g)) B.pre
  have hown : s.vm.findClass RX8 = some m.cls := findClass_of_methodNamed B.named
  have hlocks := B.notSynchronized
  subst hsz
  have hD := hD0.self (sz := s.heap.size)
  generalize hAe : va_A [(h0_, .inr (8, [.ref h2_, .ref h3_, .ref h4_, .ref h5_, .ref h6_, .int p7_, .int p8_, .int p9_, .int p10_, .int p11_])), (h2_, .inl (k12_, 1202, .inl f13_)), (h3_, .inl (k14_, 1202, .inl f15_))] s.heap.size = A at hD ⊢
  have hA : ∀ q : Nat, s.heap.size ≤ q → A q := fun q h => by rw [← hAe]; exact Or.inr h
  have hS : va_S A s.heap s.heap [] := va_S.rf
  have hP : va_P (dC, dI) vwCl [(h0_, .inr (8, [.ref h2_, .ref h3_, .ref h4_, .ref h5_, .ref h6_, .int p7_, .int p8_, .int p9_, .int p10_, .int p11_])), (h2_, .inl (k12_, 1202, .inl f13_)), (h3_, .inl (k14_, 1202, .inl f15_))] s.heap := hP
  have hl := lv_entry ([.ref h0_, .int p1_]) (n := 2) (Nat.le_of_ble_eq_true rfl)
  rw [lg_entry_eq]
  generalize (lg_sl ([.ref h0_, .int p1_]) ++ List.replicate (2 - (lg_sl ([.ref h0_, .int p1_])).length) Slot.unset).toArray = ls at hl ⊢
  have hl : lv_has ls 2 [(0, .ref h0_), (1, .int p1_)] := hl
  refine lv_aload_n hx hb dX8_take_0 rfl (lv_at hl 0 rfl) ?_
  refine va_get (D := (dC, dI)) (ci := 8) (v := .ref h2_) (C := RX8) (T := TX8) (N := 10) hx hb hts (mc_ inX8) hown hK hP 0 rfl rfl 0 (by decide) (hts _ (List.mem_cons_of_mem _ t_285)) (fun _ h9 => h9) rfl dX8_take_1 ?_
  refine lv_aload_n hx hb dX8_take_4 rfl (lv_at hl 0 rfl) ?_
  refine va_get (D := (dC, dI)) (ci := 8) (v := .int p8_) (C := RX8) (T := TX8) (N := 10) hx hb hts (mc_ inX8) hown hK hP 0 rfl rfl 6 (by decide) (hts _ (List.mem_cons_of_mem _ t_291)) (fun _ h9 => h9) rfl dX8_take_5 ?_
  refine va_iald hx hb hK hP 1 0 rfl rfl (in_ok (by omega) (by omega)) dX8_take_8 ?_
  refine lv_topi (fun y_1 ey_1 => ?_)
  refine lv_iload_n hx hb dX8_take_9 rfl (lv_at hl 1 rfl) ?_
  refine lv_icmp_ne (tgt := 20) hx hb dX8_take_10 (by decide) (fun c_2 => ?_) (fun c_2 => ?_)
  · have fc_2 := neq_f c_2
    refine lv_aload_n hx hb dX8_take_20 rfl (lv_at hl 0 rfl) ?_
    refine lv_iconst (v := 1) hx hb dX8_take_21 (by decide) ?_
    refine lv_aload_n hx hb dX8_take_22 rfl (lv_at hl 0 rfl) ?_
    refine va_get (D := (dC, dI)) (ci := 8) (v := .ref h3_) (C := RX8) (T := TX8) (N := 10) hx hb hts (mc_ inX8) hown hK hP 0 rfl rfl 1 (by decide) (hts _ (List.mem_cons_of_mem _ t_286)) (fun _ h9 => h9) rfl dX8_take_23 ?_
    refine lv_aload_n hx hb dX8_take_26 rfl (lv_at hl 0 rfl) ?_
    refine va_get (D := (dC, dI)) (ci := 8) (v := .int p8_) (C := RX8) (T := TX8) (N := 10) hx hb hts (mc_ inX8) hown hK hP 0 rfl rfl 6 (by decide) (hts _ (List.mem_cons_of_mem _ t_291)) (fun _ h9 => h9) rfl dX8_take_27 ?_
    refine va_iald hx hb hK hP 2 1 rfl rfl (in_ok (by omega) (by omega)) dX8_take_30 ?_
    refine lv_topi (fun y_3 ey_3 => ?_)
    have hPc := hP.sub (ws' := [(h0_, .inr (8, [.ref h2_, .ref h3_, .ref h4_, .ref h5_, .ref h6_, .int p7_, .int p8_, .int p9_, .int p10_, .int p11_])), (h3_, .inl (k14_, 1202, .inl f15_))]) [0, 2] rfl
    have hDc := hD.sub (ws' := [(h0_, .inr (8, [.ref h2_, .ref h3_, .ref h4_, .ref h5_, .ref h6_, .int p7_, .int p8_, .int p9_, .int p10_, .int p11_])), (h3_, .inl (k14_, 1202, .inl f15_))]) [0, 2] (by decide) rfl
    have hKc := hK.sub (tys' := [(k14_, .int)]) [1] rfl
    have hFc := va_free (wc := [(h0_, .inr (8, [.ref h2_, .ref h3_, .ref h4_, .ref h5_, .ref h6_, .int p7_, .int p8_, .int p9_, .int p10_, .int p11_])), (h3_, .inl (k14_, 1202, .inl f15_))]) hD hS hA [0, 2] rfl
    refine va_callv (va_runV (As := [.int 1, .int y_3]) (rest := []) ⟨hx, hb, hml, hown, hts⟩ (s_X8_fail l dC dI h0_ 1 y_3 h2_ h3_ h4_ h5_ h6_ p7_ p8_ p9_ p10_ p11_ k14_ f15_ (⟨by omega, by omega⟩) (⟨by omega, by omega⟩) (⟨by omega, by omega⟩) s.heap.size) (cwV 2 hts (gV_ t_1106 t_1107 t_1108 t_184 t_1109) rfl rfl rfl (by decide +kernel) ⟨(Nat.le_of_ble_eq_true rfl), (Nat.le_of_ble_eq_true rfl)⟩) ⟨fun a U g mk q => by obtain ⟨q0, q1, qP, qK, qD⟩ := q; exact ⟨q0, q1, qP, va_K.moved (u := U) (U := U.calling g mk a) (Vm.Alike.refl U.vm) qK, qD⟩, va_recv hK hP (ci := 8) (q0 := 0) rfl rfl, fun U hU hW => ⟨rfl, by rw [hU], by rw [hU]; exact hPc, va_K.moved hW.alike hKc, hDc.weaken (fun _ _ _ _ => trivial)⟩⟩ rfl rfl hl.1 rfl (lv_room (Nat.le_of_ble_eq_true rfl)) dX8_take_31 ⟨(Nat.le_of_ble_eq_true rfl), (Nat.le_of_ble_eq_true rfl)⟩) hS (fun q _ h => hFc q h) hFc (fun u_ t H1 locs ht hvm hw hB hz1 hk1 hS => ?_)
    obtain ⟨y_5, y_6, hP1, hK1, hD1⟩ := hB
    rw [ht] at hP1
    have hK1 := va_K.moved hvm.symm hK1
    obtain ⟨hP, hD⟩ := va_join (wr := [(h2_, .inl (k12_, 1202, .inl f13_))]) (w1 := [(h0_, .inr (8, [.ref h2_, .ref h3_, .ref h4_, .ref h5_, .ref h6_, .int p7_, .int 1201, .int p9_, .int y_5, .int y_6])), (h3_, .inl (k14_, 1202, .inl f15_))]) hP hD [0, 2] [1] rfl rfl (by decide) (by decide) hk1 hFc hP1 hD1
    have hK := (hK.sub (tys' := [(k12_, .int)]) [0] rfl).app hK1
    generalize H1 = H at hP hS ⊢
    have hP : va_P (dC, dI) vwCl [(h2_, .inl (k12_, 1202, .inl f13_)), (h0_, .inr (8, [.ref h2_, .ref h3_, .ref h4_, .ref h5_, .ref h6_, .int p7_, .int 1201, .int p9_, .int y_5, .int y_6])), (h3_, .inl (k14_, 1202, .inl f15_))] H := hP
    have hD : va_D A [(h2_, .inl (k12_, 1202, .inl f13_)), (h0_, .inr (8, [.ref h2_, .ref h3_, .ref h4_, .ref h5_, .ref h6_, .int p7_, .int 1201, .int p9_, .int y_5, .int y_6])), (h3_, .inl (k14_, 1202, .inl f15_))] := hD
    have hK : va_K (dC, dI) vwCl [(k12_, .int), (k14_, .int)] s := hK
    refine W.widen (k := 0) (n := 0) (Nat.le_of_ble_eq_true rfl) (Nat.le_of_ble_eq_true rfl) ?_
    have hP9 := hP.sub (ws' := [(h0_, .inr (8, [.ref h2_, .ref h3_, .ref h4_, .ref h5_, .ref h6_, .int p7_, .int 1201, .int p9_, .int y_5, .int y_6])), (h2_, .inl (k12_, 1202, .inl f13_)), (h3_, .inl (k14_, 1202, .inl f15_))]) [1, 0, 2] rfl
    have hD9 := hD.sub (ws' := [(h0_, .inr (8, [.ref h2_, .ref h3_, .ref h4_, .ref h5_, .ref h6_, .int p7_, .int 1201, .int p9_, .int y_5, .int y_6])), (h2_, .inl (k12_, 1202, .inl f13_)), (h3_, .inl (k14_, 1202, .inl f15_))]) [1, 0, 2] (by decide) rfl
    have hK9 := hK.sub (tys' := [(k12_, .int), (k14_, .int)]) [0, 1] rfl
    refine W.widen (k := 0) (n := 0) (Nat.le_of_ble_eq_true rfl) (Nat.le_of_ble_eq_true rfl) ?_
    exact W.vret hx hb hr (fun t ht hW => ⟨⟨(), rfl, trivial, 1201, y_5, y_6, ⟨by decide, by decide⟩, by rw [ht]; exact hP9, va_K.moved hW.alike hK9, hD9⟩, hS.F ht⟩) hS.2.2 dX8_take_34
  · have fc_2 := eq_f c_2
    refine lv_aload_n hx hb dX8_take_13 rfl (lv_at hl 0 rfl) ?_
    have hPc := hP.sub (ws' := [(h0_, .inr (8, [.ref h2_, .ref h3_, .ref h4_, .ref h5_, .ref h6_, .int p7_, .int p8_, .int p9_, .int p10_, .int p11_]))]) [0] rfl
    have hDc := hD.sub (ws' := [(h0_, .inr (8, [.ref h2_, .ref h3_, .ref h4_, .ref h5_, .ref h6_, .int p7_, .int p8_, .int p9_, .int p10_, .int p11_]))]) [0] (by decide) rfl
    have hKc := hK.sub (tys' := []) [] rfl
    have hFc := va_free (wc := [(h0_, .inr (8, [.ref h2_, .ref h3_, .ref h4_, .ref h5_, .ref h6_, .int p7_, .int p8_, .int p9_, .int p10_, .int p11_]))]) hD hS hA [0] rfl
    refine va_callv (va_runV (As := []) (rest := []) ⟨hx, hb, hml, hown, hts⟩ (s_X8_next l dC dI h0_ h2_ h3_ h4_ h5_ h6_ p7_ p8_ p9_ p10_ p11_ (⟨by omega, by omega⟩) (⟨by omega, by omega⟩) (⟨by omega, by omega⟩) s.heap.size) (cwV 0 hts (gV_ t_1102 t_1103 t_1104 t_184 t_1105) rfl rfl rfl (by decide +kernel) ⟨(Nat.le_of_ble_eq_true rfl), (Nat.le_of_ble_eq_true rfl)⟩) ⟨fun a U g mk q => by obtain ⟨q0, q1, qP, qK, qD⟩ := q; exact ⟨q0, q1, qP, va_K.moved (u := U) (U := U.calling g mk a) (Vm.Alike.refl U.vm) qK, qD⟩, va_recv hK hP (ci := 8) (q0 := 0) rfl rfl, fun U hU hW => ⟨rfl, by rw [hU], by rw [hU]; exact hPc, va_K.moved hW.alike hKc, hDc.weaken (fun _ _ _ _ => trivial)⟩⟩ rfl rfl hl.1 rfl (lv_room (Nat.le_of_ble_eq_true rfl)) dX8_take_14 ⟨(Nat.le_of_ble_eq_true rfl), (Nat.le_of_ble_eq_true rfl)⟩) hS (fun q _ h => hFc q h) hFc (fun u_ t H1 locs ht hvm hw hB hz1 hk1 hS => ?_)
    obtain ⟨y_8, b_9, hP1, hK1, hD1⟩ := hB
    rw [ht] at hP1
    have hK1 := va_K.moved hvm.symm hK1
    obtain ⟨hP, hD⟩ := va_join (wr := [(h2_, .inl (k12_, 1202, .inl f13_)), (h3_, .inl (k14_, 1202, .inl f15_))]) (w1 := [(h0_, .inr (8, [.ref h2_, .ref h3_, .ref h4_, .ref h5_, .ref h6_, .int p7_, .int y_8, .int p9_, .int p10_, .int p11_]))]) hP hD [0] [1, 2] rfl rfl (by decide) (by decide) hk1 hFc hP1 hD1
    have hK := (hK.sub (tys' := [(k12_, .int), (k14_, .int)]) [0, 1] rfl).app hK1
    generalize H1 = H at hP hS ⊢
    have hP : va_P (dC, dI) vwCl [(h2_, .inl (k12_, 1202, .inl f13_)), (h3_, .inl (k14_, 1202, .inl f15_)), (h0_, .inr (8, [.ref h2_, .ref h3_, .ref h4_, .ref h5_, .ref h6_, .int p7_, .int y_8, .int p9_, .int p10_, .int p11_]))] H := hP
    have hD : va_D A [(h2_, .inl (k12_, 1202, .inl f13_)), (h3_, .inl (k14_, 1202, .inl f15_)), (h0_, .inr (8, [.ref h2_, .ref h3_, .ref h4_, .ref h5_, .ref h6_, .int p7_, .int y_8, .int p9_, .int p10_, .int p11_]))] := hD
    have hK : va_K (dC, dI) vwCl [(k12_, .int), (k14_, .int)] s := hK
    refine W.widen (k := 0) (n := 0) (Nat.le_of_ble_eq_true rfl) (Nat.le_of_ble_eq_true rfl) ?_
    refine lv_goto (tgt := 34) hx hb dX8_take_17 (by decide) ?_
    have hP9 := hP.sub (ws' := [(h0_, .inr (8, [.ref h2_, .ref h3_, .ref h4_, .ref h5_, .ref h6_, .int p7_, .int y_8, .int p9_, .int p10_, .int p11_])), (h2_, .inl (k12_, 1202, .inl f13_)), (h3_, .inl (k14_, 1202, .inl f15_))]) [2, 0, 1] rfl
    have hD9 := hD.sub (ws' := [(h0_, .inr (8, [.ref h2_, .ref h3_, .ref h4_, .ref h5_, .ref h6_, .int p7_, .int y_8, .int p9_, .int p10_, .int p11_])), (h2_, .inl (k12_, 1202, .inl f13_)), (h3_, .inl (k14_, 1202, .inl f15_))]) [2, 0, 1] (by decide) rfl
    have hK9 := hK.sub (tys' := [(k12_, .int), (k14_, .int)]) [0, 1] rfl
    refine W.widen (k := 0) (n := 0) (Nat.le_of_ble_eq_true rfl) (Nat.le_of_ble_eq_true rfl) ?_
    exact W.vret hx hb hr (fun t ht hW => ⟨⟨(), rfl, trivial, y_8, p10_, p11_, ⟨by omega, by omega⟩, by rw [ht]; exact hP9, va_K.moved hW.alike hK9, hD9⟩, hS.F ht⟩) hS.2.2 dX8_take_34
set_option maxHeartbeats 4000000 in
set_option maxRecDepth 100000 in
theorem s_X8_behindBlanks (l : Launch) (dC : Nat → ClassId) (dI : Nat → Nat → Nat) (h0_ : Nat) (p1_ : Int32) (h2_ : Nat) (h3_ : Nat) (h4_ : Nat) (h5_ : Nat) (h6_ : Nat) (p7_ : Int32) (p8_ : Int32) (p9_ : Int32) (p10_ : Int32) (p11_ : Int32) (k12_ : ClassId) (f13_ : Nat → Int32) (hb_p7_ : 0 ≤ p7_.toInt ∧ p7_.toInt ≤ 4000) (hb_p8_ : 0 ≤ p8_.toInt ∧ p8_.toInt ≤ 1201) (hb_p9_ : 0 ≤ p9_.toInt ∧ p9_.toInt ≤ 1) (sz : Nat) : Met l yX8_behindBlanks (.code yX8_behindBlanks cX8_behindBlanks 3 (some .int) :: lw_g) ({ frames := 1, cells := 0, slots := 0, locals := 21 }) (va_Pc [.ref h0_, .int p1_] (fun U => U.heap.size = sz ∧ va_P (dC, dI) vwCl [(h0_, .inr (8, [.ref h2_, .ref h3_, .ref h4_, .ref h5_, .ref h6_, .int p7_, .int p8_, .int p9_, .int p10_, .int p11_])), (h6_, .inl (k12_, 4000, .inl f13_))] U.heap ∧ va_K (dC, dI) vwCl [(k12_, .byte)] U ∧ va_D (fun _ => True) [(h0_, .inr (8, [.ref h2_, .ref h3_, .ref h4_, .ref h5_, .ref h6_, .int p7_, .int p8_, .int p9_, .int p10_, .int p11_])), (h6_, .inl (k12_, 4000, .inl f13_))])) (va_Qi (fun (r : Int32) (_ : Unit) => True) (fun (_ : Unit) (t : State) => va_P (dC, dI) vwCl [(h0_, .inr (8, [.ref h2_, .ref h3_, .ref h4_, .ref h5_, .ref h6_, .int p7_, .int p8_, .int p9_, .int p10_, .int p11_])), (h6_, .inl (k12_, 4000, .inl f13_))] t.heap ∧ va_K (dC, dI) vwCl [(k12_, .byte)] t ∧ va_D (va_A [(h0_, .inr (8, [.ref h2_, .ref h3_, .ref h4_, .ref h5_, .ref h6_, .int p7_, .int p8_, .int p9_, .int p10_, .int p11_])), (h6_, .inl (k12_, 4000, .inl f13_))] sz) [(h0_, .inr (8, [.ref h2_, .ref h3_, .ref h4_, .ref h5_, .ref h6_, .int p7_, .int p8_, .int p9_, .int p10_, .int p11_])), (h6_, .inl (k12_, 4000, .inl f13_))]) (va_A [(h0_, .inr (8, [.ref h2_, .ref h3_, .ref h4_, .ref h5_, .ref h6_, .int p7_, .int p8_, .int p9_, .int p10_, .int p11_])), (h6_, .inl (k12_, 4000, .inl f13_))] sz)) 0 0 (va_A [(h0_, .inr (8, [.ref h2_, .ref h3_, .ref h4_, .ref h5_, .ref h6_, .int p7_, .int p8_, .int p9_, .int p10_, .int p11_])), (h6_, .inl (k12_, 4000, .inl f13_))] sz) := by
  refine Met.ofW (cc := cX8_behindBlanks) (maxL := 3) (ret := (some .int)) (by decide) rfl ?_
  intro p e s m args below meth c s₁ B hml hv
  obtain ⟨rfl, hsz, hP, hK, hD0⟩ := hv
  have hx := B.exec
  have hb := B.bytes
  have hr := B.returns
  have hts := atoms_spec (ws := (.code yX8_behindBlanks cX8_behindBlanks 3 (some .int) :: lw_g)) B.pre
  have hown : s.vm.findClass RX8 = some m.cls := findClass_of_methodNamed B.named
  have hlocks := B.notSynchronized
  subst hsz
  have hD := hD0.self (sz := s.heap.size)
  generalize hAe : va_A [(h0_, .inr (8, [.ref h2_, .ref h3_, .ref h4_, .ref h5_, .ref h6_, .int p7_, .int p8_, .int p9_, .int p10_, .int p11_])), (h6_, .inl (k12_, 4000, .inl f13_))] s.heap.size = A at hD ⊢
  have hA : ∀ q : Nat, s.heap.size ≤ q → A q := fun q h => by rw [← hAe]; exact Or.inr h
  have hS : va_S A s.heap s.heap [] := va_S.rf
  have hP : va_P (dC, dI) vwCl [(h0_, .inr (8, [.ref h2_, .ref h3_, .ref h4_, .ref h5_, .ref h6_, .int p7_, .int p8_, .int p9_, .int p10_, .int p11_])), (h6_, .inl (k12_, 4000, .inl f13_))] s.heap := hP
  have hl := lv_entry ([.ref h0_, .int p1_]) (n := 3) (Nat.le_of_ble_eq_true rfl)
  rw [lg_entry_eq]
  generalize (lg_sl ([.ref h0_, .int p1_]) ++ List.replicate (3 - (lg_sl ([.ref h0_, .int p1_])).length) Slot.unset).toArray = ls at hl ⊢
  have hl : lv_has ls 3 [(0, .ref h0_), (1, .int p1_)] := hl
  refine lv_iload_n hx hb dX8_behindBlanks_0 rfl (lv_at hl 1 rfl) ?_
  refine lv_istore_n (lv' := [(2, .int p1_), (0, .ref h0_), (1, .int p1_)]) hx hb dX8_behindBlanks_1 rfl hl (by decide) rfl (fun ls hl => ?_)
  refine W_q (fun Q hQ => ?_)
  have loop_1 : ∀ (n : Nat) (v2_l_2 : Int32), (-2147483648 ≤ v2_l_2.toInt ∧ v2_l_2.toInt ≤ 2147483647) → (2147483647 - v2_l_2.toInt < (n : Int)) → ∀ (H : Heap) (locs : List Loc) (ls : Array Slot), va_K (dC, dI) vwCl [(k12_, .byte)] s → va_P (dC, dI) vwCl [(h0_, .inr (8, [.ref h2_, .ref h3_, .ref h4_, .ref h5_, .ref h6_, .int p7_, .int p8_, .int p9_, .int p10_, .int p11_])), (h6_, .inl (k12_, 4000, .inl f13_))] H → va_D A [(h0_, .inr (8, [.ref h2_, .ref h3_, .ref h4_, .ref h5_, .ref h6_, .int p7_, .int p8_, .int p9_, .int p10_, .int p11_])), (h6_, .inl (k12_, 4000, .inl f13_))] → va_S A s.heap H locs → lv_has ls 3 [(2, .int v2_l_2), (0, .ref h0_), (1, .int p1_)] → W p l e ({ frames := 1, cells := 0, slots := 0, locals := 21 } : Room) s m [.ref h0_, .int p1_].toArray below meth c H locs 0 0 Q (F0 m 2 ls []) := by
    intro n
    induction n with
    | zero =>
      intro v2_l_2 hb_v2_l_2 hm H locs ls hK hP hD hS hl
      exact absurd hm (by omega)
    | succ n ih =>
      intro v2_l_2 hb_v2_l_2 hm H locs ls hK hP hD hS hl
      refine lv_iload_n hx hb dX8_behindBlanks_2 rfl (lv_at hl 0 rfl) ?_
      refine lv_aload_n hx hb dX8_behindBlanks_3 rfl (lv_at hl 1 rfl) ?_
      refine va_get (D := (dC, dI)) (ci := 8) (v := .int p7_) (C := RX8) (T := TX8) (N := 10) hx hb hts (mc_ inX8) hown hK hP 0 rfl rfl 5 (by decide) (hts _ (List.mem_cons_of_mem _ t_290)) (fun _ h9 => h9) rfl dX8_behindBlanks_4 ?_
      refine lv_icmp_ge (tgt := 36) hx hb dX8_behindBlanks_7 (by decide) (fun c_2 => ?_) (fun c_2 => ?_)
      · have fc_2 := le_f c_2
        refine lv_iload_n hx hb dX8_behindBlanks_36 rfl (lv_at hl 0 rfl) ?_
        subst hQ
        have hP9 := hP.sub (ws' := [(h0_, .inr (8, [.ref h2_, .ref h3_, .ref h4_, .ref h5_, .ref h6_, .int p7_, .int p8_, .int p9_, .int p10_, .int p11_])), (h6_, .inl (k12_, 4000, .inl f13_))]) [0, 1] rfl
        have hD9 := hD.sub (ws' := [(h0_, .inr (8, [.ref h2_, .ref h3_, .ref h4_, .ref h5_, .ref h6_, .int p7_, .int p8_, .int p9_, .int p10_, .int p11_])), (h6_, .inl (k12_, 4000, .inl f13_))]) [0, 1] (by decide) rfl
        have hK9 := hK.sub (tys' := [(k12_, .byte)]) [0] rfl
        refine W.widen (k := 0) (n := 0) (Nat.le_of_ble_eq_true rfl) (Nat.le_of_ble_eq_true rfl) ?_
        exact W.iret (v := v2_l_2) hx hb hr (fun t ht hW => ⟨⟨_, (), rfl, trivial, by rw [ht]; exact hP9, va_K.moved hW.alike hK9, hD9⟩, hS.F ht⟩) hS.2.2 dX8_behindBlanks_37
      · have fc_2 := nle_f c_2
        refine lv_aload_n hx hb dX8_behindBlanks_10 rfl (lv_at hl 1 rfl) ?_
        refine lv_iload_n hx hb dX8_behindBlanks_11 rfl (lv_at hl 0 rfl) ?_
        have hPc := hP.sub (ws' := [(h0_, .inr (8, [.ref h2_, .ref h3_, .ref h4_, .ref h5_, .ref h6_, .int p7_, .int p8_, .int p9_, .int p10_, .int p11_])), (h6_, .inl (k12_, 4000, .inl f13_))]) [0, 1] rfl
        have hDc := hD.sub (ws' := [(h0_, .inr (8, [.ref h2_, .ref h3_, .ref h4_, .ref h5_, .ref h6_, .int p7_, .int p8_, .int p9_, .int p10_, .int p11_])), (h6_, .inl (k12_, 4000, .inl f13_))]) [0, 1] (by decide) rfl
        have hKc := hK.sub (tys' := [(k12_, .byte)]) [0] rfl
        have hFc := va_free (wc := [(h0_, .inr (8, [.ref h2_, .ref h3_, .ref h4_, .ref h5_, .ref h6_, .int p7_, .int p8_, .int p9_, .int p10_, .int p11_])), (h6_, .inl (k12_, 4000, .inl f13_))]) hD hS hA [0, 1] rfl
        refine va_calli (va_runV (As := [.int v2_l_2]) (rest := []) ⟨hx, hb, hml, hown, hts⟩ (s_X8_byteAt l dC dI h0_ v2_l_2 h2_ h3_ h4_ h5_ h6_ p7_ p8_ p9_ p10_ p11_ k12_ f13_ (⟨by omega, by omega⟩) (⟨by omega, by omega⟩) (⟨by omega, by omega⟩) H.size) (cwV 1 hts (gV_ t_1004 t_1006 t_3 t_184 t_1007) rfl rfl rfl (by decide +kernel) ⟨(Nat.le_of_ble_eq_true rfl), (Nat.le_of_ble_eq_true rfl)⟩) ⟨fun a U g mk q => by obtain ⟨q0, q1, qP, qK, qD⟩ := q; exact ⟨q0, q1, qP, va_K.moved (u := U) (U := U.calling g mk a) (Vm.Alike.refl U.vm) qK, qD⟩, va_recv hK hP (ci := 8) (q0 := 0) rfl rfl, fun U hU hW => ⟨rfl, by rw [hU], by rw [hU]; exact hPc, va_K.moved hW.alike hKc, hDc.weaken (fun _ _ _ _ => trivial)⟩⟩ rfl rfl hl.1 rfl (lv_room (Nat.le_of_ble_eq_true rfl)) dX8_behindBlanks_12 ⟨(Nat.le_of_ble_eq_true rfl), (Nat.le_of_ble_eq_true rfl)⟩) hS (fun q _ h => hFc q h) hFc (fun r_3 u_ t H1 locs ht hvm hw hB hz1 hk1 hS => ?_)
        obtain ⟨hP1, hK1, hD1⟩ := hB
        rw [ht] at hP1
        have hK1 := va_K.moved hvm.symm hK1
        obtain ⟨hP, hD⟩ := va_join (wr := []) (w1 := [(h0_, .inr (8, [.ref h2_, .ref h3_, .ref h4_, .ref h5_, .ref h6_, .int p7_, .int p8_, .int p9_, .int p10_, .int p11_])), (h6_, .inl (k12_, 4000, .inl f13_))]) hP hD [0, 1] [] rfl rfl (by decide) (by decide) hk1 hFc hP1 hD1
        have hK := (hK.sub (tys' := []) [] rfl).app hK1
        generalize H1 = H at hP hS ⊢
        have hP : va_P (dC, dI) vwCl [(h0_, .inr (8, [.ref h2_, .ref h3_, .ref h4_, .ref h5_, .ref h6_, .int p7_, .int p8_, .int p9_, .int p10_, .int p11_])), (h6_, .inl (k12_, 4000, .inl f13_))] H := hP
        have hD : va_D A [(h0_, .inr (8, [.ref h2_, .ref h3_, .ref h4_, .ref h5_, .ref h6_, .int p7_, .int p8_, .int p9_, .int p10_, .int p11_])), (h6_, .inl (k12_, 4000, .inl f13_))] := hD
        have hK : va_K (dC, dI) vwCl [(k12_, .byte)] s := hK
        refine W.widen (k := 0) (n := 0) (Nat.le_of_ble_eq_true rfl) (Nat.le_of_ble_eq_true rfl) ?_
        have hr_3 := hw
        clear hw
        refine lv_bipush (v := 32) hx hb dX8_behindBlanks_15 (by decide) ?_
        have kc_32 : (32 : Int32).toInt = 32 := by decide
        refine lv_icmp_eq (tgt := 30) hx hb dX8_behindBlanks_17 (by decide) (fun c_4 => ?_) (fun c_4 => ?_)
        · have fc_4 := eq_f c_4
          obtain ⟨y_5, ey_5⟩ : ∃ z : Int32, z = v2_l_2 + 1 := ⟨_, rfl⟩
          refine lv_iinc (v := y_5) (lv' := [(2, .int y_5), (0, .ref h0_), (1, .int p1_)]) hx hb dX8_behindBlanks_30 hl (k := 0) rfl (by rw [ey_5]; rfl) (by decide) rfl (fun ls hl => ?_)
          have kc_1 : (1 : Int32).toInt = 1 := by decide
          have ty_5 : y_5.toInt = v2_l_2.toInt + (1 : Int32).toInt := by rw [ey_5]; exact add_ok (by omega) (by omega)
          have b_6 : -2147483647 ≤ y_5.toInt ∧ y_5.toInt ≤ 4000 := by omega
          refine lv_goto (tgt := 2) hx hb dX8_behindBlanks_33 (by decide) ?_
          exact ih y_5 (tb_ _) (by omega) _ _ _ (hK.sub [0] rfl) (hP.sub [0, 1] rfl) (hD.sub [0, 1] (by decide) rfl) hS (lv_sub hl [0, 1, 2] rfl)
        · have fc_4 := neq_f c_4
          refine lv_aload_n hx hb dX8_behindBlanks_20 rfl (lv_at hl 1 rfl) ?_
          refine lv_iload_n hx hb dX8_behindBlanks_21 rfl (lv_at hl 0 rfl) ?_
          have hPc := hP.sub (ws' := [(h0_, .inr (8, [.ref h2_, .ref h3_, .ref h4_, .ref h5_, .ref h6_, .int p7_, .int p8_, .int p9_, .int p10_, .int p11_])), (h6_, .inl (k12_, 4000, .inl f13_))]) [0, 1] rfl
          have hDc := hD.sub (ws' := [(h0_, .inr (8, [.ref h2_, .ref h3_, .ref h4_, .ref h5_, .ref h6_, .int p7_, .int p8_, .int p9_, .int p10_, .int p11_])), (h6_, .inl (k12_, 4000, .inl f13_))]) [0, 1] (by decide) rfl
          have hKc := hK.sub (tys' := [(k12_, .byte)]) [0] rfl
          have hFc := va_free (wc := [(h0_, .inr (8, [.ref h2_, .ref h3_, .ref h4_, .ref h5_, .ref h6_, .int p7_, .int p8_, .int p9_, .int p10_, .int p11_])), (h6_, .inl (k12_, 4000, .inl f13_))]) hD hS hA [0, 1] rfl
          refine va_calli (va_runV (As := [.int v2_l_2]) (rest := []) ⟨hx, hb, hml, hown, hts⟩ (s_X8_byteAt l dC dI h0_ v2_l_2 h2_ h3_ h4_ h5_ h6_ p7_ p8_ p9_ p10_ p11_ k12_ f13_ (⟨by omega, by omega⟩) (⟨by omega, by omega⟩) (⟨by omega, by omega⟩) H.size) (cwV 1 hts (gV_ t_1004 t_1006 t_3 t_184 t_1007) rfl rfl rfl (by decide +kernel) ⟨(Nat.le_of_ble_eq_true rfl), (Nat.le_of_ble_eq_true rfl)⟩) ⟨fun a U g mk q => by obtain ⟨q0, q1, qP, qK, qD⟩ := q; exact ⟨q0, q1, qP, va_K.moved (u := U) (U := U.calling g mk a) (Vm.Alike.refl U.vm) qK, qD⟩, va_recv hK hP (ci := 8) (q0 := 0) rfl rfl, fun U hU hW => ⟨rfl, by rw [hU], by rw [hU]; exact hPc, va_K.moved hW.alike hKc, hDc.weaken (fun _ _ _ _ => trivial)⟩⟩ rfl rfl hl.1 rfl (lv_room (Nat.le_of_ble_eq_true rfl)) dX8_behindBlanks_22 ⟨(Nat.le_of_ble_eq_true rfl), (Nat.le_of_ble_eq_true rfl)⟩) hS (fun q _ h => hFc q h) hFc (fun r_7 u_ t H1 locs ht hvm hw hB hz1 hk1 hS => ?_)
          obtain ⟨hP1, hK1, hD1⟩ := hB
          rw [ht] at hP1
          have hK1 := va_K.moved hvm.symm hK1
          obtain ⟨hP, hD⟩ := va_join (wr := []) (w1 := [(h0_, .inr (8, [.ref h2_, .ref h3_, .ref h4_, .ref h5_, .ref h6_, .int p7_, .int p8_, .int p9_, .int p10_, .int p11_])), (h6_, .inl (k12_, 4000, .inl f13_))]) hP hD [0, 1] [] rfl rfl (by decide) (by decide) hk1 hFc hP1 hD1
          have hK := (hK.sub (tys' := []) [] rfl).app hK1
          generalize H1 = H at hP hS ⊢
          have hP : va_P (dC, dI) vwCl [(h0_, .inr (8, [.ref h2_, .ref h3_, .ref h4_, .ref h5_, .ref h6_, .int p7_, .int p8_, .int p9_, .int p10_, .int p11_])), (h6_, .inl (k12_, 4000, .inl f13_))] H := hP
          have hD : va_D A [(h0_, .inr (8, [.ref h2_, .ref h3_, .ref h4_, .ref h5_, .ref h6_, .int p7_, .int p8_, .int p9_, .int p10_, .int p11_])), (h6_, .inl (k12_, 4000, .inl f13_))] := hD
          have hK : va_K (dC, dI) vwCl [(k12_, .byte)] s := hK
          refine W.widen (k := 0) (n := 0) (Nat.le_of_ble_eq_true rfl) (Nat.le_of_ble_eq_true rfl) ?_
          have hr_7 := hw
          clear hw
          refine lv_bipush (v := 10) hx hb dX8_behindBlanks_25 (by decide) ?_
          have kc_10 : (10 : Int32).toInt = 10 := by decide
          refine lv_icmp_ne (tgt := 36) hx hb dX8_behindBlanks_27 (by decide) (fun c_8 => ?_) (fun c_8 => ?_)
          · have fc_8 := neq_f c_8
            refine lv_iload_n hx hb dX8_behindBlanks_36 rfl (lv_at hl 0 rfl) ?_
            subst hQ
            have hP9 := hP.sub (ws' := [(h0_, .inr (8, [.ref h2_, .ref h3_, .ref h4_, .ref h5_, .ref h6_, .int p7_, .int p8_, .int p9_, .int p10_, .int p11_])), (h6_, .inl (k12_, 4000, .inl f13_))]) [0, 1] rfl
            have hD9 := hD.sub (ws' := [(h0_, .inr (8, [.ref h2_, .ref h3_, .ref h4_, .ref h5_, .ref h6_, .int p7_, .int p8_, .int p9_, .int p10_, .int p11_])), (h6_, .inl (k12_, 4000, .inl f13_))]) [0, 1] (by decide) rfl
            have hK9 := hK.sub (tys' := [(k12_, .byte)]) [0] rfl
            refine W.widen (k := 0) (n := 0) (Nat.le_of_ble_eq_true rfl) (Nat.le_of_ble_eq_true rfl) ?_
            exact W.iret (v := v2_l_2) hx hb hr (fun t ht hW => ⟨⟨_, (), rfl, trivial, by rw [ht]; exact hP9, va_K.moved hW.alike hK9, hD9⟩, hS.F ht⟩) hS.2.2 dX8_behindBlanks_37
          · have fc_8 := eq_f c_8
            obtain ⟨y_9, ey_9⟩ : ∃ z : Int32, z = v2_l_2 + 1 := ⟨_, rfl⟩
            refine lv_iinc (v := y_9) (lv' := [(2, .int y_9), (0, .ref h0_), (1, .int p1_)]) hx hb dX8_behindBlanks_30 hl (k := 0) rfl (by rw [ey_9]; rfl) (by decide) rfl (fun ls hl => ?_)
            have kc_1 : (1 : Int32).toInt = 1 := by decide
            have ty_9 : y_9.toInt = v2_l_2.toInt + (1 : Int32).toInt := by rw [ey_9]; exact add_ok (by omega) (by omega)
            have b_10 : -2147483647 ≤ y_9.toInt ∧ y_9.toInt ≤ 4000 := by omega
            refine lv_goto (tgt := 2) hx hb dX8_behindBlanks_33 (by decide) ?_
            exact ih y_9 (tb_ _) (by omega) _ _ _ (hK.sub [0] rfl) (hP.sub [0, 1] rfl) (hD.sub [0, 1] (by decide) rfl) hS (lv_sub hl [0, 1, 2] rfl)
  have b_11 := tb_ p1_
  exact loop_1 4294967297 p1_ (tb_ _) (by omega) _ _ _ hK hP hD hS hl
set_option maxHeartbeats 4000000 in
set_option maxRecDepth 100000 in
theorem s_X8_codeOf (l : Launch) (dC : Nat → ClassId) (dI : Nat → Nat → Nat) (p0_ : Int32) (sz : Nat) : Met l yX8_codeOf (.code yX8_codeOf cX8_codeOf 1 (some .int) :: lw_g) ({ frames := 0, cells := 0, slots := 0, locals := 0 }) (va_Pc [.int p0_] (fun U => U.heap.size = sz ∧ va_P (dC, dI) vwCl [] U.heap ∧ va_K (dC, dI) vwCl [] U ∧ va_D (fun _ => True) [])) (va_Qi (fun (r : Int32) (_ : Unit) => 0 ≤ r.toInt ∧ r.toInt ≤ 37) (fun (_ : Unit) (t : State) => va_P (dC, dI) vwCl [] t.heap ∧ va_K (dC, dI) vwCl [] t ∧ va_D (va_A [] sz) []) (va_A [] sz)) 0 0 (va_A [] sz) := by
  refine Met.ofW (cc := cX8_codeOf) (maxL := 1) (ret := (some .int)) (by decide) rfl ?_
  intro p e s m args below meth c s₁ B hml hv
  obtain ⟨rfl, hsz, hP, hK, hD0⟩ := hv
  have hx := B.exec
  have hb := B.bytes
  have hr := B.returns
  have hts := atoms_spec (ws := (.code yX8_codeOf cX8_codeOf 1 (some .int) :: lw_g)) B.pre
  have hown : s.vm.findClass RX8 = some m.cls := findClass_of_methodNamed B.named
  have hlocks := B.notSynchronized
  subst hsz
  have hD := hD0.self (sz := s.heap.size)
  generalize hAe : va_A [] s.heap.size = A at hD ⊢
  have hA : ∀ q : Nat, s.heap.size ≤ q → A q := fun q h => by rw [← hAe]; exact Or.inr h
  have hS : va_S A s.heap s.heap [] := va_S.rf
  have hP : va_P (dC, dI) vwCl [] s.heap := hP
  have hl := lv_entry ([.int p0_]) (n := 1) (Nat.le_of_ble_eq_true rfl)
  rw [lg_entry_eq]
  generalize (lg_sl ([.int p0_]) ++ List.replicate (1 - (lg_sl ([.int p0_])).length) Slot.unset).toArray = ls at hl ⊢
  have hl : lv_has ls 1 [(0, .int p0_)] := hl
  refine lv_iload_n hx hb dX8_codeOf_0 rfl (lv_at hl 0 rfl) ?_
  refine lv_bipush (v := 97) hx hb dX8_codeOf_1 (by decide) ?_
  have kc_97 : (97 : Int32).toInt = 97 := by decide
  refine lv_icmp_lt (tgt := 19) hx hb dX8_codeOf_3 (by decide) (fun c_1 => ?_) (fun c_1 => ?_)
  · have fc_1 := lt_f c_1
    refine lv_iload_n hx hb dX8_codeOf_19 rfl (lv_at hl 0 rfl) ?_
    refine lv_bipush (v := 48) hx hb dX8_codeOf_20 (by decide) ?_
    have kc_48 : (48 : Int32).toInt = 48 := by decide
    refine lv_icmp_lt (tgt := 39) hx hb dX8_codeOf_22 (by decide) (fun c_2 => ?_) (fun c_2 => ?_)
    · have fc_2 := lt_f c_2
      refine lv_iload_n hx hb dX8_codeOf_39 rfl (lv_at hl 0 rfl) ?_
      refine lv_bipush (v := 95) hx hb dX8_codeOf_40 (by decide) ?_
      have kc_95 : (95 : Int32).toInt = 95 := by decide
      refine lv_icmp_ne (tgt := 50) hx hb dX8_codeOf_42 (by decide) (fun c_3 => ?_) (fun c_3 => ?_)
      · have fc_3 := neq_f c_3
        refine lv_iconst (v := 0) hx hb dX8_codeOf_50 (by decide) ?_
        have hP9 := hP.sub (ws' := []) [] rfl
        have hD9 := hD.sub (ws' := []) [] (by decide) rfl
        have hK9 := hK.sub (tys' := []) [] rfl
        refine W.widen (k := 0) (n := 0) (Nat.le_of_ble_eq_true rfl) (Nat.le_of_ble_eq_true rfl) ?_
        exact W.iret (v := 0) hx hb hr (fun t ht hW => ⟨⟨_, (), rfl, ⟨by decide, by decide⟩, by rw [ht]; exact hP9, va_K.moved hW.alike hK9, hD9⟩, hS.F ht⟩) hS.2.2 dX8_codeOf_51
      · have fc_3 := eq_f c_3
        exfalso
        omega
    · have fc_2 := nlt_f c_2
      refine lv_iload_n hx hb dX8_codeOf_25 rfl (lv_at hl 0 rfl) ?_
      refine lv_bipush (v := 57) hx hb dX8_codeOf_26 (by decide) ?_
      have kc_57 : (57 : Int32).toInt = 57 := by decide
      refine lv_icmp_gt (tgt := 39) hx hb dX8_codeOf_28 (by decide) (fun c_4 => ?_) (fun c_4 => ?_)
      · have fc_4 := lt_f c_4
        refine lv_iload_n hx hb dX8_codeOf_39 rfl (lv_at hl 0 rfl) ?_
        refine lv_bipush (v := 95) hx hb dX8_codeOf_40 (by decide) ?_
        have kc_95 : (95 : Int32).toInt = 95 := by decide
        refine lv_icmp_ne (tgt := 50) hx hb dX8_codeOf_42 (by decide) (fun c_5 => ?_) (fun c_5 => ?_)
        · have fc_5 := neq_f c_5
          refine lv_iconst (v := 0) hx hb dX8_codeOf_50 (by decide) ?_
          have hP9 := hP.sub (ws' := []) [] rfl
          have hD9 := hD.sub (ws' := []) [] (by decide) rfl
          have hK9 := hK.sub (tys' := []) [] rfl
          refine W.widen (k := 0) (n := 0) (Nat.le_of_ble_eq_true rfl) (Nat.le_of_ble_eq_true rfl) ?_
          exact W.iret (v := 0) hx hb hr (fun t ht hW => ⟨⟨_, (), rfl, ⟨by decide, by decide⟩, by rw [ht]; exact hP9, va_K.moved hW.alike hK9, hD9⟩, hS.F ht⟩) hS.2.2 dX8_codeOf_51
        · have fc_5 := eq_f c_5
          refine lv_bipush (v := 37) hx hb dX8_codeOf_45 (by decide) ?_
          refine lv_goto (tgt := 51) hx hb dX8_codeOf_47 (by decide) ?_
          have hP9 := hP.sub (ws' := []) [] rfl
          have hD9 := hD.sub (ws' := []) [] (by decide) rfl
          have hK9 := hK.sub (tys' := []) [] rfl
          refine W.widen (k := 0) (n := 0) (Nat.le_of_ble_eq_true rfl) (Nat.le_of_ble_eq_true rfl) ?_
          exact W.iret (v := 37) hx hb hr (fun t ht hW => ⟨⟨_, (), rfl, ⟨by decide, by decide⟩, by rw [ht]; exact hP9, va_K.moved hW.alike hK9, hD9⟩, hS.F ht⟩) hS.2.2 dX8_codeOf_51
      · have fc_4 := nlt_f c_4
        refine lv_iload_n hx hb dX8_codeOf_31 rfl (lv_at hl 0 rfl) ?_
        refine lv_bipush (v := 48) hx hb dX8_codeOf_32 (by decide) ?_
        refine lv_isub hx hb dX8_codeOf_34 ?_
        refine lv_topi (fun y_6 ey_6 => ?_)
        have ty_6 : y_6.toInt = p0_.toInt - (48 : Int32).toInt := by rw [ey_6]; exact sub_ok (by omega) (by omega)
        have b_7 : 0 ≤ y_6.toInt ∧ y_6.toInt ≤ 9 := by omega
        refine lv_bipush (v := 27) hx hb dX8_codeOf_35 (by decide) ?_
        have kc_27 : (27 : Int32).toInt = 27 := by decide
        refine lv_iadd hx hb dX8_codeOf_37 ?_
        refine lv_topi (fun y_8 ey_8 => ?_)
        have ty_8 : y_8.toInt = y_6.toInt + (27 : Int32).toInt := by rw [ey_8]; exact add_ok (by omega) (by omega)
        have b_9 : 27 ≤ y_8.toInt ∧ y_8.toInt ≤ 36 := by omega
        have hP9 := hP.sub (ws' := []) [] rfl
        have hD9 := hD.sub (ws' := []) [] (by decide) rfl
        have hK9 := hK.sub (tys' := []) [] rfl
        refine W.widen (k := 0) (n := 0) (Nat.le_of_ble_eq_true rfl) (Nat.le_of_ble_eq_true rfl) ?_
        exact W.iret (v := y_8) hx hb hr (fun t ht hW => ⟨⟨_, (), rfl, ⟨by omega, by omega⟩, by rw [ht]; exact hP9, va_K.moved hW.alike hK9, hD9⟩, hS.F ht⟩) hS.2.2 dX8_codeOf_38
  · have fc_1 := nlt_f c_1
    refine lv_iload_n hx hb dX8_codeOf_6 rfl (lv_at hl 0 rfl) ?_
    refine lv_bipush (v := 122) hx hb dX8_codeOf_7 (by decide) ?_
    have kc_122 : (122 : Int32).toInt = 122 := by decide
    refine lv_icmp_gt (tgt := 19) hx hb dX8_codeOf_9 (by decide) (fun c_10 => ?_) (fun c_10 => ?_)
    · have fc_10 := lt_f c_10
      refine lv_iload_n hx hb dX8_codeOf_19 rfl (lv_at hl 0 rfl) ?_
      refine lv_bipush (v := 48) hx hb dX8_codeOf_20 (by decide) ?_
      have kc_48 : (48 : Int32).toInt = 48 := by decide
      refine lv_icmp_lt (tgt := 39) hx hb dX8_codeOf_22 (by decide) (fun c_11 => ?_) (fun c_11 => ?_)
      · have fc_11 := lt_f c_11
        exfalso
        omega
      · have fc_11 := nlt_f c_11
        refine lv_iload_n hx hb dX8_codeOf_25 rfl (lv_at hl 0 rfl) ?_
        refine lv_bipush (v := 57) hx hb dX8_codeOf_26 (by decide) ?_
        have kc_57 : (57 : Int32).toInt = 57 := by decide
        refine lv_icmp_gt (tgt := 39) hx hb dX8_codeOf_28 (by decide) (fun c_12 => ?_) (fun c_12 => ?_)
        · have fc_12 := lt_f c_12
          refine lv_iload_n hx hb dX8_codeOf_39 rfl (lv_at hl 0 rfl) ?_
          refine lv_bipush (v := 95) hx hb dX8_codeOf_40 (by decide) ?_
          have kc_95 : (95 : Int32).toInt = 95 := by decide
          refine lv_icmp_ne (tgt := 50) hx hb dX8_codeOf_42 (by decide) (fun c_13 => ?_) (fun c_13 => ?_)
          · have fc_13 := neq_f c_13
            refine lv_iconst (v := 0) hx hb dX8_codeOf_50 (by decide) ?_
            have hP9 := hP.sub (ws' := []) [] rfl
            have hD9 := hD.sub (ws' := []) [] (by decide) rfl
            have hK9 := hK.sub (tys' := []) [] rfl
            refine W.widen (k := 0) (n := 0) (Nat.le_of_ble_eq_true rfl) (Nat.le_of_ble_eq_true rfl) ?_
            exact W.iret (v := 0) hx hb hr (fun t ht hW => ⟨⟨_, (), rfl, ⟨by decide, by decide⟩, by rw [ht]; exact hP9, va_K.moved hW.alike hK9, hD9⟩, hS.F ht⟩) hS.2.2 dX8_codeOf_51
          · have fc_13 := eq_f c_13
            exfalso
            omega
        · have fc_12 := nlt_f c_12
          exfalso
          omega
    · have fc_10 := nlt_f c_10
      refine lv_iload_n hx hb dX8_codeOf_12 rfl (lv_at hl 0 rfl) ?_
      refine lv_bipush (v := 97) hx hb dX8_codeOf_13 (by decide) ?_
      refine lv_isub hx hb dX8_codeOf_15 ?_
      refine lv_topi (fun y_14 ey_14 => ?_)
      have ty_14 : y_14.toInt = p0_.toInt - (97 : Int32).toInt := by rw [ey_14]; exact sub_ok (by omega) (by omega)
      have b_15 : 0 ≤ y_14.toInt ∧ y_14.toInt ≤ 25 := by omega
      refine lv_iconst (v := 1) hx hb dX8_codeOf_16 (by decide) ?_
      have kc_1 : (1 : Int32).toInt = 1 := by decide
      refine lv_iadd hx hb dX8_codeOf_17 ?_
      refine lv_topi (fun y_16 ey_16 => ?_)
      have ty_16 : y_16.toInt = y_14.toInt + (1 : Int32).toInt := by rw [ey_16]; exact add_ok (by omega) (by omega)
      have b_17 : 1 ≤ y_16.toInt ∧ y_16.toInt ≤ 26 := by omega
      have hP9 := hP.sub (ws' := []) [] rfl
      have hD9 := hD.sub (ws' := []) [] (by decide) rfl
      have hK9 := hK.sub (tys' := []) [] rfl
      refine W.widen (k := 0) (n := 0) (Nat.le_of_ble_eq_true rfl) (Nat.le_of_ble_eq_true rfl) ?_
      exact W.iret (v := y_16) hx hb hr (fun t ht hW => ⟨⟨_, (), rfl, ⟨by omega, by omega⟩, by rw [ht]; exact hP9, va_K.moved hW.alike hK9, hD9⟩, hS.F ht⟩) hS.2.2 dX8_codeOf_18
set_option maxHeartbeats 4000000 in
set_option maxRecDepth 100000 in
theorem s_X8_pairKind (l : Launch) (dC : Nat → ClassId) (dI : Nat → Nat → Nat) (p0_ : Int32) (p1_ : Int32) (sz : Nat) : Met l yX8_pairKind (.code yX8_pairKind cX8_pairKind 2 (some .int) :: lw_g) ({ frames := 0, cells := 0, slots := 0, locals := 0 }) (va_Pc [.int p0_, .int p1_] (fun U => U.heap.size = sz ∧ va_P (dC, dI) vwCl [] U.heap ∧ va_K (dC, dI) vwCl [] U ∧ va_D (fun _ => True) [])) (va_Qi (fun (r : Int32) (_ : Unit) => 2 ≤ r.toInt ∧ r.toInt ≤ 206) (fun (_ : Unit) (t : State) => va_P (dC, dI) vwCl [] t.heap ∧ va_K (dC, dI) vwCl [] t ∧ va_D (va_A [] sz) []) (va_A [] sz)) 0 0 (va_A [] sz) := by
  refine Met.ofW (cc := cX8_pairKind) (maxL := 2) (ret := (some .int)) (by decide) rfl ?_
  intro p e s m args below meth c s₁ B hml hv
  obtain ⟨rfl, hsz, hP, hK, hD0⟩ := hv
  have hx := B.exec
  have hb := B.bytes
  have hr := B.returns
  have hts := atoms_spec (ws := (.code yX8_pairKind cX8_pairKind 2 (some .int) :: lw_g)) B.pre
  have hown : s.vm.findClass RX8 = some m.cls := findClass_of_methodNamed B.named
  have hlocks := B.notSynchronized
  subst hsz
  have hD := hD0.self (sz := s.heap.size)
  generalize hAe : va_A [] s.heap.size = A at hD ⊢
  have hA : ∀ q : Nat, s.heap.size ≤ q → A q := fun q h => by rw [← hAe]; exact Or.inr h
  have hS : va_S A s.heap s.heap [] := va_S.rf
  have hP : va_P (dC, dI) vwCl [] s.heap := hP
  have hl := lv_entry ([.int p0_, .int p1_]) (n := 2) (Nat.le_of_ble_eq_true rfl)
  rw [lg_entry_eq]
  generalize (lg_sl ([.int p0_, .int p1_]) ++ List.replicate (2 - (lg_sl ([.int p0_, .int p1_])).length) Slot.unset).toArray = ls at hl ⊢
  have hl : lv_has ls 2 [(0, .int p0_), (1, .int p1_)] := hl
  refine lv_iload_n hx hb dX8_pairKind_0 rfl (lv_at hl 1 rfl) ?_
  refine lv_bipush (v := 61) hx hb dX8_pairKind_1 (by decide) ?_
  have kc_61 : (61 : Int32).toInt = 61 := by decide
  refine lv_icmp_ne (tgt := 66) hx hb dX8_pairKind_3 (by decide) (fun c_1 => ?_) (fun c_1 => ?_)
  · have fc_1 := neq_f c_1
    refine lv_iload_n hx hb dX8_pairKind_66 rfl (lv_at hl 0 rfl) ?_
    refine lv_iload_n hx hb dX8_pairKind_67 rfl (lv_at hl 1 rfl) ?_
    refine lv_icmp_eq (tgt := 73) hx hb dX8_pairKind_68 (by decide) (fun c_2 => ?_) (fun c_2 => ?_)
    · have fc_2 := eq_f c_2
      refine lv_iload_n hx hb dX8_pairKind_73 rfl (lv_at hl 0 rfl) ?_
      by_cases e_3 : p0_ = 38
      · refine lv_topi (fun z_4 ez_4 => ?_)
        obtain rfl : z_4 = 38 := ez_4.trans e_3
        refine lv_lookup (off := 38) (tgt := 112) hx hb dX8_pairKind_74 (by decide) (by decide) (by decide) ?_
        refine lv_sipush (v := 205) hx hb dX8_pairKind_112 (by decide) ?_
        have hP9 := hP.sub (ws' := []) [] rfl
        have hD9 := hD.sub (ws' := []) [] (by decide) rfl
        have hK9 := hK.sub (tys' := []) [] rfl
        refine W.widen (k := 0) (n := 0) (Nat.le_of_ble_eq_true rfl) (Nat.le_of_ble_eq_true rfl) ?_
        exact W.iret (v := 205) hx hb hr (fun t ht hW => ⟨⟨_, (), rfl, ⟨by decide, by decide⟩, by rw [ht]; exact hP9, va_K.moved hW.alike hK9, hD9⟩, hS.F ht⟩) hS.2.2 dX8_pairKind_115
      by_cases e_5 : p0_ = 46
      · refine lv_topi (fun z_6 ez_6 => ?_)
        obtain rfl : z_6 = 46 := ez_6.trans e_5
        refine lv_lookup (off := 34) (tgt := 108) hx hb dX8_pairKind_74 (by decide) (by decide) (by decide) ?_
        refine lv_sipush (v := 200) hx hb dX8_pairKind_108 (by decide) ?_
        have hP9 := hP.sub (ws' := []) [] rfl
        have hD9 := hD.sub (ws' := []) [] (by decide) rfl
        have hK9 := hK.sub (tys' := []) [] rfl
        refine W.widen (k := 0) (n := 0) (Nat.le_of_ble_eq_true rfl) (Nat.le_of_ble_eq_true rfl) ?_
        exact W.iret (v := 200) hx hb hr (fun t ht hW => ⟨⟨_, (), rfl, ⟨by decide, by decide⟩, by rw [ht]; exact hP9, va_K.moved hW.alike hK9, hD9⟩, hS.F ht⟩) hS.2.2 dX8_pairKind_111
      by_cases e_7 : p0_ = 124
      · refine lv_topi (fun z_8 ez_8 => ?_)
        obtain rfl : z_8 = 124 := ez_8.trans e_7
        refine lv_lookup (off := 42) (tgt := 116) hx hb dX8_pairKind_74 (by decide) (by decide) (by decide) ?_
        refine lv_sipush (v := 206) hx hb dX8_pairKind_116 (by decide) ?_
        have hP9 := hP.sub (ws' := []) [] rfl
        have hD9 := hD.sub (ws' := []) [] (by decide) rfl
        have hK9 := hK.sub (tys' := []) [] rfl
        refine W.widen (k := 0) (n := 0) (Nat.le_of_ble_eq_true rfl) (Nat.le_of_ble_eq_true rfl) ?_
        exact W.iret (v := 206) hx hb hr (fun t ht hW => ⟨⟨_, (), rfl, ⟨by decide, by decide⟩, by rw [ht]; exact hP9, va_K.moved hW.alike hK9, hD9⟩, hS.F ht⟩) hS.2.2 dX8_pairKind_119
      refine lv_lookup (off := 46) (tgt := 120) hx hb dX8_pairKind_74 (by decide) (by have a0 : p0_.toInt ≠ 38 := fun h => e_3 (Int32.toInt_inj.mp (h.trans (by decide))); have a1 : p0_.toInt ≠ 46 := fun h => e_5 (Int32.toInt_inj.mp (h.trans (by decide))); have a2 : p0_.toInt ≠ 124 := fun h => e_7 (Int32.toInt_inj.mp (h.trans (by decide))); simp [Op.lookupswitch.offset, a0, a1, a2, Ne.symm]) (by decide) ?_
      refine lv_iconst (v := 2) hx hb dX8_pairKind_120 (by decide) ?_
      have hP9 := hP.sub (ws' := []) [] rfl
      have hD9 := hD.sub (ws' := []) [] (by decide) rfl
      have hK9 := hK.sub (tys' := []) [] rfl
      refine W.widen (k := 0) (n := 0) (Nat.le_of_ble_eq_true rfl) (Nat.le_of_ble_eq_true rfl) ?_
      exact W.iret (v := 2) hx hb hr (fun t ht hW => ⟨⟨_, (), rfl, ⟨by decide, by decide⟩, by rw [ht]; exact hP9, va_K.moved hW.alike hK9, hD9⟩, hS.F ht⟩) hS.2.2 dX8_pairKind_121
    · have fc_2 := neq_f c_2
      refine lv_iconst (v := 2) hx hb dX8_pairKind_71 (by decide) ?_
      have hP9 := hP.sub (ws' := []) [] rfl
      have hD9 := hD.sub (ws' := []) [] (by decide) rfl
      have hK9 := hK.sub (tys' := []) [] rfl
      refine W.widen (k := 0) (n := 0) (Nat.le_of_ble_eq_true rfl) (Nat.le_of_ble_eq_true rfl) ?_
      exact W.iret (v := 2) hx hb hr (fun t ht hW => ⟨⟨_, (), rfl, ⟨by decide, by decide⟩, by rw [ht]; exact hP9, va_K.moved hW.alike hK9, hD9⟩, hS.F ht⟩) hS.2.2 dX8_pairKind_72
  · have fc_1 := eq_f c_1
    refine lv_iload_n hx hb dX8_pairKind_6 rfl (lv_at hl 0 rfl) ?_
    by_cases e_9 : p0_ = 33
    · refine lv_topi (fun z_10 ez_10 => ?_)
      obtain rfl : z_10 = 33 := ez_10.trans e_9
      refine lv_lookup (off := 45) (tgt := 52) hx hb dX8_pairKind_7 (by decide) (by decide) (by decide) ?_
      refine lv_sipush (v := 202) hx hb dX8_pairKind_52 (by decide) ?_
      have hP9 := hP.sub (ws' := []) [] rfl
      have hD9 := hD.sub (ws' := []) [] (by decide) rfl
      have hK9 := hK.sub (tys' := []) [] rfl
      refine W.widen (k := 0) (n := 0) (Nat.le_of_ble_eq_true rfl) (Nat.le_of_ble_eq_true rfl) ?_
      exact W.iret (v := 202) hx hb hr (fun t ht hW => ⟨⟨_, (), rfl, ⟨by decide, by decide⟩, by rw [ht]; exact hP9, va_K.moved hW.alike hK9, hD9⟩, hS.F ht⟩) hS.2.2 dX8_pairKind_55
    by_cases e_11 : p0_ = 60
    · refine lv_topi (fun z_12 ez_12 => ?_)
      obtain rfl : z_12 = 60 := ez_12.trans e_11
      refine lv_lookup (off := 49) (tgt := 56) hx hb dX8_pairKind_7 (by decide) (by decide) (by decide) ?_
      refine lv_sipush (v := 203) hx hb dX8_pairKind_56 (by decide) ?_
      have hP9 := hP.sub (ws' := []) [] rfl
      have hD9 := hD.sub (ws' := []) [] (by decide) rfl
      have hK9 := hK.sub (tys' := []) [] rfl
      refine W.widen (k := 0) (n := 0) (Nat.le_of_ble_eq_true rfl) (Nat.le_of_ble_eq_true rfl) ?_
      exact W.iret (v := 203) hx hb hr (fun t ht hW => ⟨⟨_, (), rfl, ⟨by decide, by decide⟩, by rw [ht]; exact hP9, va_K.moved hW.alike hK9, hD9⟩, hS.F ht⟩) hS.2.2 dX8_pairKind_59
    by_cases e_13 : p0_ = 61
    · refine lv_topi (fun z_14 ez_14 => ?_)
      obtain rfl : z_14 = 61 := ez_14.trans e_13
      refine lv_lookup (off := 41) (tgt := 48) hx hb dX8_pairKind_7 (by decide) (by decide) (by decide) ?_
      refine lv_sipush (v := 201) hx hb dX8_pairKind_48 (by decide) ?_
      have hP9 := hP.sub (ws' := []) [] rfl
      have hD9 := hD.sub (ws' := []) [] (by decide) rfl
      have hK9 := hK.sub (tys' := []) [] rfl
      refine W.widen (k := 0) (n := 0) (Nat.le_of_ble_eq_true rfl) (Nat.le_of_ble_eq_true rfl) ?_
      exact W.iret (v := 201) hx hb hr (fun t ht hW => ⟨⟨_, (), rfl, ⟨by decide, by decide⟩, by rw [ht]; exact hP9, va_K.moved hW.alike hK9, hD9⟩, hS.F ht⟩) hS.2.2 dX8_pairKind_51
    by_cases e_15 : p0_ = 62
    · refine lv_topi (fun z_16 ez_16 => ?_)
      obtain rfl : z_16 = 62 := ez_16.trans e_15
      refine lv_lookup (off := 53) (tgt := 60) hx hb dX8_pairKind_7 (by decide) (by decide) (by decide) ?_
      refine lv_sipush (v := 204) hx hb dX8_pairKind_60 (by decide) ?_
      have hP9 := hP.sub (ws' := []) [] rfl
      have hD9 := hD.sub (ws' := []) [] (by decide) rfl
      have hK9 := hK.sub (tys' := []) [] rfl
      refine W.widen (k := 0) (n := 0) (Nat.le_of_ble_eq_true rfl) (Nat.le_of_ble_eq_true rfl) ?_
      exact W.iret (v := 204) hx hb hr (fun t ht hW => ⟨⟨_, (), rfl, ⟨by decide, by decide⟩, by rw [ht]; exact hP9, va_K.moved hW.alike hK9, hD9⟩, hS.F ht⟩) hS.2.2 dX8_pairKind_63
    refine lv_lookup (off := 57) (tgt := 64) hx hb dX8_pairKind_7 (by decide) (by have a0 : p0_.toInt ≠ 33 := fun h => e_9 (Int32.toInt_inj.mp (h.trans (by decide))); have a1 : p0_.toInt ≠ 60 := fun h => e_11 (Int32.toInt_inj.mp (h.trans (by decide))); have a2 : p0_.toInt ≠ 61 := fun h => e_13 (Int32.toInt_inj.mp (h.trans (by decide))); have a3 : p0_.toInt ≠ 62 := fun h => e_15 (Int32.toInt_inj.mp (h.trans (by decide))); simp [Op.lookupswitch.offset, a0, a1, a2, a3, Ne.symm]) (by decide) ?_
    refine lv_iconst (v := 2) hx hb dX8_pairKind_64 (by decide) ?_
    have hP9 := hP.sub (ws' := []) [] rfl
    have hD9 := hD.sub (ws' := []) [] (by decide) rfl
    have hK9 := hK.sub (tys' := []) [] rfl
    refine W.widen (k := 0) (n := 0) (Nat.le_of_ble_eq_true rfl) (Nat.le_of_ble_eq_true rfl) ?_
    exact W.iret (v := 2) hx hb hr (fun t ht hW => ⟨⟨_, (), rfl, ⟨by decide, by decide⟩, by rw [ht]; exact hP9, va_K.moved hW.alike hK9, hD9⟩, hS.F ht⟩) hS.2.2 dX8_pairKind_65
