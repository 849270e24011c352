set_option maxHeartbeats 4000000 in
set_option maxRecDepth 100000 in
theorem c_X9_init (l : Launch) (dC : Nat → ClassId) (dI : Nat → Nat → Nat) (h0 : Nat) (sz : Nat) : Met l yX9_init (.code yX9_init cX9_init 1 none :: lw_g) ({ frames := 1, cells := 5, slots := 52, locals := 20 }) (va_Pc [.ref h0] (fun U => U.heap.size = sz ∧ va_P (dC, dI) vwCl [(h0, .inr (9, [.long 0, .int 0, .int 0, .null, .null, .null, .null, .int 0, .int 0, .null, .int 0, .int 0, .int 0]))] U.heap ∧ va_K (dC, dI) vwCl [] U ∧ va_D (fun _ => True) [(h0, .inr (9, [.long 0, .int 0, .int 0, .null, .null, .null, .null, .int 0, .int 0, .null, .int 0, .int 0, .int 0]))])) (va_Qv (fun _ : Unit => True) (fun (_ : Unit) (t : State) => ∃ z0 : Nat, ∃ z1 : Nat, ∃ z2 : Nat, ∃ z3 : Nat, ∃ z4 : Nat, va_P (dC, dI) vwCl [(h0, .inr (9, [.long 0, .int 0, .int 0, .ref z0, .ref z1, .ref z2, .ref z3, .int 0, .int 0, .ref z4, .int 0, .int 0, .int 0]))] t.heap ∧ va_K (dC, dI) vwCl [] t ∧ va_D (va_A [(h0, .inr (9, [.long 0, .int 0, .int 0, .null, .null, .null, .null, .int 0, .int 0, .null, .int 0, .int 0, .int 0]))] sz) [(h0, .inr (9, [.long 0, .int 0, .int 0, .ref z0, .ref z1, .ref z2, .ref z3, .int 0, .int 0, .ref z4, .int 0, .int 0, .int 0]))]) (va_A [(h0, .inr (9, [.long 0, .int 0, .int 0, .null, .null, .null, .null, .int 0, .int 0, .null, .int 0, .int 0, .int 0]))] sz)) 5 52 (va_A [(h0, .inr (9, [.long 0, .int 0, .int 0, .null, .null, .null, .null, .int 0, .int 0, .null, .int 0, .int 0, .int 0]))] sz) := by
  refine Met.ofW (cc := cX9_init) (maxL := 1) (ret := none) (by decide) rfl ?_
  intro p e s m args below meth c s₁ B hml hv
  obtain ⟨rfl, hsz, hP, hK, hD0⟩ := hv
  have hx := B.exec
  have hb := B.bytes
  have hr := B.returns
  have hts := atoms_spec (ws := (.code yX9_init cX9_init 1 none :: lw_g)) B.pre
  have hown : s.vm.findClass RX9 = some m.cls := findClass_of_methodNamed B.named
  have hlocks := B.notSynchronized
  have hin : meth.name = "<init>" := (name_of_methodNamed B.named B.method).1
  subst hsz
  have hD := hD0.self (sz := s.heap.size)
  generalize hAe : va_A [(h0, .inr (9, [.long 0, .int 0, .int 0, .null, .null, .null, .null, .int 0, .int 0, .null, .int 0, .int 0, .int 0]))] s.heap.size = A at hD ⊢
  have hA : ∀ q : Nat, s.heap.size ≤ q → A q := fun q h => by rw [← hAe]; exact Or.inr h
  have hS : va_S A s.heap s.heap [] := va_S.rf
  have hP : va_P (dC, dI) vwCl [(h0, .inr (9, [.long 0, .int 0, .int 0, .null, .null, .null, .null, .int 0, .int 0, .null, .int 0, .int 0, .int 0]))] s.heap := hP
  have hl := lv_entry ([.ref h0]) (n := 1) (Nat.le_of_ble_eq_true rfl)
  rw [lg_entry_eq]
  generalize (lg_sl ([.ref h0]) ++ List.replicate (1 - (lg_sl ([.ref h0])).length) Slot.unset).toArray = ls at hl ⊢
  have hl : lv_has ls 1 [(0, .ref h0)] := hl
  refine lv_aload_n hx hb dX9_init_0 rfl (lv_at hl 0 rfl) ?_
  refine W.objInit hx hb hown (hts _ (List.mem_cons_of_mem _ t_477)) (hts _ (List.mem_cons_of_mem _ t_213)) (hts _ (List.mem_cons_of_mem _ t_214)) rfl (by rw [hml]; exact hl.1) rfl dX9_init_1 (Nat.le_of_ble_eq_true rfl) (Nat.le_of_ble_eq_true rfl) ?_
  refine W.eq (g2 := F0 m 4 ls []) rfl ?_
  refine lv_aload_n hx hb dX9_init_4 rfl (lv_at hl 0 rfl) ?_
  refine lv_bipush (v := 10) hx hb dX9_init_5 (by decide) ?_
  refine va_newa (atype := .long) (N' := 10) (a0 := (10, .inr (.inl (fun _ => 0)))) hx hb (hts _ (List.mem_cons_of_mem _ t_321)) rfl hK hP hD hS hA (fun _ => rfl) (by decide) (by decide) (by decide) (Nat.le_of_ble_eq_true rfl) (Nat.le_of_ble_eq_true rfl) dX9_init_7 (fun q_1 k_2 H hK hP hD hS => ?_)
  have hK : va_K (dC, dI) vwCl [(k_2, .long)] s := hK
  have hP : va_P (dC, dI) vwCl [(h0, .inr (9, [.long 0, .int 0, .int 0, .null, .null, .null, .null, .int 0, .int 0, .null, .int 0, .int 0, .int 0])), (q_1, .inl (k_2, 10, .inr (.inl (fun _ => 0))))] H := hP
  have hD : va_D A [(h0, .inr (9, [.long 0, .int 0, .int 0, .null, .null, .null, .null, .int 0, .int 0, .null, .int 0, .int 0, .int 0])), (q_1, .inl (k_2, 10, .inr (.inl (fun _ => 0))))] := hD
  refine W.widen (k := 1) (n := 10) (Nat.le_of_ble_eq_true rfl) (Nat.le_of_ble_eq_true rfl) ?_
  refine va_putF (D := (dC, dI)) (ci := 9) (v := .ref q_1) (ty := tyX9 3) (C := RX9) (T := TX9) (N := 13) hx hb hts (mc_ inX9) tyX9 tyX9_ok nmX9 hown hK hP hD hS 0 rfl rfl 3 (by decide) (hts _ (List.mem_cons_of_mem _ t_488)) (fun _ h9 => h9) rfl hin rfl (by decide +kernel) rfl rfl (Nat.le_of_ble_eq_true rfl) dX9_init_9 (fun H locs hP hD hS => ?_)
  have hP : va_P (dC, dI) vwCl [(h0, .inr (9, [.long 0, .int 0, .int 0, .ref q_1, .null, .null, .null, .int 0, .int 0, .null, .int 0, .int 0, .int 0])), (q_1, .inl (k_2, 10, .inr (.inl (fun _ => 0))))] H := hP
  have hD : va_D A [(h0, .inr (9, [.long 0, .int 0, .int 0, .ref q_1, .null, .null, .null, .int 0, .int 0, .null, .int 0, .int 0, .int 0])), (q_1, .inl (k_2, 10, .inr (.inl (fun _ => 0))))] := hD
  have hP := hP.sub (ws' := [(h0, .inr (9, [.long 0, .int 0, .int 0, .ref q_1, .null, .null, .null, .int 0, .int 0, .null, .int 0, .int 0, .int 0]))]) [0] rfl
  have hD := hD.sub (ws' := [(h0, .inr (9, [.long 0, .int 0, .int 0, .ref q_1, .null, .null, .null, .int 0, .int 0, .null, .int 0, .int 0, .int 0]))]) [0] (by decide) rfl
  have hK := hK.sub (tys' := []) [] rfl
  refine lv_aload_n hx hb dX9_init_12 rfl (lv_at hl 0 rfl) ?_
  refine lv_bipush (v := 10) hx hb dX9_init_13 (by decide) ?_
  refine va_newa (atype := .int) (N' := 10) (a0 := (10, .inl (fun _ => 0))) hx hb (hts _ (List.mem_cons_of_mem _ t_320)) rfl hK hP hD hS hA (fun _ => rfl) (by decide) (by decide) (by decide) (Nat.le_of_ble_eq_true rfl) (Nat.le_of_ble_eq_true rfl) dX9_init_15 (fun q_3 k_4 H hK hP hD hS => ?_)
  have hK : va_K (dC, dI) vwCl [(k_4, .int)] s := hK
  have hP : va_P (dC, dI) vwCl [(h0, .inr (9, [.long 0, .int 0, .int 0, .ref q_1, .null, .null, .null, .int 0, .int 0, .null, .int 0, .int 0, .int 0])), (q_3, .inl (k_4, 10, .inl (fun _ => 0)))] H := hP
  have hD : va_D A [(h0, .inr (9, [.long 0, .int 0, .int 0, .ref q_1, .null, .null, .null, .int 0, .int 0, .null, .int 0, .int 0, .int 0])), (q_3, .inl (k_4, 10, .inl (fun _ => 0)))] := hD
  refine W.widen (k := 2) (n := 20) (Nat.le_of_ble_eq_true rfl) (Nat.le_of_ble_eq_true rfl) ?_
  refine va_putF (D := (dC, dI)) (ci := 9) (v := .ref q_3) (ty := tyX9 4) (C := RX9) (T := TX9) (N := 13) hx hb hts (mc_ inX9) tyX9 tyX9_ok nmX9 hown hK hP hD hS 0 rfl rfl 4 (by decide) (hts _ (List.mem_cons_of_mem _ t_489)) (fun _ h9 => h9) rfl hin rfl (by decide +kernel) rfl rfl (Nat.le_of_ble_eq_true rfl) dX9_init_17 (fun H locs hP hD hS => ?_)
  have hP : va_P (dC, dI) vwCl [(h0, .inr (9, [.long 0, .int 0, .int 0, .ref q_1, .ref q_3, .null, .null, .int 0, .int 0, .null, .int 0, .int 0, .int 0])), (q_3, .inl (k_4, 10, .inl (fun _ => 0)))] H := hP
  have hD : va_D A [(h0, .inr (9, [.long 0, .int 0, .int 0, .ref q_1, .ref q_3, .null, .null, .int 0, .int 0, .null, .int 0, .int 0, .int 0])), (q_3, .inl (k_4, 10, .inl (fun _ => 0)))] := hD
  have hP := hP.sub (ws' := [(h0, .inr (9, [.long 0, .int 0, .int 0, .ref q_1, .ref q_3, .null, .null, .int 0, .int 0, .null, .int 0, .int 0, .int 0]))]) [0] rfl
  have hD := hD.sub (ws' := [(h0, .inr (9, [.long 0, .int 0, .int 0, .ref q_1, .ref q_3, .null, .null, .int 0, .int 0, .null, .int 0, .int 0, .int 0]))]) [0] (by decide) rfl
  have hK := hK.sub (tys' := []) [] rfl
  refine lv_aload_n hx hb dX9_init_20 rfl (lv_at hl 0 rfl) ?_
  refine lv_bipush (v := 10) hx hb dX9_init_21 (by decide) ?_
  refine va_newa (atype := .int) (N' := 10) (a0 := (10, .inl (fun _ => 0))) hx hb (hts _ (List.mem_cons_of_mem _ t_320)) rfl hK hP hD hS hA (fun _ => rfl) (by decide) (by decide) (by decide) (Nat.le_of_ble_eq_true rfl) (Nat.le_of_ble_eq_true rfl) dX9_init_23 (fun q_5 k_6 H hK hP hD hS => ?_)
  have hK : va_K (dC, dI) vwCl [(k_6, .int)] s := hK
  have hP : va_P (dC, dI) vwCl [(h0, .inr (9, [.long 0, .int 0, .int 0, .ref q_1, .ref q_3, .null, .null, .int 0, .int 0, .null, .int 0, .int 0, .int 0])), (q_5, .inl (k_6, 10, .inl (fun _ => 0)))] H := hP
  have hD : va_D A [(h0, .inr (9, [.long 0, .int 0, .int 0, .ref q_1, .ref q_3, .null, .null, .int 0, .int 0, .null, .int 0, .int 0, .int 0])), (q_5, .inl (k_6, 10, .inl (fun _ => 0)))] := hD
  refine W.widen (k := 3) (n := 30) (Nat.le_of_ble_eq_true rfl) (Nat.le_of_ble_eq_true rfl) ?_
  refine va_putF (D := (dC, dI)) (ci := 9) (v := .ref q_5) (ty := tyX9 5) (C := RX9) (T := TX9) (N := 13) hx hb hts (mc_ inX9) tyX9 tyX9_ok nmX9 hown hK hP hD hS 0 rfl rfl 5 (by decide) (hts _ (List.mem_cons_of_mem _ t_490)) (fun _ h9 => h9) rfl hin rfl (by decide +kernel) rfl rfl (Nat.le_of_ble_eq_true rfl) dX9_init_25 (fun H locs hP hD hS => ?_)
  have hP : va_P (dC, dI) vwCl [(h0, .inr (9, [.long 0, .int 0, .int 0, .ref q_1, .ref q_3, .ref q_5, .null, .int 0, .int 0, .null, .int 0, .int 0, .int 0])), (q_5, .inl (k_6, 10, .inl (fun _ => 0)))] H := hP
  have hD : va_D A [(h0, .inr (9, [.long 0, .int 0, .int 0, .ref q_1, .ref q_3, .ref q_5, .null, .int 0, .int 0, .null, .int 0, .int 0, .int 0])), (q_5, .inl (k_6, 10, .inl (fun _ => 0)))] := hD
  have hP := hP.sub (ws' := [(h0, .inr (9, [.long 0, .int 0, .int 0, .ref q_1, .ref q_3, .ref q_5, .null, .int 0, .int 0, .null, .int 0, .int 0, .int 0]))]) [0] rfl
  have hD := hD.sub (ws' := [(h0, .inr (9, [.long 0, .int 0, .int 0, .ref q_1, .ref q_3, .ref q_5, .null, .int 0, .int 0, .null, .int 0, .int 0, .int 0]))]) [0] (by decide) rfl
  have hK := hK.sub (tys' := []) [] rfl
  refine lv_aload_n hx hb dX9_init_28 rfl (lv_at hl 0 rfl) ?_
  refine lv_bipush (v := 10) hx hb dX9_init_29 (by decide) ?_
  refine va_newa (atype := .int) (N' := 10) (a0 := (10, .inl (fun _ => 0))) hx hb (hts _ (List.mem_cons_of_mem _ t_320)) rfl hK hP hD hS hA (fun _ => rfl) (by decide) (by decide) (by decide) (Nat.le_of_ble_eq_true rfl) (Nat.le_of_ble_eq_true rfl) dX9_init_31 (fun q_7 k_8 H hK hP hD hS => ?_)
  have hK : va_K (dC, dI) vwCl [(k_8, .int)] s := hK
  have hP : va_P (dC, dI) vwCl [(h0, .inr (9, [.long 0, .int 0, .int 0, .ref q_1, .ref q_3, .ref q_5, .null, .int 0, .int 0, .null, .int 0, .int 0, .int 0])), (q_7, .inl (k_8, 10, .inl (fun _ => 0)))] H := hP
  have hD : va_D A [(h0, .inr (9, [.long 0, .int 0, .int 0, .ref q_1, .ref q_3, .ref q_5, .null, .int 0, .int 0, .null, .int 0, .int 0, .int 0])), (q_7, .inl (k_8, 10, .inl (fun _ => 0)))] := hD
  refine W.widen (k := 4) (n := 40) (Nat.le_of_ble_eq_true rfl) (Nat.le_of_ble_eq_true rfl) ?_
  refine va_putF (D := (dC, dI)) (ci := 9) (v := .ref q_7) (ty := tyX9 6) (C := RX9) (T := TX9) (N := 13) hx hb hts (mc_ inX9) tyX9 tyX9_ok nmX9 hown hK hP hD hS 0 rfl rfl 6 (by decide) (hts _ (List.mem_cons_of_mem _ t_492)) (fun _ h9 => h9) rfl hin rfl (by decide +kernel) rfl rfl (Nat.le_of_ble_eq_true rfl) dX9_init_33 (fun H locs hP hD hS => ?_)
  have hP : va_P (dC, dI) vwCl [(h0, .inr (9, [.long 0, .int 0, .int 0, .ref q_1, .ref q_3, .ref q_5, .ref q_7, .int 0, .int 0, .null, .int 0, .int 0, .int 0])), (q_7, .inl (k_8, 10, .inl (fun _ => 0)))] H := hP
  have hD : va_D A [(h0, .inr (9, [.long 0, .int 0, .int 0, .ref q_1, .ref q_3, .ref q_5, .ref q_7, .int 0, .int 0, .null, .int 0, .int 0, .int 0])), (q_7, .inl (k_8, 10, .inl (fun _ => 0)))] := hD
  have hP := hP.sub (ws' := [(h0, .inr (9, [.long 0, .int 0, .int 0, .ref q_1, .ref q_3, .ref q_5, .ref q_7, .int 0, .int 0, .null, .int 0, .int 0, .int 0]))]) [0] rfl
  have hD := hD.sub (ws' := [(h0, .inr (9, [.long 0, .int 0, .int 0, .ref q_1, .ref q_3, .ref q_5, .ref q_7, .int 0, .int 0, .null, .int 0, .int 0, .int 0]))]) [0] (by decide) rfl
  have hK := hK.sub (tys' := []) [] rfl
  refine lv_aload_n hx hb dX9_init_36 rfl (lv_at hl 0 rfl) ?_
  refine lv_bipush (v := 12) hx hb dX9_init_37 (by decide) ?_
  refine va_newa (atype := .int) (N' := 12) (a0 := (12, .inl (fun _ => 0))) hx hb (hts _ (List.mem_cons_of_mem _ t_320)) rfl hK hP hD hS hA (fun _ => rfl) (by decide) (by decide) (by decide) (Nat.le_of_ble_eq_true rfl) (Nat.le_of_ble_eq_true rfl) dX9_init_39 (fun q_9 k_10 H hK hP hD hS => ?_)
  have hK : va_K (dC, dI) vwCl [(k_10, .int)] s := hK
  have hP : va_P (dC, dI) vwCl [(h0, .inr (9, [.long 0, .int 0, .int 0, .ref q_1, .ref q_3, .ref q_5, .ref q_7, .int 0, .int 0, .null, .int 0, .int 0, .int 0])), (q_9, .inl (k_10, 12, .inl (fun _ => 0)))] H := hP
  have hD : va_D A [(h0, .inr (9, [.long 0, .int 0, .int 0, .ref q_1, .ref q_3, .ref q_5, .ref q_7, .int 0, .int 0, .null, .int 0, .int 0, .int 0])), (q_9, .inl (k_10, 12, .inl (fun _ => 0)))] := hD
  refine W.widen (k := 5) (n := 52) (Nat.le_of_ble_eq_true rfl) (Nat.le_of_ble_eq_true rfl) ?_
  refine va_putF (D := (dC, dI)) (ci := 9) (v := .ref q_9) (ty := tyX9 9) (C := RX9) (T := TX9) (N := 13) hx hb hts (mc_ inX9) tyX9 tyX9_ok nmX9 hown hK hP hD hS 0 rfl rfl 9 (by decide) (hts _ (List.mem_cons_of_mem _ t_503)) (fun _ h9 => h9) rfl hin rfl (by decide +kernel) rfl rfl (Nat.le_of_ble_eq_true rfl) dX9_init_41 (fun H locs hP hD hS => ?_)
  have hP : va_P (dC, dI) vwCl [(h0, .inr (9, [.long 0, .int 0, .int 0, .ref q_1, .ref q_3, .ref q_5, .ref q_7, .int 0, .int 0, .ref q_9, .int 0, .int 0, .int 0])), (q_9, .inl (k_10, 12, .inl (fun _ => 0)))] H := hP
  have hD : va_D A [(h0, .inr (9, [.long 0, .int 0, .int 0, .ref q_1, .ref q_3, .ref q_5, .ref q_7, .int 0, .int 0, .ref q_9, .int 0, .int 0, .int 0])), (q_9, .inl (k_10, 12, .inl (fun _ => 0)))] := hD
  have hP := hP.sub (ws' := [(h0, .inr (9, [.long 0, .int 0, .int 0, .ref q_1, .ref q_3, .ref q_5, .ref q_7, .int 0, .int 0, .ref q_9, .int 0, .int 0, .int 0]))]) [0] rfl
  have hD := hD.sub (ws' := [(h0, .inr (9, [.long 0, .int 0, .int 0, .ref q_1, .ref q_3, .ref q_5, .ref q_7, .int 0, .int 0, .ref q_9, .int 0, .int 0, .int 0]))]) [0] (by decide) rfl
  have hK := hK.sub (tys' := []) [] rfl
  have hP9 := hP.sub (ws' := [(h0, .inr (9, [.long 0, .int 0, .int 0, .ref q_1, .ref q_3, .ref q_5, .ref q_7, .int 0, .int 0, .ref q_9, .int 0, .int 0, .int 0]))]) [0] rfl
  have hD9 := hD.sub (ws' := [(h0, .inr (9, [.long 0, .int 0, .int 0, .ref q_1, .ref q_3, .ref q_5, .ref q_7, .int 0, .int 0, .ref q_9, .int 0, .int 0, .int 0]))]) [0] (by decide) rfl
  have hK9 := hK.sub (tys' := []) [] rfl
  refine W.widen (k := 5) (n := 52) (Nat.le_of_ble_eq_true rfl) (Nat.le_of_ble_eq_true rfl) ?_
  exact W.vret hx hb hr (fun t ht hW => ⟨⟨(), rfl, trivial, q_1, q_3, q_5, q_7, q_9, by rw [ht]; exact hP9, va_K.moved hW.alike hK9, hD9⟩, hS.F ht⟩) hS.2.2 dX9_init_44
set_option maxHeartbeats 4000000 in
set_option maxRecDepth 100000 in
theorem c_X6_init (l : Launch) (dC : Nat → ClassId) (dI : Nat → Nat → Nat) (h0 : Nat) (sz : Nat) : Met l yX6_init (.code yX6_init cX6_init 1 none :: lw_g) ({ frames := 1, cells := 2, slots := 6, locals := 20 }) (va_Pc [.ref h0] (fun U => U.heap.size = sz ∧ va_P (dC, dI) vwCl [(h0, .inr (6, [.long 0, .int 0, .int 0, .int 0, .null, .null, .int 0, .int 0, .int 0, .int 0, .int 0, .int 0, .int 0]))] U.heap ∧ va_K (dC, dI) vwCl [] U ∧ va_D (fun _ => True) [(h0, .inr (6, [.long 0, .int 0, .int 0, .int 0, .null, .null, .int 0, .int 0, .int 0, .int 0, .int 0, .int 0, .int 0]))])) (va_Qv (fun _ : Unit => True) (fun (_ : Unit) (t : State) => ∃ z0 : Nat, ∃ z1 : Nat, va_P (dC, dI) vwCl [(h0, .inr (6, [.long 0, .int 0, .int 0, .int 0, .ref z0, .ref z1, .int 0, .int 0, .int 0, .int 0, .int 0, .int 0, .int 0]))] t.heap ∧ va_K (dC, dI) vwCl [] t ∧ va_D (va_A [(h0, .inr (6, [.long 0, .int 0, .int 0, .int 0, .null, .null, .int 0, .int 0, .int 0, .int 0, .int 0, .int 0, .int 0]))] sz) [(h0, .inr (6, [.long 0, .int 0, .int 0, .int 0, .ref z0, .ref z1, .int 0, .int 0, .int 0, .int 0, .int 0, .int 0, .int 0]))]) (va_A [(h0, .inr (6, [.long 0, .int 0, .int 0, .int 0, .null, .null, .int 0, .int 0, .int 0, .int 0, .int 0, .int 0, .int 0]))] sz)) 2 6 (va_A [(h0, .inr (6, [.long 0, .int 0, .int 0, .int 0, .null, .null, .int 0, .int 0, .int 0, .int 0, .int 0, .int 0, .int 0]))] sz) := by
  refine Met.ofW (cc := cX6_init) (maxL := 1) (ret := none) (by decide) rfl ?_
  intro p e s m args below meth c s₁ B hml hv
  obtain ⟨rfl, hsz, hP, hK, hD0⟩ := hv
  have hx := B.exec
  have hb := B.bytes
  have hr := B.returns
  have hts := atoms_spec (ws := (.code yX6_init cX6_init 1 none :: lw_g)) B.pre
  have hown : s.vm.findClass RX6 = some m.cls := findClass_of_methodNamed B.named
  have hlocks := B.notSynchronized
  have hin : meth.name = "<init>" := (name_of_methodNamed B.named B.method).1
  subst hsz
  have hD := hD0.self (sz := s.heap.size)
  generalize hAe : va_A [(h0, .inr (6, [.long 0, .int 0, .int 0, .int 0, .null, .null, .int 0, .int 0, .int 0, .int 0, .int 0, .int 0, .int 0]))] s.heap.size = A at hD ⊢
  have hA : ∀ q : Nat, s.heap.size ≤ q → A q := fun q h => by rw [← hAe]; exact Or.inr h
  have hS : va_S A s.heap s.heap [] := va_S.rf
  have hP : va_P (dC, dI) vwCl [(h0, .inr (6, [.long 0, .int 0, .int 0, .int 0, .null, .null, .int 0, .int 0, .int 0, .int 0, .int 0, .int 0, .int 0]))] s.heap := hP
  have hl := lv_entry ([.ref h0]) (n := 1) (Nat.le_of_ble_eq_true rfl)
  rw [lg_entry_eq]
  generalize (lg_sl ([.ref h0]) ++ List.replicate (1 - (lg_sl ([.ref h0])).length) Slot.unset).toArray = ls at hl ⊢
  have hl : lv_has ls 1 [(0, .ref h0)] := hl
  refine lv_aload_n hx hb dX6_init_0 rfl (lv_at hl 0 rfl) ?_
  refine W.objInit hx hb hown (hts _ (List.mem_cons_of_mem _ t_554)) (hts _ (List.mem_cons_of_mem _ t_213)) (hts _ (List.mem_cons_of_mem _ t_214)) rfl (by rw [hml]; exact hl.1) rfl dX6_init_1 (Nat.le_of_ble_eq_true rfl) (Nat.le_of_ble_eq_true rfl) ?_
  refine W.eq (g2 := F0 m 4 ls []) rfl ?_
  refine lv_aload_n hx hb dX6_init_4 rfl (lv_at hl 0 rfl) ?_
  refine lv_iconst (v := 3) hx hb dX6_init_5 (by decide) ?_
  refine va_newa (atype := .int) (N' := 3) (a0 := (3, .inl (fun _ => 0))) hx hb (hts _ (List.mem_cons_of_mem _ t_320)) rfl hK hP hD hS hA (fun _ => rfl) (by decide) (by decide) (by decide) (Nat.le_of_ble_eq_true rfl) (Nat.le_of_ble_eq_true rfl) dX6_init_6 (fun q_1 k_2 H hK hP hD hS => ?_)
  have hK : va_K (dC, dI) vwCl [(k_2, .int)] s := hK
  have hP : va_P (dC, dI) vwCl [(h0, .inr (6, [.long 0, .int 0, .int 0, .int 0, .null, .null, .int 0, .int 0, .int 0, .int 0, .int 0, .int 0, .int 0])), (q_1, .inl (k_2, 3, .inl (fun _ => 0)))] H := hP
  have hD : va_D A [(h0, .inr (6, [.long 0, .int 0, .int 0, .int 0, .null, .null, .int 0, .int 0, .int 0, .int 0, .int 0, .int 0, .int 0])), (q_1, .inl (k_2, 3, .inl (fun _ => 0)))] := hD
  refine W.widen (k := 1) (n := 3) (Nat.le_of_ble_eq_true rfl) (Nat.le_of_ble_eq_true rfl) ?_
  refine va_putF (D := (dC, dI)) (ci := 6) (v := .ref q_1) (ty := tyX6 4) (C := RX6) (T := TX6) (N := 13) hx hb hts (mc_ inX6) tyX6 tyX6_ok nmX6 hown hK hP hD hS 0 rfl rfl 4 (by decide) (hts _ (List.mem_cons_of_mem _ t_569)) (fun _ h9 => h9) rfl hin rfl (by decide +kernel) rfl rfl (Nat.le_of_ble_eq_true rfl) dX6_init_8 (fun H locs hP hD hS => ?_)
  have hP : va_P (dC, dI) vwCl [(h0, .inr (6, [.long 0, .int 0, .int 0, .int 0, .ref q_1, .null, .int 0, .int 0, .int 0, .int 0, .int 0, .int 0, .int 0])), (q_1, .inl (k_2, 3, .inl (fun _ => 0)))] H := hP
  have hD : va_D A [(h0, .inr (6, [.long 0, .int 0, .int 0, .int 0, .ref q_1, .null, .int 0, .int 0, .int 0, .int 0, .int 0, .int 0, .int 0])), (q_1, .inl (k_2, 3, .inl (fun _ => 0)))] := hD
  have hP := hP.sub (ws' := [(h0, .inr (6, [.long 0, .int 0, .int 0, .int 0, .ref q_1, .null, .int 0, .int 0, .int 0, .int 0, .int 0, .int 0, .int 0]))]) [0] rfl
  have hD := hD.sub (ws' := [(h0, .inr (6, [.long 0, .int 0, .int 0, .int 0, .ref q_1, .null, .int 0, .int 0, .int 0, .int 0, .int 0, .int 0, .int 0]))]) [0] (by decide) rfl
  have hK := hK.sub (tys' := []) [] rfl
  refine lv_aload_n hx hb dX6_init_11 rfl (lv_at hl 0 rfl) ?_
  refine lv_iconst (v := 3) hx hb dX6_init_12 (by decide) ?_
  refine va_newa (atype := .int) (N' := 3) (a0 := (3, .inl (fun _ => 0))) hx hb (hts _ (List.mem_cons_of_mem _ t_320)) rfl hK hP hD hS hA (fun _ => rfl) (by decide) (by decide) (by decide) (Nat.le_of_ble_eq_true rfl) (Nat.le_of_ble_eq_true rfl) dX6_init_13 (fun q_3 k_4 H hK hP hD hS => ?_)
  have hK : va_K (dC, dI) vwCl [(k_4, .int)] s := hK
  have hP : va_P (dC, dI) vwCl [(h0, .inr (6, [.long 0, .int 0, .int 0, .int 0, .ref q_1, .null, .int 0, .int 0, .int 0, .int 0, .int 0, .int 0, .int 0])), (q_3, .inl (k_4, 3, .inl (fun _ => 0)))] H := hP
  have hD : va_D A [(h0, .inr (6, [.long 0, .int 0, .int 0, .int 0, .ref q_1, .null, .int 0, .int 0, .int 0, .int 0, .int 0, .int 0, .int 0])), (q_3, .inl (k_4, 3, .inl (fun _ => 0)))] := hD
  refine W.widen (k := 2) (n := 6) (Nat.le_of_ble_eq_true rfl) (Nat.le_of_ble_eq_true rfl) ?_
  refine va_putF (D := (dC, dI)) (ci := 6) (v := .ref q_3) (ty := tyX6 5) (C := RX6) (T := TX6) (N := 13) hx hb hts (mc_ inX6) tyX6 tyX6_ok nmX6 hown hK hP hD hS 0 rfl rfl 5 (by decide) (hts _ (List.mem_cons_of_mem _ t_573)) (fun _ h9 => h9) rfl hin rfl (by decide +kernel) rfl rfl (Nat.le_of_ble_eq_true rfl) dX6_init_15 (fun H locs hP hD hS => ?_)
  have hP : va_P (dC, dI) vwCl [(h0, .inr (6, [.long 0, .int 0, .int 0, .int 0, .ref q_1, .ref q_3, .int 0, .int 0, .int 0, .int 0, .int 0, .int 0, .int 0])), (q_3, .inl (k_4, 3, .inl (fun _ => 0)))] H := hP
  have hD : va_D A [(h0, .inr (6, [.long 0, .int 0, .int 0, .int 0, .ref q_1, .ref q_3, .int 0, .int 0, .int 0, .int 0, .int 0, .int 0, .int 0])), (q_3, .inl (k_4, 3, .inl (fun _ => 0)))] := hD
  have hP := hP.sub (ws' := [(h0, .inr (6, [.long 0, .int 0, .int 0, .int 0, .ref q_1, .ref q_3, .int 0, .int 0, .int 0, .int 0, .int 0, .int 0, .int 0]))]) [0] rfl
  have hD := hD.sub (ws' := [(h0, .inr (6, [.long 0, .int 0, .int 0, .int 0, .ref q_1, .ref q_3, .int 0, .int 0, .int 0, .int 0, .int 0, .int 0, .int 0]))]) [0] (by decide) rfl
  have hK := hK.sub (tys' := []) [] rfl
  have hP9 := hP.sub (ws' := [(h0, .inr (6, [.long 0, .int 0, .int 0, .int 0, .ref q_1, .ref q_3, .int 0, .int 0, .int 0, .int 0, .int 0, .int 0, .int 0]))]) [0] rfl
  have hD9 := hD.sub (ws' := [(h0, .inr (6, [.long 0, .int 0, .int 0, .int 0, .ref q_1, .ref q_3, .int 0, .int 0, .int 0, .int 0, .int 0, .int 0, .int 0]))]) [0] (by decide) rfl
  have hK9 := hK.sub (tys' := []) [] rfl
  refine W.widen (k := 2) (n := 6) (Nat.le_of_ble_eq_true rfl) (Nat.le_of_ble_eq_true rfl) ?_
  exact W.vret hx hb hr (fun t ht hW => ⟨⟨(), rfl, trivial, q_1, q_3, by rw [ht]; exact hP9, va_K.moved hW.alike hK9, hD9⟩, hS.F ht⟩) hS.2.2 dX6_init_18
set_option maxHeartbeats 4000000 in
set_option maxRecDepth 100000 in
theorem c_X7_init (l : Launch) (dC : Nat → ClassId) (dI : Nat → Nat → Nat) (adK adV : Nat → Nat) (h0 : Nat) (sz : Nat) : Met l yX7_init (.code yX7_init cX7_init 2 none :: lw_g) ({ frames := 2, cells := 348, slots := 10288, locals := 40 }) (va_Pc [.ref h0] (fun U => U.heap.size = sz ∧ va_P (dC, dI) vwCl [(h0, .inr (7, [.null, .int 0, .null, .int 0, .null, .null, .int 0, .null, .null, .null, .null, .null, .null, .int 0, .null, .int 0, .null, .int 0, .int 0]))] U.heap ∧ va_K (dC, dI) vwCl [] U ∧ va_D (fun _ => True) [(h0, .inr (7, [.null, .int 0, .null, .int 0, .null, .null, .int 0, .null, .null, .null, .null, .null, .null, .int 0, .null, .int 0, .null, .int 0, .int 0]))] ∧ am_ adK adV (va_A [(h0, .inr (7, [.null, .int 0, .null, .int 0, .null, .null, .int 0, .null, .null, .null, .null, .null, .null, .int 0, .null, .int 0, .null, .int 0, .int 0]))] sz) U U.heap)) (va_Qv (fun _ : Unit => True) (fun (_ : Unit) (t : State) => ∃ z0 : Nat, ∃ z1 : Nat, ∃ z2 : Nat, ∃ z3 : Nat, ∃ z4 : Nat, ∃ z5 : Nat, ∃ z6 : Nat, ∃ z7 : Nat, ∃ z8 : Nat, ∃ z9 : Nat, ∃ z10 : Nat, ∃ z11 : Nat, ∃ z12 : ClassId, ∃ z13 : Nat → Option Nat, ∃ z14 : ClassId, ∃ z15 : Nat → Option Nat, va_P (dC, dI) vwCl [(h0, .inr (7, [.ref z0, .int 0, .ref z1, .int 0, .ref z2, .ref z3, .int 0, .ref z4, .ref z5, .ref z6, .ref z7, .ref z8, .ref z9, .int 0, .ref z10, .int 0, .ref z11, .int 0, .int 0])), (z0, .inl (z12, 8, .inr (.inr (.inr (.inr z13))))), (z1, .inl (z14, 96, .inr (.inr (.inr (.inr z15)))))] t.heap ∧ va_K (dC, dI) vwCl [(z12, .object RX9), (z14, .object RX6)] t ∧ va_D (va_A [(h0, .inr (7, [.null, .int 0, .null, .int 0, .null, .null, .int 0, .null, .null, .null, .null, .null, .null, .int 0, .null, .int 0, .null, .int 0, .int 0]))] sz) [(h0, .inr (7, [.ref z0, .int 0, .ref z1, .int 0, .ref z2, .ref z3, .int 0, .ref z4, .ref z5, .ref z6, .ref z7, .ref z8, .ref z9, .int 0, .ref z10, .int 0, .ref z11, .int 0, .int 0])), (z0, .inl (z12, 8, .inr (.inr (.inr (.inr z13))))), (z1, .inl (z14, 96, .inr (.inr (.inr (.inr z15)))))]) (va_A [(h0, .inr (7, [.null, .int 0, .null, .int 0, .null, .null, .int 0, .null, .null, .null, .null, .null, .null, .int 0, .null, .int 0, .null, .int 0, .int 0]))] sz)) 348 10288 (va_A [(h0, .inr (7, [.null, .int 0, .null, .int 0, .null, .null, .int 0, .null, .null, .null, .null, .null, .null, .int 0, .null, .int 0, .null, .int 0, .int 0]))] sz) := by
  refine Met.ofW (cc := cX7_init) (maxL := 2) (ret := none) (by decide) rfl ?_
  intro p e s m args below meth c s₁ B hml hv
  obtain ⟨rfl, hsz, hP, hK, hD0, hAm⟩ := hv
  have hx := B.exec
  have hb := B.bytes
  have hr := B.returns
  have hts := atoms_spec (ws := (.code yX7_init cX7_init 2 none :: lw_g)) B.pre
  have hown : s.vm.findClass RX7 = some m.cls := findClass_of_methodNamed B.named
  have hlocks := B.notSynchronized
  have hin : meth.name = "<init>" := (name_of_methodNamed B.named B.method).1
  subst hsz
  have hD := hD0.self (sz := s.heap.size)
  generalize hAe : va_A [(h0, .inr (7, [.null, .int 0, .null, .int 0, .null, .null, .int 0, .null, .null, .null, .null, .null, .null, .int 0, .null, .int 0, .null, .int 0, .int 0]))] s.heap.size = A at hD hAm ⊢
  have hA : ∀ q : Nat, s.heap.size ≤ q → A q := fun q h => by rw [← hAe]; exact Or.inr h
  have hS : va_S A s.heap s.heap [] := va_S.rf
  have hP : va_P (dC, dI) vwCl [(h0, .inr (7, [.null, .int 0, .null, .int 0, .null, .null, .int 0, .null, .null, .null, .null, .null, .null, .int 0, .null, .int 0, .null, .int 0, .int 0]))] s.heap := hP
  have hl := lv_entry ([.ref h0]) (n := 2) (Nat.le_of_ble_eq_true rfl)
  rw [lg_entry_eq]
  generalize (lg_sl ([.ref h0]) ++ List.replicate (2 - (lg_sl ([.ref h0])).length) Slot.unset).toArray = ls at hl ⊢
  have hl : lv_has ls 2 [(0, .ref h0)] := hl
  refine lv_aload_n hx hb dX7_init_0 rfl (lv_at hl 0 rfl) ?_
  refine W.objInit hx hb hown (hts _ (List.mem_cons_of_mem _ t_470)) (hts _ (List.mem_cons_of_mem _ t_213)) (hts _ (List.mem_cons_of_mem _ t_214)) rfl (by rw [hml]; exact hl.1) rfl dX7_init_1 (Nat.le_of_ble_eq_true rfl) (Nat.le_of_ble_eq_true rfl) ?_
  refine W.eq (g2 := F0 m 4 ls []) rfl ?_
  refine lv_aload_n hx hb dX7_init_4 rfl (lv_at hl 0 rfl) ?_
  refine lv_bipush (v := 8) hx hb dX7_init_5 (by decide) ?_
  refine va_newq (C := RX9) (N' := 8) hx hb hown (hts _ (List.mem_cons_of_mem _ t_471)) hAm.1.1 hK hP hD hS hA (by decide) (by decide) (by decide) (Nat.le_of_ble_eq_true rfl) (Nat.le_of_ble_eq_true rfl) dX7_init_7 (fun q_1 k_2 H hK hP hD hS => ?_)
  have hK : va_K (dC, dI) vwCl [(k_2, .object RX9)] s := hK
  have hP : va_P (dC, dI) vwCl [(h0, .inr (7, [.null, .int 0, .null, .int 0, .null, .null, .int 0, .null, .null, .null, .null, .null, .null, .int 0, .null, .int 0, .null, .int 0, .int 0])), (q_1, .inl (k_2, 8, .inr (.inr (.inr (.inr (fun _ => none))))))] H := hP
  have hD : va_D A [(h0, .inr (7, [.null, .int 0, .null, .int 0, .null, .null, .int 0, .null, .null, .null, .null, .null, .null, .int 0, .null, .int 0, .null, .int 0, .int 0])), (q_1, .inl (k_2, 8, .inr (.inr (.inr (.inr (fun _ => none))))))] := hD
  refine W.widen (k := 1) (n := 8) (Nat.le_of_ble_eq_true rfl) (Nat.le_of_ble_eq_true rfl) ?_
  refine va_putF (D := (dC, dI)) (ci := 7) (v := .ref q_1) (ty := tyX7 0) (C := RX7) (T := TX7) (N := 19) hx hb hts (mc_ inX7) tyX7 tyX7_ok nmX7 hown hK hP hD hS 0 rfl rfl 0 (by decide) (hts _ (List.mem_cons_of_mem _ t_620)) (fun _ h9 => h9) rfl hin rfl (by decide +kernel) rfl rfl (Nat.le_of_ble_eq_true rfl) dX7_init_10 (fun H locs hP hD hS => ?_)
  have hP : va_P (dC, dI) vwCl [(h0, .inr (7, [.ref q_1, .int 0, .null, .int 0, .null, .null, .int 0, .null, .null, .null, .null, .null, .null, .int 0, .null, .int 0, .null, .int 0, .int 0])), (q_1, .inl (k_2, 8, .inr (.inr (.inr (.inr (fun _ => none))))))] H := hP
  have hD : va_D A [(h0, .inr (7, [.ref q_1, .int 0, .null, .int 0, .null, .null, .int 0, .null, .null, .null, .null, .null, .null, .int 0, .null, .int 0, .null, .int 0, .int 0])), (q_1, .inl (k_2, 8, .inr (.inr (.inr (.inr (fun _ => none))))))] := hD
  refine lv_iconst (v := 0) hx hb dX7_init_13 (by decide) ?_
  refine lv_istore_n (lv' := [(1, .int 0), (0, .ref h0)]) hx hb dX7_init_14 rfl hl (by decide) rfl (fun ls hl => ?_)
  refine W_q (fun Q hQ => ?_)
  have loop_7 : ∀ (n_4 i_3 : Nat), i_3 + n_4 = 8 → ∀ (x_5 : Int32), x_5 = nI i_3 → ∀ (f_6 : Nat → Option Nat) (H : Heap) (locs : List Loc) (ls : Array Slot), va_K (dC, dI) vwCl [(k_2, .object RX9)] s → va_P (dC, dI) vwCl [(h0, .inr (7, [.ref q_1, .int 0, .null, .int 0, .null, .null, .int 0, .null, .null, .null, .null, .null, .null, .int 0, .null, .int 0, .null, .int 0, .int 0])), (q_1, .inl (k_2, 8, .inr (.inr (.inr (.inr f_6)))))] H → va_D A [(h0, .inr (7, [.ref q_1, .int 0, .null, .int 0, .null, .null, .int 0, .null, .null, .null, .null, .null, .null, .int 0, .null, .int 0, .null, .int 0, .int 0])), (q_1, .inl (k_2, 8, .inr (.inr (.inr (.inr f_6)))))] → va_S A s.heap H locs → lv_has ls 2 [(1, .int x_5), (0, .ref h0)] → W p l e ({ frames := 2, cells := 348, slots := 10288, locals := 40 } : Room) s m [.ref h0].toArray below meth c H locs (1 + 6 * i_3) (8 + 65 * i_3) Q (F0 m 15 ls []) := by
    intro n_4
    induction n_4 with
    | zero =>
      intro i_3 hi x_5 ex f_6 H locs ls hK hP hD hS hl
      obtain rfl : i_3 = 8 := by omega
      obtain rfl : x_5 = 8 := ex.trans (by decide)
      refine W.widen (k := 49) (n := 528) (Nat.le_of_ble_eq_true rfl) (Nat.le_of_ble_eq_true rfl) ?_
      refine lv_iload_n hx hb dX7_init_15 rfl (lv_at hl 0 rfl) ?_
      refine lv_bipush (v := 8) hx hb dX7_init_16 (by decide) ?_
      refine lv_icmp_ge (tgt := 40) hx hb dX7_init_18 (by decide) (fun c_ => ?_) (fun c_ => absurd (by decide) c_)
      refine lv_aload_n hx hb dX7_init_40 rfl (lv_at hl 1 rfl) ?_
      refine lv_bipush (v := 96) hx hb dX7_init_41 (by decide) ?_
      refine va_newq (C := RX6) (N' := 96) hx hb hown (hts _ (List.mem_cons_of_mem _ t_548)) hAm.1.2.1 hK hP hD hS hA (by decide) (by decide) (by decide) (Nat.le_of_ble_eq_true rfl) (Nat.le_of_ble_eq_true rfl) dX7_init_43 (fun q_8 k_9 H hK hP hD hS => ?_)
      have hK : va_K (dC, dI) vwCl [(k_2, .object RX9), (k_9, .object RX6)] s := hK
      have hP : va_P (dC, dI) vwCl [(h0, .inr (7, [.ref q_1, .int 0, .null, .int 0, .null, .null, .int 0, .null, .null, .null, .null, .null, .null, .int 0, .null, .int 0, .null, .int 0, .int 0])), (q_1, .inl (k_2, 8, .inr (.inr (.inr (.inr f_6))))), (q_8, .inl (k_9, 96, .inr (.inr (.inr (.inr (fun _ => none))))))] H := hP
      have hD : va_D A [(h0, .inr (7, [.ref q_1, .int 0, .null, .int 0, .null, .null, .int 0, .null, .null, .null, .null, .null, .null, .int 0, .null, .int 0, .null, .int 0, .int 0])), (q_1, .inl (k_2, 8, .inr (.inr (.inr (.inr f_6))))), (q_8, .inl (k_9, 96, .inr (.inr (.inr (.inr (fun _ => none))))))] := hD
      refine W.widen (k := 50) (n := 624) (Nat.le_of_ble_eq_true rfl) (Nat.le_of_ble_eq_true rfl) ?_
      refine va_putF (D := (dC, dI)) (ci := 7) (v := .ref q_8) (ty := tyX7 2) (C := RX7) (T := TX7) (N := 19) hx hb hts (mc_ inX7) tyX7 tyX7_ok nmX7 hown hK hP hD hS 0 rfl rfl 2 (by decide) (hts _ (List.mem_cons_of_mem _ t_629)) (fun _ h9 => h9) rfl hin rfl (by decide +kernel) rfl rfl (Nat.le_of_ble_eq_true rfl) dX7_init_46 (fun H locs hP hD hS => ?_)
      have hP : va_P (dC, dI) vwCl [(h0, .inr (7, [.ref q_1, .int 0, .ref q_8, .int 0, .null, .null, .int 0, .null, .null, .null, .null, .null, .null, .int 0, .null, .int 0, .null, .int 0, .int 0])), (q_1, .inl (k_2, 8, .inr (.inr (.inr (.inr f_6))))), (q_8, .inl (k_9, 96, .inr (.inr (.inr (.inr (fun _ => none))))))] H := hP
      have hD : va_D A [(h0, .inr (7, [.ref q_1, .int 0, .ref q_8, .int 0, .null, .null, .int 0, .null, .null, .null, .null, .null, .null, .int 0, .null, .int 0, .null, .int 0, .int 0])), (q_1, .inl (k_2, 8, .inr (.inr (.inr (.inr f_6))))), (q_8, .inl (k_9, 96, .inr (.inr (.inr (.inr (fun _ => none))))))] := hD
      refine lv_iconst (v := 0) hx hb dX7_init_49 (by decide) ?_
      refine lv_istore_n (lv' := [(1, .int 0), (0, .ref h0)]) hx hb dX7_init_50 rfl hl (by decide) rfl (fun ls hl => ?_)
      have loop_14 : ∀ (n_11 i_10 : Nat), i_10 + n_11 = 96 → ∀ (x_12 : Int32), x_12 = nI i_10 → ∀ (f_13 : Nat → Option Nat) (H : Heap) (locs : List Loc) (ls : Array Slot), va_K (dC, dI) vwCl [(k_2, .object RX9), (k_9, .object RX6)] s → va_P (dC, dI) vwCl [(h0, .inr (7, [.ref q_1, .int 0, .ref q_8, .int 0, .null, .null, .int 0, .null, .null, .null, .null, .null, .null, .int 0, .null, .int 0, .null, .int 0, .int 0])), (q_1, .inl (k_2, 8, .inr (.inr (.inr (.inr f_6))))), (q_8, .inl (k_9, 96, .inr (.inr (.inr (.inr f_13)))))] H → va_D A [(h0, .inr (7, [.ref q_1, .int 0, .ref q_8, .int 0, .null, .null, .int 0, .null, .null, .null, .null, .null, .null, .int 0, .null, .int 0, .null, .int 0, .int 0])), (q_1, .inl (k_2, 8, .inr (.inr (.inr (.inr f_6))))), (q_8, .inl (k_9, 96, .inr (.inr (.inr (.inr f_13)))))] → va_S A s.heap H locs → lv_has ls 2 [(1, .int x_12), (0, .ref h0)] → W p l e ({ frames := 2, cells := 348, slots := 10288, locals := 40 } : Room) s m [.ref h0].toArray below meth c H locs (50 + 3 * i_10) (624 + 19 * i_10) Q (F0 m 51 ls []) := by
        intro n_11
        induction n_11 with
        | zero =>
          intro i_10 hi x_12 ex f_13 H locs ls hK hP hD hS hl
          obtain rfl : i_10 = 96 := by omega
          obtain rfl : x_12 = 96 := ex.trans (by decide)
          refine W.widen (k := 338) (n := 2448) (Nat.le_of_ble_eq_true rfl) (Nat.le_of_ble_eq_true rfl) ?_
          refine lv_iload_n hx hb dX7_init_51 rfl (lv_at hl 0 rfl) ?_
          refine lv_bipush (v := 96) hx hb dX7_init_52 (by decide) ?_
          refine lv_icmp_ge (tgt := 76) hx hb dX7_init_54 (by decide) (fun c_ => ?_) (fun c_ => absurd (by decide) c_)
          refine lv_aload_n hx hb dX7_init_76 rfl (lv_at hl 1 rfl) ?_
          refine lv_sipush (v := 2000) hx hb dX7_init_77 (by decide) ?_
          refine va_newa (atype := .int) (N' := 2000) (a0 := (2000, .inl (fun _ => 0))) hx hb (hts _ (List.mem_cons_of_mem _ t_320)) rfl hK hP hD hS hA (fun _ => rfl) (by decide) (by decide) (by decide) (Nat.le_of_ble_eq_true rfl) (Nat.le_of_ble_eq_true rfl) dX7_init_80 (fun q_15 k_16 H hK hP hD hS => ?_)
          have hK : va_K (dC, dI) vwCl [(k_2, .object RX9), (k_9, .object RX6), (k_16, .int)] s := hK
          have hP : va_P (dC, dI) vwCl [(h0, .inr (7, [.ref q_1, .int 0, .ref q_8, .int 0, .null, .null, .int 0, .null, .null, .null, .null, .null, .null, .int 0, .null, .int 0, .null, .int 0, .int 0])), (q_1, .inl (k_2, 8, .inr (.inr (.inr (.inr f_6))))), (q_8, .inl (k_9, 96, .inr (.inr (.inr (.inr f_13))))), (q_15, .inl (k_16, 2000, .inl (fun _ => 0)))] H := hP
          have hD : va_D A [(h0, .inr (7, [.ref q_1, .int 0, .ref q_8, .int 0, .null, .null, .int 0, .null, .null, .null, .null, .null, .null, .int 0, .null, .int 0, .null, .int 0, .int 0])), (q_1, .inl (k_2, 8, .inr (.inr (.inr (.inr f_6))))), (q_8, .inl (k_9, 96, .inr (.inr (.inr (.inr f_13))))), (q_15, .inl (k_16, 2000, .inl (fun _ => 0)))] := hD
          refine W.widen (k := 339) (n := 4448) (Nat.le_of_ble_eq_true rfl) (Nat.le_of_ble_eq_true rfl) ?_
          refine va_putF (D := (dC, dI)) (ci := 7) (v := .ref q_15) (ty := tyX7 4) (C := RX7) (T := TX7) (N := 19) hx hb hts (mc_ inX7) tyX7 tyX7_ok nmX7 hown hK hP hD hS 0 rfl rfl 4 (by decide) (hts _ (List.mem_cons_of_mem _ t_640)) (fun _ h9 => h9) rfl hin rfl (by decide +kernel) rfl rfl (Nat.le_of_ble_eq_true rfl) dX7_init_82 (fun H locs hP hD hS => ?_)
          have hP : va_P (dC, dI) vwCl [(h0, .inr (7, [.ref q_1, .int 0, .ref q_8, .int 0, .ref q_15, .null, .int 0, .null, .null, .null, .null, .null, .null, .int 0, .null, .int 0, .null, .int 0, .int 0])), (q_1, .inl (k_2, 8, .inr (.inr (.inr (.inr f_6))))), (q_8, .inl (k_9, 96, .inr (.inr (.inr (.inr f_13))))), (q_15, .inl (k_16, 2000, .inl (fun _ => 0)))] H := hP
          have hD : va_D A [(h0, .inr (7, [.ref q_1, .int 0, .ref q_8, .int 0, .ref q_15, .null, .int 0, .null, .null, .null, .null, .null, .null, .int 0, .null, .int 0, .null, .int 0, .int 0])), (q_1, .inl (k_2, 8, .inr (.inr (.inr (.inr f_6))))), (q_8, .inl (k_9, 96, .inr (.inr (.inr (.inr f_13))))), (q_15, .inl (k_16, 2000, .inl (fun _ => 0)))] := hD
          have hP := hP.sub (ws' := [(h0, .inr (7, [.ref q_1, .int 0, .ref q_8, .int 0, .ref q_15, .null, .int 0, .null, .null, .null, .null, .null, .null, .int 0, .null, .int 0, .null, .int 0, .int 0])), (q_1, .inl (k_2, 8, .inr (.inr (.inr (.inr f_6))))), (q_8, .inl (k_9, 96, .inr (.inr (.inr (.inr f_13)))))]) [0, 1, 2] rfl
          have hD := hD.sub (ws' := [(h0, .inr (7, [.ref q_1, .int 0, .ref q_8, .int 0, .ref q_15, .null, .int 0, .null, .null, .null, .null, .null, .null, .int 0, .null, .int 0, .null, .int 0, .int 0])), (q_1, .inl (k_2, 8, .inr (.inr (.inr (.inr f_6))))), (q_8, .inl (k_9, 96, .inr (.inr (.inr (.inr f_13)))))]) [0, 1, 2] (by decide) rfl
          have hK := hK.sub (tys' := [(k_2, .object RX9), (k_9, .object RX6)]) [0, 1] rfl
          refine lv_aload_n hx hb dX7_init_85 rfl (lv_at hl 1 rfl) ?_
          refine lv_sipush (v := 2000) hx hb dX7_init_86 (by decide) ?_
          refine va_newa (atype := .int) (N' := 2000) (a0 := (2000, .inl (fun _ => 0))) hx hb (hts _ (List.mem_cons_of_mem _ t_320)) rfl hK hP hD hS hA (fun _ => rfl) (by decide) (by decide) (by decide) (Nat.le_of_ble_eq_true rfl) (Nat.le_of_ble_eq_true rfl) dX7_init_89 (fun q_17 k_18 H hK hP hD hS => ?_)
          have hK : va_K (dC, dI) vwCl [(k_2, .object RX9), (k_9, .object RX6), (k_18, .int)] s := hK
          have hP : va_P (dC, dI) vwCl [(h0, .inr (7, [.ref q_1, .int 0, .ref q_8, .int 0, .ref q_15, .null, .int 0, .null, .null, .null, .null, .null, .null, .int 0, .null, .int 0, .null, .int 0, .int 0])), (q_1, .inl (k_2, 8, .inr (.inr (.inr (.inr f_6))))), (q_8, .inl (k_9, 96, .inr (.inr (.inr (.inr f_13))))), (q_17, .inl (k_18, 2000, .inl (fun _ => 0)))] H := hP
          have hD : va_D A [(h0, .inr (7, [.ref q_1, .int 0, .ref q_8, .int 0, .ref q_15, .null, .int 0, .null, .null, .null, .null, .null, .null, .int 0, .null, .int 0, .null, .int 0, .int 0])), (q_1, .inl (k_2, 8, .inr (.inr (.inr (.inr f_6))))), (q_8, .inl (k_9, 96, .inr (.inr (.inr (.inr f_13))))), (q_17, .inl (k_18, 2000, .inl (fun _ => 0)))] := hD
          refine W.widen (k := 340) (n := 6448) (Nat.le_of_ble_eq_true rfl) (Nat.le_of_ble_eq_true rfl) ?_
          refine va_putF (D := (dC, dI)) (ci := 7) (v := .ref q_17) (ty := tyX7 5) (C := RX7) (T := TX7) (N := 19) hx hb hts (mc_ inX7) tyX7 tyX7_ok nmX7 hown hK hP hD hS 0 rfl rfl 5 (by decide) (hts _ (List.mem_cons_of_mem _ t_642)) (fun _ h9 => h9) rfl hin rfl (by decide +kernel) rfl rfl (Nat.le_of_ble_eq_true rfl) dX7_init_91 (fun H locs hP hD hS => ?_)
          have hP : va_P (dC, dI) vwCl [(h0, .inr (7, [.ref q_1, .int 0, .ref q_8, .int 0, .ref q_15, .ref q_17, .int 0, .null, .null, .null, .null, .null, .null, .int 0, .null, .int 0, .null, .int 0, .int 0])), (q_1, .inl (k_2, 8, .inr (.inr (.inr (.inr f_6))))), (q_8, .inl (k_9, 96, .inr (.inr (.inr (.inr f_13))))), (q_17, .inl (k_18, 2000, .inl (fun _ => 0)))] H := hP
          have hD : va_D A [(h0, .inr (7, [.ref q_1, .int 0, .ref q_8, .int 0, .ref q_15, .ref q_17, .int 0, .null, .null, .null, .null, .null, .null, .int 0, .null, .int 0, .null, .int 0, .int 0])), (q_1, .inl (k_2, 8, .inr (.inr (.inr (.inr f_6))))), (q_8, .inl (k_9, 96, .inr (.inr (.inr (.inr f_13))))), (q_17, .inl (k_18, 2000, .inl (fun _ => 0)))] := hD
          have hP := hP.sub (ws' := [(h0, .inr (7, [.ref q_1, .int 0, .ref q_8, .int 0, .ref q_15, .ref q_17, .int 0, .null, .null, .null, .null, .null, .null, .int 0, .null, .int 0, .null, .int 0, .int 0])), (q_1, .inl (k_2, 8, .inr (.inr (.inr (.inr f_6))))), (q_8, .inl (k_9, 96, .inr (.inr (.inr (.inr f_13)))))]) [0, 1, 2] rfl
          have hD := hD.sub (ws' := [(h0, .inr (7, [.ref q_1, .int 0, .ref q_8, .int 0, .ref q_15, .ref q_17, .int 0, .null, .null, .null, .null, .null, .null, .int 0, .null, .int 0, .null, .int 0, .int 0])), (q_1, .inl (k_2, 8, .inr (.inr (.inr (.inr f_6))))), (q_8, .inl (k_9, 96, .inr (.inr (.inr (.inr f_13)))))]) [0, 1, 2] (by decide) rfl
          have hK := hK.sub (tys' := [(k_2, .object RX9), (k_9, .object RX6)]) [0, 1] rfl
          refine lv_aload_n hx hb dX7_init_94 rfl (lv_at hl 1 rfl) ?_
          refine lv_sipush (v := 500) hx hb dX7_init_95 (by decide) ?_
          refine va_newa (atype := .int) (N' := 500) (a0 := (500, .inl (fun _ => 0))) hx hb (hts _ (List.mem_cons_of_mem _ t_320)) rfl hK hP hD hS hA (fun _ => rfl) (by decide) (by decide) (by decide) (Nat.le_of_ble_eq_true rfl) (Nat.le_of_ble_eq_true rfl) dX7_init_98 (fun q_19 k_20 H hK hP hD hS => ?_)
          have hK : va_K (dC, dI) vwCl [(k_2, .object RX9), (k_9, .object RX6), (k_20, .int)] s := hK
          have hP : va_P (dC, dI) vwCl [(h0, .inr (7, [.ref q_1, .int 0, .ref q_8, .int 0, .ref q_15, .ref q_17, .int 0, .null, .null, .null, .null, .null, .null, .int 0, .null, .int 0, .null, .int 0, .int 0])), (q_1, .inl (k_2, 8, .inr (.inr (.inr (.inr f_6))))), (q_8, .inl (k_9, 96, .inr (.inr (.inr (.inr f_13))))), (q_19, .inl (k_20, 500, .inl (fun _ => 0)))] H := hP
          have hD : va_D A [(h0, .inr (7, [.ref q_1, .int 0, .ref q_8, .int 0, .ref q_15, .ref q_17, .int 0, .null, .null, .null, .null, .null, .null, .int 0, .null, .int 0, .null, .int 0, .int 0])), (q_1, .inl (k_2, 8, .inr (.inr (.inr (.inr f_6))))), (q_8, .inl (k_9, 96, .inr (.inr (.inr (.inr f_13))))), (q_19, .inl (k_20, 500, .inl (fun _ => 0)))] := hD
          refine W.widen (k := 341) (n := 6948) (Nat.le_of_ble_eq_true rfl) (Nat.le_of_ble_eq_true rfl) ?_
          refine va_putF (D := (dC, dI)) (ci := 7) (v := .ref q_19) (ty := tyX7 7) (C := RX7) (T := TX7) (N := 19) hx hb hts (mc_ inX7) tyX7 tyX7_ok nmX7 hown hK hP hD hS 0 rfl rfl 7 (by decide) (hts _ (List.mem_cons_of_mem _ t_648)) (fun _ h9 => h9) rfl hin rfl (by decide +kernel) rfl rfl (Nat.le_of_ble_eq_true rfl) dX7_init_100 (fun H locs hP hD hS => ?_)
          have hP : va_P (dC, dI) vwCl [(h0, .inr (7, [.ref q_1, .int 0, .ref q_8, .int 0, .ref q_15, .ref q_17, .int 0, .ref q_19, .null, .null, .null, .null, .null, .int 0, .null, .int 0, .null, .int 0, .int 0])), (q_1, .inl (k_2, 8, .inr (.inr (.inr (.inr f_6))))), (q_8, .inl (k_9, 96, .inr (.inr (.inr (.inr f_13))))), (q_19, .inl (k_20, 500, .inl (fun _ => 0)))] H := hP
          have hD : va_D A [(h0, .inr (7, [.ref q_1, .int 0, .ref q_8, .int 0, .ref q_15, .ref q_17, .int 0, .ref q_19, .null, .null, .null, .null, .null, .int 0, .null, .int 0, .null, .int 0, .int 0])), (q_1, .inl (k_2, 8, .inr (.inr (.inr (.inr f_6))))), (q_8, .inl (k_9, 96, .inr (.inr (.inr (.inr f_13))))), (q_19, .inl (k_20, 500, .inl (fun _ => 0)))] := hD
          have hP := hP.sub (ws' := [(h0, .inr (7, [.ref q_1, .int 0, .ref q_8, .int 0, .ref q_15, .ref q_17, .int 0, .ref q_19, .null, .null, .null, .null, .null, .int 0, .null, .int 0, .null, .int 0, .int 0])), (q_1, .inl (k_2, 8, .inr (.inr (.inr (.inr f_6))))), (q_8, .inl (k_9, 96, .inr (.inr (.inr (.inr f_13)))))]) [0, 1, 2] rfl
          have hD := hD.sub (ws' := [(h0, .inr (7, [.ref q_1, .int 0, .ref q_8, .int 0, .ref q_15, .ref q_17, .int 0, .ref q_19, .null, .null, .null, .null, .null, .int 0, .null, .int 0, .null, .int 0, .int 0])), (q_1, .inl (k_2, 8, .inr (.inr (.inr (.inr f_6))))), (q_8, .inl (k_9, 96, .inr (.inr (.inr (.inr f_13)))))]) [0, 1, 2] (by decide) rfl
          have hK := hK.sub (tys' := [(k_2, .object RX9), (k_9, .object RX6)]) [0, 1] rfl
          refine lv_aload_n hx hb dX7_init_103 rfl (lv_at hl 1 rfl) ?_
          refine lv_sipush (v := 500) hx hb dX7_init_104 (by decide) ?_
          refine va_newa (atype := .int) (N' := 500) (a0 := (500, .inl (fun _ => 0))) hx hb (hts _ (List.mem_cons_of_mem _ t_320)) rfl hK hP hD hS hA (fun _ => rfl) (by decide) (by decide) (by decide) (Nat.le_of_ble_eq_true rfl) (Nat.le_of_ble_eq_true rfl) dX7_init_107 (fun q_21 k_22 H hK hP hD hS => ?_)
          have hK : va_K (dC, dI) vwCl [(k_2, .object RX9), (k_9, .object RX6), (k_22, .int)] s := hK
          have hP : va_P (dC, dI) vwCl [(h0, .inr (7, [.ref q_1, .int 0, .ref q_8, .int 0, .ref q_15, .ref q_17, .int 0, .ref q_19, .null, .null, .null, .null, .null, .int 0, .null, .int 0, .null, .int 0, .int 0])), (q_1, .inl (k_2, 8, .inr (.inr (.inr (.inr f_6))))), (q_8, .inl (k_9, 96, .inr (.inr (.inr (.inr f_13))))), (q_21, .inl (k_22, 500, .inl (fun _ => 0)))] H := hP
          have hD : va_D A [(h0, .inr (7, [.ref q_1, .int 0, .ref q_8, .int 0, .ref q_15, .ref q_17, .int 0, .ref q_19, .null, .null, .null, .null, .null, .int 0, .null, .int 0, .null, .int 0, .int 0])), (q_1, .inl (k_2, 8, .inr (.inr (.inr (.inr f_6))))), (q_8, .inl (k_9, 96, .inr (.inr (.inr (.inr f_13))))), (q_21, .inl (k_22, 500, .inl (fun _ => 0)))] := hD
          refine W.widen (k := 342) (n := 7448) (Nat.le_of_ble_eq_true rfl) (Nat.le_of_ble_eq_true rfl) ?_
          refine va_putF (D := (dC, dI)) (ci := 7) (v := .ref q_21) (ty := tyX7 8) (C := RX7) (T := TX7) (N := 19) hx hb hts (mc_ inX7) tyX7 tyX7_ok nmX7 hown hK hP hD hS 0 rfl rfl 8 (by decide) (hts _ (List.mem_cons_of_mem _ t_651)) (fun _ h9 => h9) rfl hin rfl (by decide +kernel) rfl rfl (Nat.le_of_ble_eq_true rfl) dX7_init_109 (fun H locs hP hD hS => ?_)
          have hP : va_P (dC, dI) vwCl [(h0, .inr (7, [.ref q_1, .int 0, .ref q_8, .int 0, .ref q_15, .ref q_17, .int 0, .ref q_19, .ref q_21, .null, .null, .null, .null, .int 0, .null, .int 0, .null, .int 0, .int 0])), (q_1, .inl (k_2, 8, .inr (.inr (.inr (.inr f_6))))), (q_8, .inl (k_9, 96, .inr (.inr (.inr (.inr f_13))))), (q_21, .inl (k_22, 500, .inl (fun _ => 0)))] H := hP
          have hD : va_D A [(h0, .inr (7, [.ref q_1, .int 0, .ref q_8, .int 0, .ref q_15, .ref q_17, .int 0, .ref q_19, .ref q_21, .null, .null, .null, .null, .int 0, .null, .int 0, .null, .int 0, .int 0])), (q_1, .inl (k_2, 8, .inr (.inr (.inr (.inr f_6))))), (q_8, .inl (k_9, 96, .inr (.inr (.inr (.inr f_13))))), (q_21, .inl (k_22, 500, .inl (fun _ => 0)))] := hD
          have hP := hP.sub (ws' := [(h0, .inr (7, [.ref q_1, .int 0, .ref q_8, .int 0, .ref q_15, .ref q_17, .int 0, .ref q_19, .ref q_21, .null, .null, .null, .null, .int 0, .null, .int 0, .null, .int 0, .int 0])), (q_1, .inl (k_2, 8, .inr (.inr (.inr (.inr f_6))))), (q_8, .inl (k_9, 96, .inr (.inr (.inr (.inr f_13)))))]) [0, 1, 2] rfl
          have hD := hD.sub (ws' := [(h0, .inr (7, [.ref q_1, .int 0, .ref q_8, .int 0, .ref q_15, .ref q_17, .int 0, .ref q_19, .ref q_21, .null, .null, .null, .null, .int 0, .null, .int 0, .null, .int 0, .int 0])), (q_1, .inl (k_2, 8, .inr (.inr (.inr (.inr f_6))))), (q_8, .inl (k_9, 96, .inr (.inr (.inr (.inr f_13)))))]) [0, 1, 2] (by decide) rfl
          have hK := hK.sub (tys' := [(k_2, .object RX9), (k_9, .object RX6)]) [0, 1] rfl
          refine lv_aload_n hx hb dX7_init_112 rfl (lv_at hl 1 rfl) ?_
          refine lv_sipush (v := 500) hx hb dX7_init_113 (by decide) ?_
          refine va_newa (atype := .int) (N' := 500) (a0 := (500, .inl (fun _ => 0))) hx hb (hts _ (List.mem_cons_of_mem _ t_320)) rfl hK hP hD hS hA (fun _ => rfl) (by decide) (by decide) (by decide) (Nat.le_of_ble_eq_true rfl) (Nat.le_of_ble_eq_true rfl) dX7_init_116 (fun q_23 k_24 H hK hP hD hS => ?_)
          have hK : va_K (dC, dI) vwCl [(k_2, .object RX9), (k_9, .object RX6), (k_24, .int)] s := hK
          have hP : va_P (dC, dI) vwCl [(h0, .inr (7, [.ref q_1, .int 0, .ref q_8, .int 0, .ref q_15, .ref q_17, .int 0, .ref q_19, .ref q_21, .null, .null, .null, .null, .int 0, .null, .int 0, .null, .int 0, .int 0])), (q_1, .inl (k_2, 8, .inr (.inr (.inr (.inr f_6))))), (q_8, .inl (k_9, 96, .inr (.inr (.inr (.inr f_13))))), (q_23, .inl (k_24, 500, .inl (fun _ => 0)))] H := hP
          have hD : va_D A [(h0, .inr (7, [.ref q_1, .int 0, .ref q_8, .int 0, .ref q_15, .ref q_17, .int 0, .ref q_19, .ref q_21, .null, .null, .null, .null, .int 0, .null, .int 0, .null, .int 0, .int 0])), (q_1, .inl (k_2, 8, .inr (.inr (.inr (.inr f_6))))), (q_8, .inl (k_9, 96, .inr (.inr (.inr (.inr f_13))))), (q_23, .inl (k_24, 500, .inl (fun _ => 0)))] := hD
          refine W.widen (k := 343) (n := 7948) (Nat.le_of_ble_eq_true rfl) (Nat.le_of_ble_eq_true rfl) ?_
          refine va_putF (D := (dC, dI)) (ci := 7) (v := .ref q_23) (ty := tyX7 9) (C := RX7) (T := TX7) (N := 19) hx hb hts (mc_ inX7) tyX7 tyX7_ok nmX7 hown hK hP hD hS 0 rfl rfl 9 (by decide) (hts _ (List.mem_cons_of_mem _ t_654)) (fun _ h9 => h9) rfl hin rfl (by decide +kernel) rfl rfl (Nat.le_of_ble_eq_true rfl) dX7_init_118 (fun H locs hP hD hS => ?_)
          have hP : va_P (dC, dI) vwCl [(h0, .inr (7, [.ref q_1, .int 0, .ref q_8, .int 0, .ref q_15, .ref q_17, .int 0, .ref q_19, .ref q_21, .ref q_23, .null, .null, .null, .int 0, .null, .int 0, .null, .int 0, .int 0])), (q_1, .inl (k_2, 8, .inr (.inr (.inr (.inr f_6))))), (q_8, .inl (k_9, 96, .inr (.inr (.inr (.inr f_13))))), (q_23, .inl (k_24, 500, .inl (fun _ => 0)))] H := hP
          have hD : va_D A [(h0, .inr (7, [.ref q_1, .int 0, .ref q_8, .int 0, .ref q_15, .ref q_17, .int 0, .ref q_19, .ref q_21, .ref q_23, .null, .null, .null, .int 0, .null, .int 0, .null, .int 0, .int 0])), (q_1, .inl (k_2, 8, .inr (.inr (.inr (.inr f_6))))), (q_8, .inl (k_9, 96, .inr (.inr (.inr (.inr f_13))))), (q_23, .inl (k_24, 500, .inl (fun _ => 0)))] := hD
          have hP := hP.sub (ws' := [(h0, .inr (7, [.ref q_1, .int 0, .ref q_8, .int 0, .ref q_15, .ref q_17, .int 0, .ref q_19, .ref q_21, .ref q_23, .null, .null, .null, .int 0, .null, .int 0, .null, .int 0, .int 0])), (q_1, .inl (k_2, 8, .inr (.inr (.inr (.inr f_6))))), (q_8, .inl (k_9, 96, .inr (.inr (.inr (.inr f_13)))))]) [0, 1, 2] rfl
          have hD := hD.sub (ws' := [(h0, .inr (7, [.ref q_1, .int 0, .ref q_8, .int 0, .ref q_15, .ref q_17, .int 0, .ref q_19, .ref q_21, .ref q_23, .null, .null, .null, .int 0, .null, .int 0, .null, .int 0, .int 0])), (q_1, .inl (k_2, 8, .inr (.inr (.inr (.inr f_6))))), (q_8, .inl (k_9, 96, .inr (.inr (.inr (.inr f_13)))))]) [0, 1, 2] (by decide) rfl
          have hK := hK.sub (tys' := [(k_2, .object RX9), (k_9, .object RX6)]) [0, 1] rfl
          refine lv_aload_n hx hb dX7_init_121 rfl (lv_at hl 1 rfl) ?_
          refine lv_sipush (v := 500) hx hb dX7_init_122 (by decide) ?_
          refine va_newa (atype := .int) (N' := 500) (a0 := (500, .inl (fun _ => 0))) hx hb (hts _ (List.mem_cons_of_mem _ t_320)) rfl hK hP hD hS hA (fun _ => rfl) (by decide) (by decide) (by decide) (Nat.le_of_ble_eq_true rfl) (Nat.le_of_ble_eq_true rfl) dX7_init_125 (fun q_25 k_26 H hK hP hD hS => ?_)
          have hK : va_K (dC, dI) vwCl [(k_2, .object RX9), (k_9, .object RX6), (k_26, .int)] s := hK
          have hP : va_P (dC, dI) vwCl [(h0, .inr (7, [.ref q_1, .int 0, .ref q_8, .int 0, .ref q_15, .ref q_17, .int 0, .ref q_19, .ref q_21, .ref q_23, .null, .null, .null, .int 0, .null, .int 0, .null, .int 0, .int 0])), (q_1, .inl (k_2, 8, .inr (.inr (.inr (.inr f_6))))), (q_8, .inl (k_9, 96, .inr (.inr (.inr (.inr f_13))))), (q_25, .inl (k_26, 500, .inl (fun _ => 0)))] H := hP
          have hD : va_D A [(h0, .inr (7, [.ref q_1, .int 0, .ref q_8, .int 0, .ref q_15, .ref q_17, .int 0, .ref q_19, .ref q_21, .ref q_23, .null, .null, .null, .int 0, .null, .int 0, .null, .int 0, .int 0])), (q_1, .inl (k_2, 8, .inr (.inr (.inr (.inr f_6))))), (q_8, .inl (k_9, 96, .inr (.inr (.inr (.inr f_13))))), (q_25, .inl (k_26, 500, .inl (fun _ => 0)))] := hD
          refine W.widen (k := 344) (n := 8448) (Nat.le_of_ble_eq_true rfl) (Nat.le_of_ble_eq_true rfl) ?_
          refine va_putF (D := (dC, dI)) (ci := 7) (v := .ref q_25) (ty := tyX7 10) (C := RX7) (T := TX7) (N := 19) hx hb hts (mc_ inX7) tyX7 tyX7_ok nmX7 hown hK hP hD hS 0 rfl rfl 10 (by decide) (hts _ (List.mem_cons_of_mem _ t_658)) (fun _ h9 => h9) rfl hin rfl (by decide +kernel) rfl rfl (Nat.le_of_ble_eq_true rfl) dX7_init_127 (fun H locs hP hD hS => ?_)
          have hP : va_P (dC, dI) vwCl [(h0, .inr (7, [.ref q_1, .int 0, .ref q_8, .int 0, .ref q_15, .ref q_17, .int 0, .ref q_19, .ref q_21, .ref q_23, .ref q_25, .null, .null, .int 0, .null, .int 0, .null, .int 0, .int 0])), (q_1, .inl (k_2, 8, .inr (.inr (.inr (.inr f_6))))), (q_8, .inl (k_9, 96, .inr (.inr (.inr (.inr f_13))))), (q_25, .inl (k_26, 500, .inl (fun _ => 0)))] H := hP
          have hD : va_D A [(h0, .inr (7, [.ref q_1, .int 0, .ref q_8, .int 0, .ref q_15, .ref q_17, .int 0, .ref q_19, .ref q_21, .ref q_23, .ref q_25, .null, .null, .int 0, .null, .int 0, .null, .int 0, .int 0])), (q_1, .inl (k_2, 8, .inr (.inr (.inr (.inr f_6))))), (q_8, .inl (k_9, 96, .inr (.inr (.inr (.inr f_13))))), (q_25, .inl (k_26, 500, .inl (fun _ => 0)))] := hD
          have hP := hP.sub (ws' := [(h0, .inr (7, [.ref q_1, .int 0, .ref q_8, .int 0, .ref q_15, .ref q_17, .int 0, .ref q_19, .ref q_21, .ref q_23, .ref q_25, .null, .null, .int 0, .null, .int 0, .null, .int 0, .int 0])), (q_1, .inl (k_2, 8, .inr (.inr (.inr (.inr f_6))))), (q_8, .inl (k_9, 96, .inr (.inr (.inr (.inr f_13)))))]) [0, 1, 2] rfl
          have hD := hD.sub (ws' := [(h0, .inr (7, [.ref q_1, .int 0, .ref q_8, .int 0, .ref q_15, .ref q_17, .int 0, .ref q_19, .ref q_21, .ref q_23, .ref q_25, .null, .null, .int 0, .null, .int 0, .null, .int 0, .int 0])), (q_1, .inl (k_2, 8, .inr (.inr (.inr (.inr f_6))))), (q_8, .inl (k_9, 96, .inr (.inr (.inr (.inr f_13)))))]) [0, 1, 2] (by decide) rfl
          have hK := hK.sub (tys' := [(k_2, .object RX9), (k_9, .object RX6)]) [0, 1] rfl
          refine lv_aload_n hx hb dX7_init_130 rfl (lv_at hl 1 rfl) ?_
          refine lv_sipush (v := 500) hx hb dX7_init_131 (by decide) ?_
          refine va_newa (atype := .int) (N' := 500) (a0 := (500, .inl (fun _ => 0))) hx hb (hts _ (List.mem_cons_of_mem _ t_320)) rfl hK hP hD hS hA (fun _ => rfl) (by decide) (by decide) (by decide) (Nat.le_of_ble_eq_true rfl) (Nat.le_of_ble_eq_true rfl) dX7_init_134 (fun q_27 k_28 H hK hP hD hS => ?_)
          have hK : va_K (dC, dI) vwCl [(k_2, .object RX9), (k_9, .object RX6), (k_28, .int)] s := hK
          have hP : va_P (dC, dI) vwCl [(h0, .inr (7, [.ref q_1, .int 0, .ref q_8, .int 0, .ref q_15, .ref q_17, .int 0, .ref q_19, .ref q_21, .ref q_23, .ref q_25, .null, .null, .int 0, .null, .int 0, .null, .int 0, .int 0])), (q_1, .inl (k_2, 8, .inr (.inr (.inr (.inr f_6))))), (q_8, .inl (k_9, 96, .inr (.inr (.inr (.inr f_13))))), (q_27, .inl (k_28, 500, .inl (fun _ => 0)))] H := hP
          have hD : va_D A [(h0, .inr (7, [.ref q_1, .int 0, .ref q_8, .int 0, .ref q_15, .ref q_17, .int 0, .ref q_19, .ref q_21, .ref q_23, .ref q_25, .null, .null, .int 0, .null, .int 0, .null, .int 0, .int 0])), (q_1, .inl (k_2, 8, .inr (.inr (.inr (.inr f_6))))), (q_8, .inl (k_9, 96, .inr (.inr (.inr (.inr f_13))))), (q_27, .inl (k_28, 500, .inl (fun _ => 0)))] := hD
          refine W.widen (k := 345) (n := 8948) (Nat.le_of_ble_eq_true rfl) (Nat.le_of_ble_eq_true rfl) ?_
          refine va_putF (D := (dC, dI)) (ci := 7) (v := .ref q_27) (ty := tyX7 11) (C := RX7) (T := TX7) (N := 19) hx hb hts (mc_ inX7) tyX7 tyX7_ok nmX7 hown hK hP hD hS 0 rfl rfl 11 (by decide) (hts _ (List.mem_cons_of_mem _ t_661)) (fun _ h9 => h9) rfl hin rfl (by decide +kernel) rfl rfl (Nat.le_of_ble_eq_true rfl) dX7_init_136 (fun H locs hP hD hS => ?_)
          have hP : va_P (dC, dI) vwCl [(h0, .inr (7, [.ref q_1, .int 0, .ref q_8, .int 0, .ref q_15, .ref q_17, .int 0, .ref q_19, .ref q_21, .ref q_23, .ref q_25, .ref q_27, .null, .int 0, .null, .int 0, .null, .int 0, .int 0])), (q_1, .inl (k_2, 8, .inr (.inr (.inr (.inr f_6))))), (q_8, .inl (k_9, 96, .inr (.inr (.inr (.inr f_13))))), (q_27, .inl (k_28, 500, .inl (fun _ => 0)))] H := hP
          have hD : va_D A [(h0, .inr (7, [.ref q_1, .int 0, .ref q_8, .int 0, .ref q_15, .ref q_17, .int 0, .ref q_19, .ref q_21, .ref q_23, .ref q_25, .ref q_27, .null, .int 0, .null, .int 0, .null, .int 0, .int 0])), (q_1, .inl (k_2, 8, .inr (.inr (.inr (.inr f_6))))), (q_8, .inl (k_9, 96, .inr (.inr (.inr (.inr f_13))))), (q_27, .inl (k_28, 500, .inl (fun _ => 0)))] := hD
          have hP := hP.sub (ws' := [(h0, .inr (7, [.ref q_1, .int 0, .ref q_8, .int 0, .ref q_15, .ref q_17, .int 0, .ref q_19, .ref q_21, .ref q_23, .ref q_25, .ref q_27, .null, .int 0, .null, .int 0, .null, .int 0, .int 0])), (q_1, .inl (k_2, 8, .inr (.inr (.inr (.inr f_6))))), (q_8, .inl (k_9, 96, .inr (.inr (.inr (.inr f_13)))))]) [0, 1, 2] rfl
          have hD := hD.sub (ws' := [(h0, .inr (7, [.ref q_1, .int 0, .ref q_8, .int 0, .ref q_15, .ref q_17, .int 0, .ref q_19, .ref q_21, .ref q_23, .ref q_25, .ref q_27, .null, .int 0, .null, .int 0, .null, .int 0, .int 0])), (q_1, .inl (k_2, 8, .inr (.inr (.inr (.inr f_6))))), (q_8, .inl (k_9, 96, .inr (.inr (.inr (.inr f_13)))))]) [0, 1, 2] (by decide) rfl
          have hK := hK.sub (tys' := [(k_2, .object RX9), (k_9, .object RX6)]) [0, 1] rfl
          refine lv_aload_n hx hb dX7_init_139 rfl (lv_at hl 1 rfl) ?_
          refine lv_sipush (v := 500) hx hb dX7_init_140 (by decide) ?_
          refine va_newa (atype := .long) (N' := 500) (a0 := (500, .inr (.inl (fun _ => 0)))) hx hb (hts _ (List.mem_cons_of_mem _ t_321)) rfl hK hP hD hS hA (fun _ => rfl) (by decide) (by decide) (by decide) (Nat.le_of_ble_eq_true rfl) (Nat.le_of_ble_eq_true rfl) dX7_init_143 (fun q_29 k_30 H hK hP hD hS => ?_)
          have hK : va_K (dC, dI) vwCl [(k_2, .object RX9), (k_9, .object RX6), (k_30, .long)] s := hK
          have hP : va_P (dC, dI) vwCl [(h0, .inr (7, [.ref q_1, .int 0, .ref q_8, .int 0, .ref q_15, .ref q_17, .int 0, .ref q_19, .ref q_21, .ref q_23, .ref q_25, .ref q_27, .null, .int 0, .null, .int 0, .null, .int 0, .int 0])), (q_1, .inl (k_2, 8, .inr (.inr (.inr (.inr f_6))))), (q_8, .inl (k_9, 96, .inr (.inr (.inr (.inr f_13))))), (q_29, .inl (k_30, 500, .inr (.inl (fun _ => 0))))] H := hP
          have hD : va_D A [(h0, .inr (7, [.ref q_1, .int 0, .ref q_8, .int 0, .ref q_15, .ref q_17, .int 0, .ref q_19, .ref q_21, .ref q_23, .ref q_25, .ref q_27, .null, .int 0, .null, .int 0, .null, .int 0, .int 0])), (q_1, .inl (k_2, 8, .inr (.inr (.inr (.inr f_6))))), (q_8, .inl (k_9, 96, .inr (.inr (.inr (.inr f_13))))), (q_29, .inl (k_30, 500, .inr (.inl (fun _ => 0))))] := hD
          refine W.widen (k := 346) (n := 9448) (Nat.le_of_ble_eq_true rfl) (Nat.le_of_ble_eq_true rfl) ?_
          refine va_putF (D := (dC, dI)) (ci := 7) (v := .ref q_29) (ty := tyX7 12) (C := RX7) (T := TX7) (N := 19) hx hb hts (mc_ inX7) tyX7 tyX7_ok nmX7 hown hK hP hD hS 0 rfl rfl 12 (by decide) (hts _ (List.mem_cons_of_mem _ t_663)) (fun _ h9 => h9) rfl hin rfl (by decide +kernel) rfl rfl (Nat.le_of_ble_eq_true rfl) dX7_init_145 (fun H locs hP hD hS => ?_)
          have hP : va_P (dC, dI) vwCl [(h0, .inr (7, [.ref q_1, .int 0, .ref q_8, .int 0, .ref q_15, .ref q_17, .int 0, .ref q_19, .ref q_21, .ref q_23, .ref q_25, .ref q_27, .ref q_29, .int 0, .null, .int 0, .null, .int 0, .int 0])), (q_1, .inl (k_2, 8, .inr (.inr (.inr (.inr f_6))))), (q_8, .inl (k_9, 96, .inr (.inr (.inr (.inr f_13))))), (q_29, .inl (k_30, 500, .inr (.inl (fun _ => 0))))] H := hP
          have hD : va_D A [(h0, .inr (7, [.ref q_1, .int 0, .ref q_8, .int 0, .ref q_15, .ref q_17, .int 0, .ref q_19, .ref q_21, .ref q_23, .ref q_25, .ref q_27, .ref q_29, .int 0, .null, .int 0, .null, .int 0, .int 0])), (q_1, .inl (k_2, 8, .inr (.inr (.inr (.inr f_6))))), (q_8, .inl (k_9, 96, .inr (.inr (.inr (.inr f_13))))), (q_29, .inl (k_30, 500, .inr (.inl (fun _ => 0))))] := hD
          have hP := hP.sub (ws' := [(h0, .inr (7, [.ref q_1, .int 0, .ref q_8, .int 0, .ref q_15, .ref q_17, .int 0, .ref q_19, .ref q_21, .ref q_23, .ref q_25, .ref q_27, .ref q_29, .int 0, .null, .int 0, .null, .int 0, .int 0])), (q_1, .inl (k_2, 8, .inr (.inr (.inr (.inr f_6))))), (q_8, .inl (k_9, 96, .inr (.inr (.inr (.inr f_13)))))]) [0, 1, 2] rfl
          have hD := hD.sub (ws' := [(h0, .inr (7, [.ref q_1, .int 0, .ref q_8, .int 0, .ref q_15, .ref q_17, .int 0, .ref q_19, .ref q_21, .ref q_23, .ref q_25, .ref q_27, .ref q_29, .int 0, .null, .int 0, .null, .int 0, .int 0])), (q_1, .inl (k_2, 8, .inr (.inr (.inr (.inr f_6))))), (q_8, .inl (k_9, 96, .inr (.inr (.inr (.inr f_13)))))]) [0, 1, 2] (by decide) rfl
          have hK := hK.sub (tys' := [(k_2, .object RX9), (k_9, .object RX6)]) [0, 1] rfl
          refine lv_aload_n hx hb dX7_init_148 rfl (lv_at hl 1 rfl) ?_
          refine lv_sipush (v := 420) hx hb dX7_init_149 (by decide) ?_
          refine va_newa (atype := .boolean) (N' := 420) (a0 := (420, .inl (fun _ => 0))) hx hb (hts _ (List.mem_cons_of_mem _ t_722)) rfl hK hP hD hS hA (fun _ => rfl) (by decide) (by decide) (by decide) (Nat.le_of_ble_eq_true rfl) (Nat.le_of_ble_eq_true rfl) dX7_init_152 (fun q_31 k_32 H hK hP hD hS => ?_)
          have hK : va_K (dC, dI) vwCl [(k_2, .object RX9), (k_9, .object RX6), (k_32, .boolean)] s := hK
          have hP : va_P (dC, dI) vwCl [(h0, .inr (7, [.ref q_1, .int 0, .ref q_8, .int 0, .ref q_15, .ref q_17, .int 0, .ref q_19, .ref q_21, .ref q_23, .ref q_25, .ref q_27, .ref q_29, .int 0, .null, .int 0, .null, .int 0, .int 0])), (q_1, .inl (k_2, 8, .inr (.inr (.inr (.inr f_6))))), (q_8, .inl (k_9, 96, .inr (.inr (.inr (.inr f_13))))), (q_31, .inl (k_32, 420, .inl (fun _ => 0)))] H := hP
          have hD : va_D A [(h0, .inr (7, [.ref q_1, .int 0, .ref q_8, .int 0, .ref q_15, .ref q_17, .int 0, .ref q_19, .ref q_21, .ref q_23, .ref q_25, .ref q_27, .ref q_29, .int 0, .null, .int 0, .null, .int 0, .int 0])), (q_1, .inl (k_2, 8, .inr (.inr (.inr (.inr f_6))))), (q_8, .inl (k_9, 96, .inr (.inr (.inr (.inr f_13))))), (q_31, .inl (k_32, 420, .inl (fun _ => 0)))] := hD
          refine W.widen (k := 347) (n := 9868) (Nat.le_of_ble_eq_true rfl) (Nat.le_of_ble_eq_true rfl) ?_
          refine va_putF (D := (dC, dI)) (ci := 7) (v := .ref q_31) (ty := tyX7 14) (C := RX7) (T := TX7) (N := 19) hx hb hts (mc_ inX7) tyX7 tyX7_ok nmX7 hown hK hP hD hS 0 rfl rfl 14 (by decide) (hts _ (List.mem_cons_of_mem _ t_671)) (fun _ h9 => h9) rfl hin rfl (by decide +kernel) rfl rfl (Nat.le_of_ble_eq_true rfl) dX7_init_154 (fun H locs hP hD hS => ?_)
          have hP : va_P (dC, dI) vwCl [(h0, .inr (7, [.ref q_1, .int 0, .ref q_8, .int 0, .ref q_15, .ref q_17, .int 0, .ref q_19, .ref q_21, .ref q_23, .ref q_25, .ref q_27, .ref q_29, .int 0, .ref q_31, .int 0, .null, .int 0, .int 0])), (q_1, .inl (k_2, 8, .inr (.inr (.inr (.inr f_6))))), (q_8, .inl (k_9, 96, .inr (.inr (.inr (.inr f_13))))), (q_31, .inl (k_32, 420, .inl (fun _ => 0)))] H := hP
          have hD : va_D A [(h0, .inr (7, [.ref q_1, .int 0, .ref q_8, .int 0, .ref q_15, .ref q_17, .int 0, .ref q_19, .ref q_21, .ref q_23, .ref q_25, .ref q_27, .ref q_29, .int 0, .ref q_31, .int 0, .null, .int 0, .int 0])), (q_1, .inl (k_2, 8, .inr (.inr (.inr (.inr f_6))))), (q_8, .inl (k_9, 96, .inr (.inr (.inr (.inr f_13))))), (q_31, .inl (k_32, 420, .inl (fun _ => 0)))] := hD
          have hP := hP.sub (ws' := [(h0, .inr (7, [.ref q_1, .int 0, .ref q_8, .int 0, .ref q_15, .ref q_17, .int 0, .ref q_19, .ref q_21, .ref q_23, .ref q_25, .ref q_27, .ref q_29, .int 0, .ref q_31, .int 0, .null, .int 0, .int 0])), (q_1, .inl (k_2, 8, .inr (.inr (.inr (.inr f_6))))), (q_8, .inl (k_9, 96, .inr (.inr (.inr (.inr f_13)))))]) [0, 1, 2] rfl
          have hD := hD.sub (ws' := [(h0, .inr (7, [.ref q_1, .int 0, .ref q_8, .int 0, .ref q_15, .ref q_17, .int 0, .ref q_19, .ref q_21, .ref q_23, .ref q_25, .ref q_27, .ref q_29, .int 0, .ref q_31, .int 0, .null, .int 0, .int 0])), (q_1, .inl (k_2, 8, .inr (.inr (.inr (.inr f_6))))), (q_8, .inl (k_9, 96, .inr (.inr (.inr (.inr f_13)))))]) [0, 1, 2] (by decide) rfl
          have hK := hK.sub (tys' := [(k_2, .object RX9), (k_9, .object RX6)]) [0, 1] rfl
          refine lv_aload_n hx hb dX7_init_157 rfl (lv_at hl 1 rfl) ?_
          refine lv_sipush (v := 420) hx hb dX7_init_158 (by decide) ?_
          refine va_newa (atype := .long) (N' := 420) (a0 := (420, .inr (.inl (fun _ => 0)))) hx hb (hts _ (List.mem_cons_of_mem _ t_321)) rfl hK hP hD hS hA (fun _ => rfl) (by decide) (by decide) (by decide) (Nat.le_of_ble_eq_true rfl) (Nat.le_of_ble_eq_true rfl) dX7_init_161 (fun q_33 k_34 H hK hP hD hS => ?_)
          have hK : va_K (dC, dI) vwCl [(k_2, .object RX9), (k_9, .object RX6), (k_34, .long)] s := hK
          have hP : va_P (dC, dI) vwCl [(h0, .inr (7, [.ref q_1, .int 0, .ref q_8, .int 0, .ref q_15, .ref q_17, .int 0, .ref q_19, .ref q_21, .ref q_23, .ref q_25, .ref q_27, .ref q_29, .int 0, .ref q_31, .int 0, .null, .int 0, .int 0])), (q_1, .inl (k_2, 8, .inr (.inr (.inr (.inr f_6))))), (q_8, .inl (k_9, 96, .inr (.inr (.inr (.inr f_13))))), (q_33, .inl (k_34, 420, .inr (.inl (fun _ => 0))))] H := hP
          have hD : va_D A [(h0, .inr (7, [.ref q_1, .int 0, .ref q_8, .int 0, .ref q_15, .ref q_17, .int 0, .ref q_19, .ref q_21, .ref q_23, .ref q_25, .ref q_27, .ref q_29, .int 0, .ref q_31, .int 0, .null, .int 0, .int 0])), (q_1, .inl (k_2, 8, .inr (.inr (.inr (.inr f_6))))), (q_8, .inl (k_9, 96, .inr (.inr (.inr (.inr f_13))))), (q_33, .inl (k_34, 420, .inr (.inl (fun _ => 0))))] := hD
          refine W.widen (k := 348) (n := 10288) (Nat.le_of_ble_eq_true rfl) (Nat.le_of_ble_eq_true rfl) ?_
          refine va_putF (D := (dC, dI)) (ci := 7) (v := .ref q_33) (ty := tyX7 16) (C := RX7) (T := TX7) (N := 19) hx hb hts (mc_ inX7) tyX7 tyX7_ok nmX7 hown hK hP hD hS 0 rfl rfl 16 (by decide) (hts _ (List.mem_cons_of_mem _ t_676)) (fun _ h9 => h9) rfl hin rfl (by decide +kernel) rfl rfl (Nat.le_of_ble_eq_true rfl) dX7_init_163 (fun H locs hP hD hS => ?_)
          have hP : va_P (dC, dI) vwCl [(h0, .inr (7, [.ref q_1, .int 0, .ref q_8, .int 0, .ref q_15, .ref q_17, .int 0, .ref q_19, .ref q_21, .ref q_23, .ref q_25, .ref q_27, .ref q_29, .int 0, .ref q_31, .int 0, .ref q_33, .int 0, .int 0])), (q_1, .inl (k_2, 8, .inr (.inr (.inr (.inr f_6))))), (q_8, .inl (k_9, 96, .inr (.inr (.inr (.inr f_13))))), (q_33, .inl (k_34, 420, .inr (.inl (fun _ => 0))))] H := hP
          have hD : va_D A [(h0, .inr (7, [.ref q_1, .int 0, .ref q_8, .int 0, .ref q_15, .ref q_17, .int 0, .ref q_19, .ref q_21, .ref q_23, .ref q_25, .ref q_27, .ref q_29, .int 0, .ref q_31, .int 0, .ref q_33, .int 0, .int 0])), (q_1, .inl (k_2, 8, .inr (.inr (.inr (.inr f_6))))), (q_8, .inl (k_9, 96, .inr (.inr (.inr (.inr f_13))))), (q_33, .inl (k_34, 420, .inr (.inl (fun _ => 0))))] := hD
          have hP := hP.sub (ws' := [(h0, .inr (7, [.ref q_1, .int 0, .ref q_8, .int 0, .ref q_15, .ref q_17, .int 0, .ref q_19, .ref q_21, .ref q_23, .ref q_25, .ref q_27, .ref q_29, .int 0, .ref q_31, .int 0, .ref q_33, .int 0, .int 0])), (q_1, .inl (k_2, 8, .inr (.inr (.inr (.inr f_6))))), (q_8, .inl (k_9, 96, .inr (.inr (.inr (.inr f_13)))))]) [0, 1, 2] rfl
          have hD := hD.sub (ws' := [(h0, .inr (7, [.ref q_1, .int 0, .ref q_8, .int 0, .ref q_15, .ref q_17, .int 0, .ref q_19, .ref q_21, .ref q_23, .ref q_25, .ref q_27, .ref q_29, .int 0, .ref q_31, .int 0, .ref q_33, .int 0, .int 0])), (q_1, .inl (k_2, 8, .inr (.inr (.inr (.inr f_6))))), (q_8, .inl (k_9, 96, .inr (.inr (.inr (.inr f_13)))))]) [0, 1, 2] (by decide) rfl
          have hK := hK.sub (tys' := [(k_2, .object RX9), (k_9, .object RX6)]) [0, 1] rfl
          subst hQ
          have hP9 := hP.sub (ws' := [(h0, .inr (7, [.ref q_1, .int 0, .ref q_8, .int 0, .ref q_15, .ref q_17, .int 0, .ref q_19, .ref q_21, .ref q_23, .ref q_25, .ref q_27, .ref q_29, .int 0, .ref q_31, .int 0, .ref q_33, .int 0, .int 0])), (q_1, .inl (k_2, 8, .inr (.inr (.inr (.inr f_6))))), (q_8, .inl (k_9, 96, .inr (.inr (.inr (.inr f_13)))))]) [0, 1, 2] rfl
          have hD9 := hD.sub (ws' := [(h0, .inr (7, [.ref q_1, .int 0, .ref q_8, .int 0, .ref q_15, .ref q_17, .int 0, .ref q_19, .ref q_21, .ref q_23, .ref q_25, .ref q_27, .ref q_29, .int 0, .ref q_31, .int 0, .ref q_33, .int 0, .int 0])), (q_1, .inl (k_2, 8, .inr (.inr (.inr (.inr f_6))))), (q_8, .inl (k_9, 96, .inr (.inr (.inr (.inr f_13)))))]) [0, 1, 2] (by decide) rfl
          have hK9 := hK.sub (tys' := [(k_2, .object RX9), (k_9, .object RX6)]) [0, 1] rfl
          refine W.widen (k := 348) (n := 10288) (Nat.le_of_ble_eq_true rfl) (Nat.le_of_ble_eq_true rfl) ?_
          exact W.vret hx hb hr (fun t ht hW => ⟨⟨(), rfl, trivial, q_1, q_8, q_15, q_17, q_19, q_21, q_23, q_25, q_27, q_29, q_31, q_33, k_2, f_6, k_9, f_13, by rw [ht]; exact hP9, va_K.moved hW.alike hK9, hD9⟩, hS.F ht⟩) hS.2.2 dX7_init_166
        | succ n_11 ih =>
          intro i_10 hi x_12 ex f_13 H locs ls hK hP hD hS hl
          refine lv_iload_n hx hb dX7_init_51 rfl (lv_at hl 0 rfl) ?_
          refine lv_bipush (v := 96) hx hb dX7_init_52 (by decide) ?_
          refine lv_icmp_ge (tgt := 76) hx hb dX7_init_54 (by decide) (fun c_ => absurd c_ (by rw [ex]; exact nI_ge (a := i_10) (b := 96) (by omega) (by omega))) (fun c_ => ?_)
          refine lv_aload_n hx hb dX7_init_57 rfl (lv_at hl 1 rfl) ?_
          refine va_get (D := (dC, dI)) (ci := 7) (v := .ref q_8) (C := RX7) (T := TX7) (N := 19) hx hb hts (mc_ inX7) hown hK hP 0 rfl rfl 2 (by decide) (hts _ (List.mem_cons_of_mem _ t_629)) (fun _ h9 => h9) rfl dX7_init_58 ?_
          refine lv_iload_n hx hb dX7_init_61 rfl (lv_at hl 0 rfl) ?_
          refine va_new (ci := 6) (fs := [.long 0, .int 0, .int 0, .int 0, .null, .null, .int 0, .int 0, .int 0, .int 0, .int 0, .int 0, .int 0]) (C := RX6) (T := TX6) (N := 13) hx hb hts (mc_ inX6) tyX6 tyX6_ok hown (hts _ (List.mem_cons_of_mem _ t_548)) (hts _ (List.mem_cons_of_mem _ t_550)) (hts _ (List.mem_cons_of_mem _ t_193)) hK hP hD hS hA rfl dfX6 (by show _ ≤ 348; omega) (by show _ ≤ 10288; omega) dX7_init_62 (fun q_35 H hP hD hS => ?_)
          have hP : va_P (dC, dI) vwCl [(h0, .inr (7, [.ref q_1, .int 0, .ref q_8, .int 0, .null, .null, .int 0, .null, .null, .null, .null, .null, .null, .int 0, .null, .int 0, .null, .int 0, .int 0])), (q_1, .inl (k_2, 8, .inr (.inr (.inr (.inr f_6))))), (q_8, .inl (k_9, 96, .inr (.inr (.inr (.inr f_13))))), (q_35, .inr (6, [.long 0, .int 0, .int 0, .int 0, .null, .null, .int 0, .int 0, .int 0, .int 0, .int 0, .int 0, .int 0]))] H := hP
          have hD : va_D A [(h0, .inr (7, [.ref q_1, .int 0, .ref q_8, .int 0, .null, .null, .int 0, .null, .null, .null, .null, .null, .null, .int 0, .null, .int 0, .null, .int 0, .int 0])), (q_1, .inl (k_2, 8, .inr (.inr (.inr (.inr f_6))))), (q_8, .inl (k_9, 96, .inr (.inr (.inr (.inr f_13))))), (q_35, .inr (6, [.long 0, .int 0, .int 0, .int 0, .null, .null, .int 0, .int 0, .int 0, .int 0, .int 0, .int 0, .int 0]))] := hD
          refine W.widen (k := 50 + 3 * i_10 + 1) (n := 624 + 19 * i_10 + 13) (by omega) (by omega) ?_
          refine lv_dup hx hb dX7_init_65 rfl ?_
          have hPc := hP.sub (ws' := [(q_35, .inr (6, [.long 0, .int 0, .int 0, .int 0, .null, .null, .int 0, .int 0, .int 0, .int 0, .int 0, .int 0, .int 0]))]) [3] rfl
          have hDc := hD.sub (ws' := [(q_35, .inr (6, [.long 0, .int 0, .int 0, .int 0, .null, .null, .int 0, .int 0, .int 0, .int 0, .int 0, .int 0, .int 0]))]) [3] (by decide) rfl
          have hKc := hK.sub (tys' := []) [] rfl
          have hFc := va_free (wc := [(q_35, .inr (6, [.long 0, .int 0, .int 0, .int 0, .null, .null, .int 0, .int 0, .int 0, .int 0, .int 0, .int 0, .int 0]))]) hD hS hA [3] rfl
          refine va_callv (va_runI (As := []) (rest := [.ref q_35, .int x_12, .ref q_8]) ⟨hx, hb, hml, hown, hts⟩ (c_X6_init l dC dI q_35 H.size) (cwI 0 hts (gI_ t_553) rfl rfl rfl (hts _ (List.mem_cons_of_mem _ t_193)) (hts _ (List.mem_cons_of_mem _ t_551)) (hts _ (List.mem_cons_of_mem _ t_552)) rfl (by decide +kernel) ⟨(Nat.le_of_ble_eq_true rfl), (Nat.le_of_ble_eq_true rfl)⟩) ⟨fun a U g mk q => by obtain ⟨q0, q1, qP, qK, qD⟩ := q; exact ⟨q0, q1, qP, va_K.moved (u := U) (U := U.calling g mk a) (Vm.Alike.refl U.vm) qK, qD⟩, fun U hU hW => ⟨rfl, by rw [hU], by rw [hU]; exact hPc, va_K.moved hW.alike hKc, hDc.weaken (fun _ _ _ _ => trivial)⟩⟩ rfl rfl hl.1 rfl (lv_room (Nat.le_of_ble_eq_true rfl)) dX7_init_66 ⟨(by show _ ≤ 348; omega), (by show _ ≤ 10288; omega)⟩) hS (fun q _ h => hFc q h) hFc (fun u_ t H1 locs ht hvm hw hB hz1 hk1 hS => ?_)
          obtain ⟨q_37, q_38, hP1, hK1, hD1⟩ := hB
          rw [ht] at hP1
          have hK1 := va_K.moved hvm.symm hK1
          obtain ⟨hP, hD⟩ := va_join (wr := [(h0, .inr (7, [.ref q_1, .int 0, .ref q_8, .int 0, .null, .null, .int 0, .null, .null, .null, .null, .null, .null, .int 0, .null, .int 0, .null, .int 0, .int 0])), (q_1, .inl (k_2, 8, .inr (.inr (.inr (.inr f_6))))), (q_8, .inl (k_9, 96, .inr (.inr (.inr (.inr f_13)))))]) (w1 := [(q_35, .inr (6, [.long 0, .int 0, .int 0, .int 0, .ref q_37, .ref q_38, .int 0, .int 0, .int 0, .int 0, .int 0, .int 0, .int 0]))]) hP hD [3] [0, 1, 2] rfl rfl (by decide) (by decide) hk1 hFc hP1 hD1
          have hK := (hK.sub (tys' := [(k_2, .object RX9), (k_9, .object RX6)]) [0, 1] rfl).app hK1
          generalize H1 = H at hP hS ⊢
          have hP : va_P (dC, dI) vwCl [(h0, .inr (7, [.ref q_1, .int 0, .ref q_8, .int 0, .null, .null, .int 0, .null, .null, .null, .null, .null, .null, .int 0, .null, .int 0, .null, .int 0, .int 0])), (q_1, .inl (k_2, 8, .inr (.inr (.inr (.inr f_6))))), (q_8, .inl (k_9, 96, .inr (.inr (.inr (.inr f_13))))), (q_35, .inr (6, [.long 0, .int 0, .int 0, .int 0, .ref q_37, .ref q_38, .int 0, .int 0, .int 0, .int 0, .int 0, .int 0, .int 0]))] H := hP
          have hD : va_D A [(h0, .inr (7, [.ref q_1, .int 0, .ref q_8, .int 0, .null, .null, .int 0, .null, .null, .null, .null, .null, .null, .int 0, .null, .int 0, .null, .int 0, .int 0])), (q_1, .inl (k_2, 8, .inr (.inr (.inr (.inr f_6))))), (q_8, .inl (k_9, 96, .inr (.inr (.inr (.inr f_13))))), (q_35, .inr (6, [.long 0, .int 0, .int 0, .int 0, .ref q_37, .ref q_38, .int 0, .int 0, .int 0, .int 0, .int 0, .int 0, .int 0]))] := hD
          have hK : va_K (dC, dI) vwCl [(k_2, .object RX9), (k_9, .object RX6)] s := hK
          refine W.widen (k := 50 + 3 * i_10 + 3) (n := 624 + 19 * i_10 + 19) (by omega) (by omega) ?_
          refine va_astq hx hb hK hP hD hS 2 1 3 6 rfl rfl rfl rfl (by rw [ex]; exact vp_in_nI (by omega) (by omega)) dX7_init_69 (fun H locs hP hD hS => ?_)
          have hP : va_P (dC, dI) vwCl [(h0, .inr (7, [.ref q_1, .int 0, .ref q_8, .int 0, .null, .null, .int 0, .null, .null, .null, .null, .null, .null, .int 0, .null, .int 0, .null, .int 0, .int 0])), (q_1, .inl (k_2, 8, .inr (.inr (.inr (.inr f_6))))), (q_8, .inl (k_9, 96, .inr (.inr (.inr (.inr (va_up f_13 (x_12 : Int32).toNatClampNeg (some q_35))))))), (q_35, .inr (6, [.long 0, .int 0, .int 0, .int 0, .ref q_37, .ref q_38, .int 0, .int 0, .int 0, .int 0, .int 0, .int 0, .int 0]))] H := hP
          have hD : va_D A [(h0, .inr (7, [.ref q_1, .int 0, .ref q_8, .int 0, .null, .null, .int 0, .null, .null, .null, .null, .null, .null, .int 0, .null, .int 0, .null, .int 0, .int 0])), (q_1, .inl (k_2, 8, .inr (.inr (.inr (.inr f_6))))), (q_8, .inl (k_9, 96, .inr (.inr (.inr (.inr (va_up f_13 (x_12 : Int32).toNatClampNeg (some q_35))))))), (q_35, .inr (6, [.long 0, .int 0, .int 0, .int 0, .ref q_37, .ref q_38, .int 0, .int 0, .int 0, .int 0, .int 0, .int 0, .int 0]))] := hD
          generalize (va_up f_13 (x_12 : Int32).toNatClampNeg (some q_35)) = f_39 at hP hD
          have hP := hP.sub (ws' := [(h0, .inr (7, [.ref q_1, .int 0, .ref q_8, .int 0, .null, .null, .int 0, .null, .null, .null, .null, .null, .null, .int 0, .null, .int 0, .null, .int 0, .int 0])), (q_1, .inl (k_2, 8, .inr (.inr (.inr (.inr f_6))))), (q_8, .inl (k_9, 96, .inr (.inr (.inr (.inr f_39)))))]) [0, 1, 2] rfl
          have hD := hD.sub (ws' := [(h0, .inr (7, [.ref q_1, .int 0, .ref q_8, .int 0, .null, .null, .int 0, .null, .null, .null, .null, .null, .null, .int 0, .null, .int 0, .null, .int 0, .int 0])), (q_1, .inl (k_2, 8, .inr (.inr (.inr (.inr f_6))))), (q_8, .inl (k_9, 96, .inr (.inr (.inr (.inr f_39)))))]) [0, 1, 2] (by decide) rfl
          have hK := hK.sub (tys' := [(k_2, .object RX9), (k_9, .object RX6)]) [0, 1] rfl
          obtain ⟨y_40, ey_40⟩ : ∃ z : Int32, z = x_12 + 1 := ⟨_, rfl⟩
          refine lv_iinc (v := y_40) (lv' := [(1, .int y_40), (0, .ref h0)]) hx hb dX7_init_70 hl (k := 0) rfl (by rw [ey_40]; rfl) (by decide) rfl (fun ls hl => ?_)
          refine lv_goto (tgt := 51) hx hb dX7_init_73 (by decide) ?_
          refine W.widen (k := 50 + 3 * (i_10 + 1)) (n := 624 + 19 * (i_10 + 1)) (by omega) (by omega) ?_
          exact ih (i_10 + 1) (by omega) y_40 (by rw [ey_40, ex]; exact nI_1 i_10) _ _ _ _ (hK.sub [0, 1] rfl) (hP.sub [0, 1, 2] rfl) (hD.sub [0, 1, 2] (by decide) rfl) hS (lv_sub hl [0, 1] rfl)
      exact loop_14 96 0 rfl 0 rfl _ _ _ _ hK hP hD hS hl
    | succ n_4 ih =>
      intro i_3 hi x_5 ex f_6 H locs ls hK hP hD hS hl
      refine lv_iload_n hx hb dX7_init_15 rfl (lv_at hl 0 rfl) ?_
      refine lv_bipush (v := 8) hx hb dX7_init_16 (by decide) ?_
      refine lv_icmp_ge (tgt := 40) hx hb dX7_init_18 (by decide) (fun c_ => absurd c_ (by rw [ex]; exact nI_ge (a := i_3) (b := 8) (by omega) (by omega))) (fun c_ => ?_)
      refine lv_aload_n hx hb dX7_init_21 rfl (lv_at hl 1 rfl) ?_
      refine va_get (D := (dC, dI)) (ci := 7) (v := .ref q_1) (C := RX7) (T := TX7) (N := 19) hx hb hts (mc_ inX7) hown hK hP 0 rfl rfl 0 (by decide) (hts _ (List.mem_cons_of_mem _ t_620)) (fun _ h9 => h9) rfl dX7_init_22 ?_
      refine lv_iload_n hx hb dX7_init_25 rfl (lv_at hl 0 rfl) ?_
      refine va_new (ci := 9) (fs := [.long 0, .int 0, .int 0, .null, .null, .null, .null, .int 0, .int 0, .null, .int 0, .int 0, .int 0]) (C := RX9) (T := TX9) (N := 13) hx hb hts (mc_ inX9) tyX9 tyX9_ok hown (hts _ (List.mem_cons_of_mem _ t_471)) (hts _ (List.mem_cons_of_mem _ t_473)) (hts _ (List.mem_cons_of_mem _ t_192)) hK hP hD hS hA rfl dfX9 (by show _ ≤ 348; omega) (by show _ ≤ 10288; omega) dX7_init_26 (fun q_41 H hP hD hS => ?_)
      have hP : va_P (dC, dI) vwCl [(h0, .inr (7, [.ref q_1, .int 0, .null, .int 0, .null, .null, .int 0, .null, .null, .null, .null, .null, .null, .int 0, .null, .int 0, .null, .int 0, .int 0])), (q_1, .inl (k_2, 8, .inr (.inr (.inr (.inr f_6))))), (q_41, .inr (9, [.long 0, .int 0, .int 0, .null, .null, .null, .null, .int 0, .int 0, .null, .int 0, .int 0, .int 0]))] H := hP
      have hD : va_D A [(h0, .inr (7, [.ref q_1, .int 0, .null, .int 0, .null, .null, .int 0, .null, .null, .null, .null, .null, .null, .int 0, .null, .int 0, .null, .int 0, .int 0])), (q_1, .inl (k_2, 8, .inr (.inr (.inr (.inr f_6))))), (q_41, .inr (9, [.long 0, .int 0, .int 0, .null, .null, .null, .null, .int 0, .int 0, .null, .int 0, .int 0, .int 0]))] := hD
      refine W.widen (k := 1 + 6 * i_3 + 1) (n := 8 + 65 * i_3 + 13) (by omega) (by omega) ?_
      refine lv_dup hx hb dX7_init_29 rfl ?_
      have hPc := hP.sub (ws' := [(q_41, .inr (9, [.long 0, .int 0, .int 0, .null, .null, .null, .null, .int 0, .int 0, .null, .int 0, .int 0, .int 0]))]) [2] rfl
      have hDc := hD.sub (ws' := [(q_41, .inr (9, [.long 0, .int 0, .int 0, .null, .null, .null, .null, .int 0, .int 0, .null, .int 0, .int 0, .int 0]))]) [2] (by decide) rfl
      have hKc := hK.sub (tys' := []) [] rfl
      have hFc := va_free (wc := [(q_41, .inr (9, [.long 0, .int 0, .int 0, .null, .null, .null, .null, .int 0, .int 0, .null, .int 0, .int 0, .int 0]))]) hD hS hA [2] rfl
      refine va_callv (va_runI (As := []) (rest := [.ref q_41, .int x_5, .ref q_1]) ⟨hx, hb, hml, hown, hts⟩ (c_X9_init l dC dI q_41 H.size) (cwI 0 hts (gI_ t_476) rfl rfl rfl (hts _ (List.mem_cons_of_mem _ t_192)) (hts _ (List.mem_cons_of_mem _ t_474)) (hts _ (List.mem_cons_of_mem _ t_475)) rfl (by decide +kernel) ⟨(Nat.le_of_ble_eq_true rfl), (Nat.le_of_ble_eq_true rfl)⟩) ⟨fun a U g mk q => by obtain ⟨q0, q1, qP, qK, qD⟩ := q; exact ⟨q0, q1, qP, va_K.moved (u := U) (U := U.calling g mk a) (Vm.Alike.refl U.vm) qK, qD⟩, fun U hU hW => ⟨rfl, by rw [hU], by rw [hU]; exact hPc, va_K.moved hW.alike hKc, hDc.weaken (fun _ _ _ _ => trivial)⟩⟩ rfl rfl hl.1 rfl (lv_room (Nat.le_of_ble_eq_true rfl)) dX7_init_30 ⟨(by show _ ≤ 348; omega), (by show _ ≤ 10288; omega)⟩) hS (fun q _ h => hFc q h) hFc (fun u_ t H1 locs ht hvm hw hB hz1 hk1 hS => ?_)
      obtain ⟨q_43, q_44, q_45, q_46, q_47, hP1, hK1, hD1⟩ := hB
      rw [ht] at hP1
      have hK1 := va_K.moved hvm.symm hK1
      obtain ⟨hP, hD⟩ := va_join (wr := [(h0, .inr (7, [.ref q_1, .int 0, .null, .int 0, .null, .null, .int 0, .null, .null, .null, .null, .null, .null, .int 0, .null, .int 0, .null, .int 0, .int 0])), (q_1, .inl (k_2, 8, .inr (.inr (.inr (.inr f_6)))))]) (w1 := [(q_41, .inr (9, [.long 0, .int 0, .int 0, .ref q_43, .ref q_44, .ref q_45, .ref q_46, .int 0, .int 0, .ref q_47, .int 0, .int 0, .int 0]))]) hP hD [2] [0, 1] rfl rfl (by decide) (by decide) hk1 hFc hP1 hD1
      have hK := (hK.sub (tys' := [(k_2, .object RX9)]) [0] rfl).app hK1
      generalize H1 = H at hP hS ⊢
      have hP : va_P (dC, dI) vwCl [(h0, .inr (7, [.ref q_1, .int 0, .null, .int 0, .null, .null, .int 0, .null, .null, .null, .null, .null, .null, .int 0, .null, .int 0, .null, .int 0, .int 0])), (q_1, .inl (k_2, 8, .inr (.inr (.inr (.inr f_6))))), (q_41, .inr (9, [.long 0, .int 0, .int 0, .ref q_43, .ref q_44, .ref q_45, .ref q_46, .int 0, .int 0, .ref q_47, .int 0, .int 0, .int 0]))] H := hP
      have hD : va_D A [(h0, .inr (7, [.ref q_1, .int 0, .null, .int 0, .null, .null, .int 0, .null, .null, .null, .null, .null, .null, .int 0, .null, .int 0, .null, .int 0, .int 0])), (q_1, .inl (k_2, 8, .inr (.inr (.inr (.inr f_6))))), (q_41, .inr (9, [.long 0, .int 0, .int 0, .ref q_43, .ref q_44, .ref q_45, .ref q_46, .int 0, .int 0, .ref q_47, .int 0, .int 0, .int 0]))] := hD
      have hK : va_K (dC, dI) vwCl [(k_2, .object RX9)] s := hK
      refine W.widen (k := 1 + 6 * i_3 + 6) (n := 8 + 65 * i_3 + 65) (by omega) (by omega) ?_
      refine va_astq hx hb hK hP hD hS 1 0 2 9 rfl rfl rfl rfl (by rw [ex]; exact vp_in_nI (by omega) (by omega)) dX7_init_33 (fun H locs hP hD hS => ?_)
      have hP : va_P (dC, dI) vwCl [(h0, .inr (7, [.ref q_1, .int 0, .null, .int 0, .null, .null, .int 0, .null, .null, .null, .null, .null, .null, .int 0, .null, .int 0, .null, .int 0, .int 0])), (q_1, .inl (k_2, 8, .inr (.inr (.inr (.inr (va_up f_6 (x_5 : Int32).toNatClampNeg (some q_41))))))), (q_41, .inr (9, [.long 0, .int 0, .int 0, .ref q_43, .ref q_44, .ref q_45, .ref q_46, .int 0, .int 0, .ref q_47, .int 0, .int 0, .int 0]))] H := hP
      have hD : va_D A [(h0, .inr (7, [.ref q_1, .int 0, .null, .int 0, .null, .null, .int 0, .null, .null, .null, .null, .null, .null, .int 0, .null, .int 0, .null, .int 0, .int 0])), (q_1, .inl (k_2, 8, .inr (.inr (.inr (.inr (va_up f_6 (x_5 : Int32).toNatClampNeg (some q_41))))))), (q_41, .inr (9, [.long 0, .int 0, .int 0, .ref q_43, .ref q_44, .ref q_45, .ref q_46, .int 0, .int 0, .ref q_47, .int 0, .int 0, .int 0]))] := hD
      generalize (va_up f_6 (x_5 : Int32).toNatClampNeg (some q_41)) = f_48 at hP hD
      have hP := hP.sub (ws' := [(h0, .inr (7, [.ref q_1, .int 0, .null, .int 0, .null, .null, .int 0, .null, .null, .null, .null, .null, .null, .int 0, .null, .int 0, .null, .int 0, .int 0])), (q_1, .inl (k_2, 8, .inr (.inr (.inr (.inr f_48)))))]) [0, 1] rfl
      have hD := hD.sub (ws' := [(h0, .inr (7, [.ref q_1, .int 0, .null, .int 0, .null, .null, .int 0, .null, .null, .null, .null, .null, .null, .int 0, .null, .int 0, .null, .int 0, .int 0])), (q_1, .inl (k_2, 8, .inr (.inr (.inr (.inr f_48)))))]) [0, 1] (by decide) rfl
      have hK := hK.sub (tys' := [(k_2, .object RX9)]) [0] rfl
      obtain ⟨y_49, ey_49⟩ : ∃ z : Int32, z = x_5 + 1 := ⟨_, rfl⟩
      refine lv_iinc (v := y_49) (lv' := [(1, .int y_49), (0, .ref h0)]) hx hb dX7_init_34 hl (k := 0) rfl (by rw [ey_49]; rfl) (by decide) rfl (fun ls hl => ?_)
      refine lv_goto (tgt := 15) hx hb dX7_init_37 (by decide) ?_
      refine W.widen (k := 1 + 6 * (i_3 + 1)) (n := 8 + 65 * (i_3 + 1)) (by omega) (by omega) ?_
      exact ih (i_3 + 1) (by omega) y_49 (by rw [ey_49, ex]; exact nI_1 i_3) _ _ _ _ (hK.sub [0] rfl) (hP.sub [0, 1] rfl) (hD.sub [0, 1] (by decide) rfl) hS (lv_sub hl [0, 1] rfl)
  exact loop_7 8 0 rfl 0 rfl _ _ _ _ hK hP hD hS hl
