set_option maxHeartbeats 4000000 in
set_option maxRecDepth 100000 in
theorem s_X7_wipe (l : Launch) (dC : Nat → ClassId) (dI : Nat → Nat → Nat) (h0_ : Nat) (h1_ : Nat) (p2_ : Int32) (h3_ : Nat) (p4_ : Int32) (h5_ : Nat) (h6_ : Nat) (p7_ : Int32) (h8_ : Nat) (h9_ : Nat) (h10_ : Nat) (h11_ : Nat) (h12_ : Nat) (h13_ : Nat) (p14_ : Int32) (h15_ : Nat) (p16_ : Int32) (h17_ : Nat) (p18_ : Int32) (p19_ : Int32) (hb_p2_ : 0 ≤ p2_.toInt ∧ p2_.toInt ≤ 8) (hb_p4_ : 0 ≤ p4_.toInt ∧ p4_.toInt ≤ 96) (hb_p7_ : 0 ≤ p7_.toInt ∧ p7_.toInt ≤ 2000) (hb_p14_ : 0 ≤ p14_.toInt ∧ p14_.toInt ≤ 500) (hb_p16_ : 0 ≤ p16_.toInt ∧ p16_.toInt ≤ 420) (hb_p18_ : 0 ≤ p18_.toInt ∧ p18_.toInt ≤ 420) (sz : Nat) : Met l yX7_wipe (.code yX7_wipe cX7_wipe 1 none :: lw_g) ({ frames := 0, cells := 0, slots := 0, locals := 0 }) (va_Pc [.ref h0_] (fun U => U.heap.size = sz ∧ va_P (dC, dI) vwCl [(h0_, .inr (7, [.ref h1_, .int p2_, .ref h3_, .int p4_, .ref h5_, .ref h6_, .int p7_, .ref h8_, .ref h9_, .ref h10_, .ref h11_, .ref h12_, .ref h13_, .int p14_, .ref h15_, .int p16_, .ref h17_, .int p18_, .int p19_]))] U.heap ∧ va_K (dC, dI) vwCl [] U ∧ va_D (fun _ => True) [(h0_, .inr (7, [.ref h1_, .int p2_, .ref h3_, .int p4_, .ref h5_, .ref h6_, .int p7_, .ref h8_, .ref h9_, .ref h10_, .ref h11_, .ref h12_, .ref h13_, .int p14_, .ref h15_, .int p16_, .ref h17_, .int p18_, .int p19_]))])) (va_Qv (fun _ : Unit => True) (fun (_ : Unit) (t : State) => va_P (dC, dI) vwCl [(h0_, .inr (7, [.ref h1_, .int 0, .ref h3_, .int 0, .ref h5_, .ref h6_, .int 0, .ref h8_, .ref h9_, .ref h10_, .ref h11_, .ref h12_, .ref h13_, .int 0, .ref h15_, .int 0, .ref h17_, .int 0, .int 0]))] t.heap ∧ va_K (dC, dI) vwCl [] t ∧ va_D (va_A [(h0_, .inr (7, [.ref h1_, .int p2_, .ref h3_, .int p4_, .ref h5_, .ref h6_, .int p7_, .ref h8_, .ref h9_, .ref h10_, .ref h11_, .ref h12_, .ref h13_, .int p14_, .ref h15_, .int p16_, .ref h17_, .int p18_, .int p19_]))] sz) [(h0_, .inr (7, [.ref h1_, .int 0, .ref h3_, .int 0, .ref h5_, .ref h6_, .int 0, .ref h8_, .ref h9_, .ref h10_, .ref h11_, .ref h12_, .ref h13_, .int 0, .ref h15_, .int 0, .ref h17_, .int 0, .int 0]))]) (va_A [(h0_, .inr (7, [.ref h1_, .int p2_, .ref h3_, .int p4_, .ref h5_, .ref h6_, .int p7_, .ref h8_, .ref h9_, .ref h10_, .ref h11_, .ref h12_, .ref h13_, .int p14_, .ref h15_, .int p16_, .ref h17_, .int p18_, .int p19_]))] sz)) 0 0 (va_A [(h0_, .inr (7, [.ref h1_, .int p2_, .ref h3_, .int p4_, .ref h5_, .ref h6_, .int p7_, .ref h8_, .ref h9_, .ref h10_, .ref h11_, .ref h12_, .ref h13_, .int p14_, .ref h15_, .int p16_, .ref h17_, .int p18_, .int p19_]))] sz) := by
  refine Met.ofW (cc := cX7_wipe) (maxL := 1) (ret := none) (by decide) rfl ?_
  intro p e s m args below meth c s₁ B hml hv
  obtain ⟨rfl, hsz, hP, hK, hD0⟩ := hv
  have hx := B.exec
  have hb := B.bytes
  have hr := B.returns
  have hts := atoms_spec (ws := (.code yX7_wipe cX7_wipe 1 none :: lw_g)) B.pre
  have hown : s.vm.findClass RX7 = some m.cls := findClass_of_methodNamed B.named
  have hlocks := B.notSynchronized
  subst hsz
  have hD := hD0.self (sz := s.heap.size)
  generalize hAe : va_A [(h0_, .inr (7, [.ref h1_, .int p2_, .ref h3_, .int p4_, .ref h5_, .ref h6_, .int p7_, .ref h8_, .ref h9_, .ref h10_, .ref h11_, .ref h12_, .ref h13_, .int p14_, .ref h15_, .int p16_, .ref h17_, .int p18_, .int p19_]))] s.heap.size = A at hD ⊢
  have hA : ∀ q : Nat, s.heap.size ≤ q → A q := fun q h => by rw [← hAe]; exact Or.inr h
  have hS : va_S A s.heap s.heap [] := va_S.rf
  have hP : va_P (dC, dI) vwCl [(h0_, .inr (7, [.ref h1_, .int p2_, .ref h3_, .int p4_, .ref h5_, .ref h6_, .int p7_, .ref h8_, .ref h9_, .ref h10_, .ref h11_, .ref h12_, .ref h13_, .int p14_, .ref h15_, .int p16_, .ref h17_, .int p18_, .int p19_]))] s.heap := hP
  have hl := lv_entry ([.ref h0_]) (n := 1) (Nat.le_of_ble_eq_true rfl)
  rw [lg_entry_eq]
  generalize (lg_sl ([.ref h0_]) ++ List.replicate (1 - (lg_sl ([.ref h0_])).length) Slot.unset).toArray = ls at hl ⊢
  have hl : lv_has ls 1 [(0, .ref h0_)] := hl
  refine lv_aload_n hx hb dX7_wipe_0 rfl (lv_at hl 0 rfl) ?_
  refine lv_iconst (v := 0) hx hb dX7_wipe_1 (by decide) ?_
  refine va_put (D := (dC, dI)) (ci := 7) (v := .int 0) (ty := tyX7 1) (C := RX7) (T := TX7) (N := 19) hx hb hts (mc_ inX7) tyX7 tyX7_ok nmX7 hown hK hP hD hS 0 rfl rfl 1 (by decide) (hts _ (List.mem_cons_of_mem _ t_626)) (fun _ h9 => h9) rfl (by decide +kernel) rfl rfl (Nat.le_of_ble_eq_true rfl) dX7_wipe_2 (fun H locs hP hD hS => ?_)
  have hP : va_P (dC, dI) vwCl [(h0_, .inr (7, [.ref h1_, .int 0, .ref h3_, .int p4_, .ref h5_, .ref h6_, .int p7_, .ref h8_, .ref h9_, .ref h10_, .ref h11_, .ref h12_, .ref h13_, .int p14_, .ref h15_, .int p16_, .ref h17_, .int p18_, .int p19_]))] H := hP
  have hD : va_D A [(h0_, .inr (7, [.ref h1_, .int 0, .ref h3_, .int p4_, .ref h5_, .ref h6_, .int p7_, .ref h8_, .ref h9_, .ref h10_, .ref h11_, .ref h12_, .ref h13_, .int p14_, .ref h15_, .int p16_, .ref h17_, .int p18_, .int p19_]))] := hD
  refine lv_aload_n hx hb dX7_wipe_5 rfl (lv_at hl 0 rfl) ?_
  refine lv_iconst (v := 0) hx hb dX7_wipe_6 (by decide) ?_
  refine va_put (D := (dC, dI)) (ci := 7) (v := .int 0) (ty := tyX7 3) (C := RX7) (T := TX7) (N := 19) hx hb hts (mc_ inX7) tyX7 tyX7_ok nmX7 hown hK hP hD hS 0 rfl rfl 3 (by decide) (hts _ (List.mem_cons_of_mem _ t_636)) (fun _ h9 => h9) rfl (by decide +kernel) rfl rfl (Nat.le_of_ble_eq_true rfl) dX7_wipe_7 (fun H locs hP hD hS => ?_)
  have hP : va_P (dC, dI) vwCl [(h0_, .inr (7, [.ref h1_, .int 0, .ref h3_, .int 0, .ref h5_, .ref h6_, .int p7_, .ref h8_, .ref h9_, .ref h10_, .ref h11_, .ref h12_, .ref h13_, .int p14_, .ref h15_, .int p16_, .ref h17_, .int p18_, .int p19_]))] H := hP
  have hD : va_D A [(h0_, .inr (7, [.ref h1_, .int 0, .ref h3_, .int 0, .ref h5_, .ref h6_, .int p7_, .ref h8_, .ref h9_, .ref h10_, .ref h11_, .ref h12_, .ref h13_, .int p14_, .ref h15_, .int p16_, .ref h17_, .int p18_, .int p19_]))] := hD
  refine lv_aload_n hx hb dX7_wipe_10 rfl (lv_at hl 0 rfl) ?_
  refine lv_iconst (v := 0) hx hb dX7_wipe_11 (by decide) ?_
  refine va_put (D := (dC, dI)) (ci := 7) (v := .int 0) (ty := tyX7 6) (C := RX7) (T := TX7) (N := 19) hx hb hts (mc_ inX7) tyX7 tyX7_ok nmX7 hown hK hP hD hS 0 rfl rfl 6 (by decide) (hts _ (List.mem_cons_of_mem _ t_644)) (fun _ h9 => h9) rfl (by decide +kernel) rfl rfl (Nat.le_of_ble_eq_true rfl) dX7_wipe_12 (fun H locs hP hD hS => ?_)
  have hP : va_P (dC, dI) vwCl [(h0_, .inr (7, [.ref h1_, .int 0, .ref h3_, .int 0, .ref h5_, .ref h6_, .int 0, .ref h8_, .ref h9_, .ref h10_, .ref h11_, .ref h12_, .ref h13_, .int p14_, .ref h15_, .int p16_, .ref h17_, .int p18_, .int p19_]))] H := hP
  have hD : va_D A [(h0_, .inr (7, [.ref h1_, .int 0, .ref h3_, .int 0, .ref h5_, .ref h6_, .int 0, .ref h8_, .ref h9_, .ref h10_, .ref h11_, .ref h12_, .ref h13_, .int p14_, .ref h15_, .int p16_, .ref h17_, .int p18_, .int p19_]))] := hD
  refine lv_aload_n hx hb dX7_wipe_15 rfl (lv_at hl 0 rfl) ?_
  refine lv_iconst (v := 0) hx hb dX7_wipe_16 (by decide) ?_
  refine va_put (D := (dC, dI)) (ci := 7) (v := .int 0) (ty := tyX7 13) (C := RX7) (T := TX7) (N := 19) hx hb hts (mc_ inX7) tyX7 tyX7_ok nmX7 hown hK hP hD hS 0 rfl rfl 13 (by decide) (hts _ (List.mem_cons_of_mem _ t_666)) (fun _ h9 => h9) rfl (by decide +kernel) rfl rfl (Nat.le_of_ble_eq_true rfl) dX7_wipe_17 (fun H locs hP hD hS => ?_)
  have hP : va_P (dC, dI) vwCl [(h0_, .inr (7, [.ref h1_, .int 0, .ref h3_, .int 0, .ref h5_, .ref h6_, .int 0, .ref h8_, .ref h9_, .ref h10_, .ref h11_, .ref h12_, .ref h13_, .int 0, .ref h15_, .int p16_, .ref h17_, .int p18_, .int p19_]))] H := hP
  have hD : va_D A [(h0_, .inr (7, [.ref h1_, .int 0, .ref h3_, .int 0, .ref h5_, .ref h6_, .int 0, .ref h8_, .ref h9_, .ref h10_, .ref h11_, .ref h12_, .ref h13_, .int 0, .ref h15_, .int p16_, .ref h17_, .int p18_, .int p19_]))] := hD
  refine lv_aload_n hx hb dX7_wipe_20 rfl (lv_at hl 0 rfl) ?_
  refine lv_iconst (v := 0) hx hb dX7_wipe_21 (by decide) ?_
  refine va_put (D := (dC, dI)) (ci := 7) (v := .int 0) (ty := tyX7 15) (C := RX7) (T := TX7) (N := 19) hx hb hts (mc_ inX7) tyX7 tyX7_ok nmX7 hown hK hP hD hS 0 rfl rfl 15 (by decide) (hts _ (List.mem_cons_of_mem _ t_673)) (fun _ h9 => h9) rfl (by decide +kernel) rfl rfl (Nat.le_of_ble_eq_true rfl) dX7_wipe_22 (fun H locs hP hD hS => ?_)
  have hP : va_P (dC, dI) vwCl [(h0_, .inr (7, [.ref h1_, .int 0, .ref h3_, .int 0, .ref h5_, .ref h6_, .int 0, .ref h8_, .ref h9_, .ref h10_, .ref h11_, .ref h12_, .ref h13_, .int 0, .ref h15_, .int 0, .ref h17_, .int p18_, .int p19_]))] H := hP
  have hD : va_D A [(h0_, .inr (7, [.ref h1_, .int 0, .ref h3_, .int 0, .ref h5_, .ref h6_, .int 0, .ref h8_, .ref h9_, .ref h10_, .ref h11_, .ref h12_, .ref h13_, .int 0, .ref h15_, .int 0, .ref h17_, .int p18_, .int p19_]))] := hD
  refine lv_aload_n hx hb dX7_wipe_25 rfl (lv_at hl 0 rfl) ?_
  refine lv_iconst (v := 0) hx hb dX7_wipe_26 (by decide) ?_
  refine va_put (D := (dC, dI)) (ci := 7) (v := .int 0) (ty := tyX7 17) (C := RX7) (T := TX7) (N := 19) hx hb hts (mc_ inX7) tyX7 tyX7_ok nmX7 hown hK hP hD hS 0 rfl rfl 17 (by decide) (hts _ (List.mem_cons_of_mem _ t_678)) (fun _ h9 => h9) rfl (by decide +kernel) rfl rfl (Nat.le_of_ble_eq_true rfl) dX7_wipe_27 (fun H locs hP hD hS => ?_)
  have hP : va_P (dC, dI) vwCl [(h0_, .inr (7, [.ref h1_, .int 0, .ref h3_, .int 0, .ref h5_, .ref h6_, .int 0, .ref h8_, .ref h9_, .ref h10_, .ref h11_, .ref h12_, .ref h13_, .int 0, .ref h15_, .int 0, .ref h17_, .int 0, .int p19_]))] H := hP
  have hD : va_D A [(h0_, .inr (7, [.ref h1_, .int 0, .ref h3_, .int 0, .ref h5_, .ref h6_, .int 0, .ref h8_, .ref h9_, .ref h10_, .ref h11_, .ref h12_, .ref h13_, .int 0, .ref h15_, .int 0, .ref h17_, .int 0, .int p19_]))] := hD
  refine lv_aload_n hx hb dX7_wipe_30 rfl (lv_at hl 0 rfl) ?_
  refine lv_iconst (v := 0) hx hb dX7_wipe_31 (by decide) ?_
  refine va_put (D := (dC, dI)) (ci := 7) (v := .int 0) (ty := tyX7 18) (C := RX7) (T := TX7) (N := 19) hx hb hts (mc_ inX7) tyX7 tyX7_ok nmX7 hown hK hP hD hS 0 rfl rfl 18 (by decide) (hts _ (List.mem_cons_of_mem _ t_680)) (fun _ h9 => h9) rfl (by decide +kernel) rfl rfl (Nat.le_of_ble_eq_true rfl) dX7_wipe_32 (fun H locs hP hD hS => ?_)
  have hP : va_P (dC, dI) vwCl [(h0_, .inr (7, [.ref h1_, .int 0, .ref h3_, .int 0, .ref h5_, .ref h6_, .int 0, .ref h8_, .ref h9_, .ref h10_, .ref h11_, .ref h12_, .ref h13_, .int 0, .ref h15_, .int 0, .ref h17_, .int 0, .int 0]))] H := hP
  have hD : va_D A [(h0_, .inr (7, [.ref h1_, .int 0, .ref h3_, .int 0, .ref h5_, .ref h6_, .int 0, .ref h8_, .ref h9_, .ref h10_, .ref h11_, .ref h12_, .ref h13_, .int 0, .ref h15_, .int 0, .ref h17_, .int 0, .int 0]))] := hD
  have hP9 := hP.sub (ws' := [(h0_, .inr (7, [.ref h1_, .int 0, .ref h3_, .int 0, .ref h5_, .ref h6_, .int 0, .ref h8_, .ref h9_, .ref h10_, .ref h11_, .ref h12_, .ref h13_, .int 0, .ref h15_, .int 0, .ref h17_, .int 0, .int 0]))]) [0] rfl
  have hD9 := hD.sub (ws' := [(h0_, .inr (7, [.ref h1_, .int 0, .ref h3_, .int 0, .ref h5_, .ref h6_, .int 0, .ref h8_, .ref h9_, .ref h10_, .ref h11_, .ref h12_, .ref h13_, .int 0, .ref h15_, .int 0, .ref h17_, .int 0, .int 0]))]) [0] (by decide) rfl
  have hK9 := hK.sub (tys' := []) [] rfl
  refine W.widen (k := 0) (n := 0) (Nat.le_of_ble_eq_true rfl) (Nat.le_of_ble_eq_true rfl) ?_
  exact W.vret hx hb hr (fun t ht hW => ⟨⟨(), rfl, trivial, by rw [ht]; exact hP9, va_K.moved hW.alike hK9, hD9⟩, hS.F ht⟩) hS.2.2 dX7_wipe_35
set_option maxHeartbeats 4000000 in
set_option maxRecDepth 100000 in
theorem s_X7_hasClass (l : Launch) (dC : Nat → ClassId) (dI : Nat → Nat → Nat) (h0_ : Nat) (p1_ : Int32) (h2_ : Nat) (p3_ : Int32) (h4_ : Nat) (p5_ : Int32) (h6_ : Nat) (h7_ : Nat) (p8_ : Int32) (h9_ : Nat) (h10_ : Nat) (h11_ : Nat) (h12_ : Nat) (h13_ : Nat) (h14_ : Nat) (p15_ : Int32) (h16_ : Nat) (p17_ : Int32) (h18_ : Nat) (p19_ : Int32) (p20_ : Int32) (hb_p3_ : 0 ≤ p3_.toInt ∧ p3_.toInt ≤ 8) (hb_p5_ : 0 ≤ p5_.toInt ∧ p5_.toInt ≤ 96) (hb_p8_ : 0 ≤ p8_.toInt ∧ p8_.toInt ≤ 2000) (hb_p15_ : 0 ≤ p15_.toInt ∧ p15_.toInt ≤ 500) (hb_p17_ : 0 ≤ p17_.toInt ∧ p17_.toInt ≤ 420) (hb_p19_ : 0 ≤ p19_.toInt ∧ p19_.toInt ≤ 420) (sz : Nat) : Met l yX7_hasClass (.code yX7_hasClass cX7_hasClass 2 (some .boolean) :: lw_g) ({ frames := 0, cells := 0, slots := 0, locals := 0 }) (va_Pc [.ref h0_, .int p1_] (fun U => U.heap.size = sz ∧ va_P (dC, dI) vwCl [(h0_, .inr (7, [.ref h2_, .int p3_, .ref h4_, .int p5_, .ref h6_, .ref h7_, .int p8_, .ref h9_, .ref h10_, .ref h11_, .ref h12_, .ref h13_, .ref h14_, .int p15_, .ref h16_, .int p17_, .ref h18_, .int p19_, .int p20_]))] U.heap ∧ va_K (dC, dI) vwCl [] U ∧ va_D (fun _ => True) [(h0_, .inr (7, [.ref h2_, .int p3_, .ref h4_, .int p5_, .ref h6_, .ref h7_, .int p8_, .ref h9_, .ref h10_, .ref h11_, .ref h12_, .ref h13_, .ref h14_, .int p15_, .ref h16_, .int p17_, .ref h18_, .int p19_, .int p20_]))])) (va_Qi (fun (r : Int32) (_ : Unit) => 0 ≤ r.toInt ∧ r.toInt ≤ 1) (fun (_ : Unit) (t : State) => va_P (dC, dI) vwCl [(h0_, .inr (7, [.ref h2_, .int p3_, .ref h4_, .int p5_, .ref h6_, .ref h7_, .int p8_, .ref h9_, .ref h10_, .ref h11_, .ref h12_, .ref h13_, .ref h14_, .int p15_, .ref h16_, .int p17_, .ref h18_, .int p19_, .int p20_]))] t.heap ∧ va_K (dC, dI) vwCl [] t ∧ va_D (va_A [(h0_, .inr (7, [.ref h2_, .int p3_, .ref h4_, .int p5_, .ref h6_, .ref h7_, .int p8_, .ref h9_, .ref h10_, .ref h11_, .ref h12_, .ref h13_, .ref h14_, .int p15_, .ref h16_, .int p17_, .ref h18_, .int p19_, .int p20_]))] sz) [(h0_, .inr (7, [.ref h2_, .int p3_, .ref h4_, .int p5_, .ref h6_, .ref h7_, .int p8_, .ref h9_, .ref h10_, .ref h11_, .ref h12_, .ref h13_, .ref h14_, .int p15_, .ref h16_, .int p17_, .ref h18_, .int p19_, .int p20_]))]) (va_A [(h0_, .inr (7, [.ref h2_, .int p3_, .ref h4_, .int p5_, .ref h6_, .ref h7_, .int p8_, .ref h9_, .ref h10_, .ref h11_, .ref h12_, .ref h13_, .ref h14_, .int p15_, .ref h16_, .int p17_, .ref h18_, .int p19_, .int p20_]))] sz)) 0 0 (va_A [(h0_, .inr (7, [.ref h2_, .int p3_, .ref h4_, .int p5_, .ref h6_, .ref h7_, .int p8_, .ref h9_, .ref h10_, .ref h11_, .ref h12_, .ref h13_, .ref h14_, .int p15_, .ref h16_, .int p17_, .ref h18_, .int p19_, .int p20_]))] sz) := by
  refine Met.ofW (cc := cX7_hasClass) (maxL := 2) (ret := (some .boolean)) (by decide) rfl ?_
  intro p e s m args below meth c s₁ B hml hv
  obtain ⟨rfl, hsz, hP, hK, hD0⟩ := hv
  have hx := B.exec
  have hb := B.bytes
  have hr := B.returns
  have hts := atoms_spec (ws := (.code yX7_hasClass cX7_hasClass 2 (some .boolean) :: lw_g)) B.pre
  have hown : s.vm.findClass RX7 = some m.cls := findClass_of_methodNamed B.named
  have hlocks := B.notSynchronized
  subst hsz
  have hD := hD0.self (sz := s.heap.size)
  generalize hAe : va_A [(h0_, .inr (7, [.ref h2_, .int p3_, .ref h4_, .int p5_, .ref h6_, .ref h7_, .int p8_, .ref h9_, .ref h10_, .ref h11_, .ref h12_, .ref h13_, .ref h14_, .int p15_, .ref h16_, .int p17_, .ref h18_, .int p19_, .int p20_]))] s.heap.size = A at hD ⊢
  have hA : ∀ q : Nat, s.heap.size ≤ q → A q := fun q h => by rw [← hAe]; exact Or.inr h
  have hS : va_S A s.heap s.heap [] := va_S.rf
  have hP : va_P (dC, dI) vwCl [(h0_, .inr (7, [.ref h2_, .int p3_, .ref h4_, .int p5_, .ref h6_, .ref h7_, .int p8_, .ref h9_, .ref h10_, .ref h11_, .ref h12_, .ref h13_, .ref h14_, .int p15_, .ref h16_, .int p17_, .ref h18_, .int p19_, .int p20_]))] s.heap := hP
  have hl := lv_entry ([.ref h0_, .int p1_]) (n := 2) (Nat.le_of_ble_eq_true rfl)
  rw [lg_entry_eq]
  generalize (lg_sl ([.ref h0_, .int p1_]) ++ List.replicate (2 - (lg_sl ([.ref h0_, .int p1_])).length) Slot.unset).toArray = ls at hl ⊢
  have hl : lv_has ls 2 [(0, .ref h0_), (1, .int p1_)] := hl
  refine lv_iload_n hx hb dX7_hasClass_0 rfl (lv_at hl 1 rfl) ?_
  have kc_0 : (0 : Int32).toInt = 0 := by decide
  refine lv_if_lt (tgt := 16) hx hb dX7_hasClass_1 (by decide) (fun c_1 => ?_) (fun c_1 => ?_)
  · have fc_1 := lt_f c_1
    refine lv_iconst (v := 0) hx hb dX7_hasClass_16 (by decide) ?_
    have hP9 := hP.sub (ws' := [(h0_, .inr (7, [.ref h2_, .int p3_, .ref h4_, .int p5_, .ref h6_, .ref h7_, .int p8_, .ref h9_, .ref h10_, .ref h11_, .ref h12_, .ref h13_, .ref h14_, .int p15_, .ref h16_, .int p17_, .ref h18_, .int p19_, .int p20_]))]) [0] rfl
    have hD9 := hD.sub (ws' := [(h0_, .inr (7, [.ref h2_, .int p3_, .ref h4_, .int p5_, .ref h6_, .ref h7_, .int p8_, .ref h9_, .ref h10_, .ref h11_, .ref h12_, .ref h13_, .ref h14_, .int p15_, .ref h16_, .int p17_, .ref h18_, .int p19_, .int p20_]))]) [0] (by decide) rfl
    have hK9 := hK.sub (tys' := []) [] rfl
    refine W.widen (k := 0) (n := 0) (Nat.le_of_ble_eq_true rfl) (Nat.le_of_ble_eq_true rfl) ?_
    exact W.zret (v := 0) hx hb hr rfl (fun t ht hW => ⟨⟨_, (), rfl, ⟨by decide, by decide⟩, by rw [ht]; exact hP9, va_K.moved hW.alike hK9, hD9⟩, hS.F ht⟩) hS.2.2 dX7_hasClass_17
  · have fc_1 := nlt_f c_1
    refine lv_iload_n hx hb dX7_hasClass_4 rfl (lv_at hl 1 rfl) ?_
    refine lv_aload_n hx hb dX7_hasClass_5 rfl (lv_at hl 0 rfl) ?_
    refine va_get (D := (dC, dI)) (ci := 7) (v := .int p3_) (C := RX7) (T := TX7) (N := 19) hx hb hts (mc_ inX7) hown hK hP 0 rfl rfl 1 (by decide) (hts _ (List.mem_cons_of_mem _ t_626)) (fun _ h9 => h9) rfl dX7_hasClass_6 ?_
    refine lv_icmp_ge (tgt := 16) hx hb dX7_hasClass_9 (by decide) (fun c_2 => ?_) (fun c_2 => ?_)
    · have fc_2 := le_f c_2
      refine lv_iconst (v := 0) hx hb dX7_hasClass_16 (by decide) ?_
      have hP9 := hP.sub (ws' := [(h0_, .inr (7, [.ref h2_, .int p3_, .ref h4_, .int p5_, .ref h6_, .ref h7_, .int p8_, .ref h9_, .ref h10_, .ref h11_, .ref h12_, .ref h13_, .ref h14_, .int p15_, .ref h16_, .int p17_, .ref h18_, .int p19_, .int p20_]))]) [0] rfl
      have hD9 := hD.sub (ws' := [(h0_, .inr (7, [.ref h2_, .int p3_, .ref h4_, .int p5_, .ref h6_, .ref h7_, .int p8_, .ref h9_, .ref h10_, .ref h11_, .ref h12_, .ref h13_, .ref h14_, .int p15_, .ref h16_, .int p17_, .ref h18_, .int p19_, .int p20_]))]) [0] (by decide) rfl
      have hK9 := hK.sub (tys' := []) [] rfl
      refine W.widen (k := 0) (n := 0) (Nat.le_of_ble_eq_true rfl) (Nat.le_of_ble_eq_true rfl) ?_
      exact W.zret (v := 0) hx hb hr rfl (fun t ht hW => ⟨⟨_, (), rfl, ⟨by decide, by decide⟩, by rw [ht]; exact hP9, va_K.moved hW.alike hK9, hD9⟩, hS.F ht⟩) hS.2.2 dX7_hasClass_17
    · have fc_2 := nle_f c_2
      refine lv_iconst (v := 1) hx hb dX7_hasClass_12 (by decide) ?_
      refine lv_goto (tgt := 17) hx hb dX7_hasClass_13 (by decide) ?_
      have hP9 := hP.sub (ws' := [(h0_, .inr (7, [.ref h2_, .int p3_, .ref h4_, .int p5_, .ref h6_, .ref h7_, .int p8_, .ref h9_, .ref h10_, .ref h11_, .ref h12_, .ref h13_, .ref h14_, .int p15_, .ref h16_, .int p17_, .ref h18_, .int p19_, .int p20_]))]) [0] rfl
      have hD9 := hD.sub (ws' := [(h0_, .inr (7, [.ref h2_, .int p3_, .ref h4_, .int p5_, .ref h6_, .ref h7_, .int p8_, .ref h9_, .ref h10_, .ref h11_, .ref h12_, .ref h13_, .ref h14_, .int p15_, .ref h16_, .int p17_, .ref h18_, .int p19_, .int p20_]))]) [0] (by decide) rfl
      have hK9 := hK.sub (tys' := []) [] rfl
      refine W.widen (k := 0) (n := 0) (Nat.le_of_ble_eq_true rfl) (Nat.le_of_ble_eq_true rfl) ?_
      exact W.zret (v := 1) hx hb hr rfl (fun t ht hW => ⟨⟨_, (), rfl, ⟨by decide, by decide⟩, by rw [ht]; exact hP9, va_K.moved hW.alike hK9, hD9⟩, hS.F ht⟩) hS.2.2 dX7_hasClass_17
set_option maxHeartbeats 4000000 in
set_option maxRecDepth 100000 in
theorem s_X7_emit (l : Launch) (dC : Nat → ClassId) (dI : Nat → Nat → Nat) (h0_ : Nat) (p1_ : Int32) (p2_ : Int32) (h3_ : Nat) (p4_ : Int32) (h5_ : Nat) (p6_ : Int32) (h7_ : Nat) (h8_ : Nat) (p9_ : Int32) (h10_ : Nat) (h11_ : Nat) (h12_ : Nat) (h13_ : Nat) (h14_ : Nat) (h15_ : Nat) (p16_ : Int32) (h17_ : Nat) (p18_ : Int32) (h19_ : Nat) (p20_ : Int32) (p21_ : Int32) (k22_ : ClassId) (f23_ : Nat → Int32) (k24_ : ClassId) (f25_ : Nat → Int32) (hb_p4_ : 0 ≤ p4_.toInt ∧ p4_.toInt ≤ 8) (hb_p6_ : 0 ≤ p6_.toInt ∧ p6_.toInt ≤ 96) (hb_p9_ : 0 ≤ p9_.toInt ∧ p9_.toInt ≤ 2000) (hb_p16_ : 0 ≤ p16_.toInt ∧ p16_.toInt ≤ 500) (hb_p18_ : 0 ≤ p18_.toInt ∧ p18_.toInt ≤ 420) (hb_p20_ : 0 ≤ p20_.toInt ∧ p20_.toInt ≤ 420) (sz : Nat) : Met l yX7_emit (.code yX7_emit cX7_emit 3 none :: lw_g) ({ frames := 0, cells := 0, slots := 0, locals := 0 }) (va_Pc [.ref h0_, .int p1_, .int p2_] (fun U => U.heap.size = sz ∧ va_P (dC, dI) vwCl [(h0_, .inr (7, [.ref h3_, .int p4_, .ref h5_, .int p6_, .ref h7_, .ref h8_, .int p9_, .ref h10_, .ref h11_, .ref h12_, .ref h13_, .ref h14_, .ref h15_, .int p16_, .ref h17_, .int p18_, .ref h19_, .int p20_, .int p21_])), (h7_, .inl (k22_, 2000, .inl f23_)), (h8_, .inl (k24_, 2000, .inl f25_))] U.heap ∧ va_K (dC, dI) vwCl [(k22_, .int), (k24_, .int)] U ∧ va_D (fun _ => True) [(h0_, .inr (7, [.ref h3_, .int p4_, .ref h5_, .int p6_, .ref h7_, .ref h8_, .int p9_, .ref h10_, .ref h11_, .ref h12_, .ref h13_, .ref h14_, .ref h15_, .int p16_, .ref h17_, .int p18_, .ref h19_, .int p20_, .int p21_])), (h7_, .inl (k22_, 2000, .inl f23_)), (h8_, .inl (k24_, 2000, .inl f25_))])) (va_Qv (fun _ : Unit => True) (fun (_ : Unit) (t : State) => ∃ z0 : Int32, ∃ z1 : Nat → Int32, ∃ z2 : Nat → Int32, (0 ≤ z0.toInt ∧ z0.toInt ≤ 2000) ∧ va_P (dC, dI) vwCl [(h0_, .inr (7, [.ref h3_, .int p4_, .ref h5_, .int p6_, .ref h7_, .ref h8_, .int z0, .ref h10_, .ref h11_, .ref h12_, .ref h13_, .ref h14_, .ref h15_, .int p16_, .ref h17_, .int p18_, .ref h19_, .int p20_, .int p21_])), (h7_, .inl (k22_, 2000, .inl z1)), (h8_, .inl (k24_, 2000, .inl z2))] t.heap ∧ va_K (dC, dI) vwCl [(k22_, .int), (k24_, .int)] t ∧ va_D (va_A [(h0_, .inr (7, [.ref h3_, .int p4_, .ref h5_, .int p6_, .ref h7_, .ref h8_, .int p9_, .ref h10_, .ref h11_, .ref h12_, .ref h13_, .ref h14_, .ref h15_, .int p16_, .ref h17_, .int p18_, .ref h19_, .int p20_, .int p21_])), (h7_, .inl (k22_, 2000, .inl f23_)), (h8_, .inl (k24_, 2000, .inl f25_))] sz) [(h0_, .inr (7, [.ref h3_, .int p4_, .ref h5_, .int p6_, .ref h7_, .ref h8_, .int z0, .ref h10_, .ref h11_, .ref h12_, .ref h13_, .ref h14_, .ref h15_, .int p16_, .ref h17_, .int p18_, .ref h19_, .int p20_, .int p21_])), (h7_, .inl (k22_, 2000, .inl z1)), (h8_, .inl (k24_, 2000, .inl z2))]) (va_A [(h0_, .inr (7, [.ref h3_, .int p4_, .ref h5_, .int p6_, .ref h7_, .ref h8_, .int p9_, .ref h10_, .ref h11_, .ref h12_, .ref h13_, .ref h14_, .ref h15_, .int p16_, .ref h17_, .int p18_, .ref h19_, .int p20_, .int p21_])), (h7_, .inl (k22_, 2000, .inl f23_)), (h8_, .inl (k24_, 2000, .inl f25_))] sz)) 0 0 (va_A [(h0_, .inr (7, [.ref h3_, .int p4_, .ref h5_, .int p6_, .ref h7_, .ref h8_, .int p9_, .ref h10_, .ref h11_, .ref h12_, .ref h13_, .ref h14_, .ref h15_, .int p16_, .ref h17_, .int p18_, .ref h19_, .int p20_, .int p21_])), (h7_, .inl (k22_, 2000, .inl f23_)), (h8_, .inl (k24_, 2000, .inl f25_))] sz) := by
  refine Met.ofW (cc := cX7_emit) (maxL := 3) (ret := none) (by decide) rfl ?_
  intro p e s m args below meth c s₁ B hml hv
  obtain ⟨rfl, hsz, hP, hK, hD0⟩ := hv
  have hx := B.exec
  have hb := B.bytes
  have hr := B.returns
  have hts := atoms_spec (ws := (.code yX7_emit cX7_emit 3 none :: lw_g)) B.pre
  have hown : s.vm.findClass RX7 = some m.cls := findClass_of_methodNamed B.named
  have hlocks := B.notSynchronized
  subst hsz
  have hD := hD0.self (sz := s.heap.size)
  generalize hAe : va_A [(h0_, .inr (7, [.ref h3_, .int p4_, .ref h5_, .int p6_, .ref h7_, .ref h8_, .int p9_, .ref h10_, .ref h11_, .ref h12_, .ref h13_, .ref h14_, .ref h15_, .int p16_, .ref h17_, .int p18_, .ref h19_, .int p20_, .int p21_])), (h7_, .inl (k22_, 2000, .inl f23_)), (h8_, .inl (k24_, 2000, .inl f25_))] s.heap.size = A at hD ⊢
  have hA : ∀ q : Nat, s.heap.size ≤ q → A q := fun q h => by rw [← hAe]; exact Or.inr h
  have hS : va_S A s.heap s.heap [] := va_S.rf
  have hP : va_P (dC, dI) vwCl [(h0_, .inr (7, [.ref h3_, .int p4_, .ref h5_, .int p6_, .ref h7_, .ref h8_, .int p9_, .ref h10_, .ref h11_, .ref h12_, .ref h13_, .ref h14_, .ref h15_, .int p16_, .ref h17_, .int p18_, .ref h19_, .int p20_, .int p21_])), (h7_, .inl (k22_, 2000, .inl f23_)), (h8_, .inl (k24_, 2000, .inl f25_))] s.heap := hP
  have hl := lv_entry ([.ref h0_, .int p1_, .int p2_]) (n := 3) (Nat.le_of_ble_eq_true rfl)
  rw [lg_entry_eq]
  generalize (lg_sl ([.ref h0_, .int p1_, .int p2_]) ++ List.replicate (3 - (lg_sl ([.ref h0_, .int p1_, .int p2_])).length) Slot.unset).toArray = ls at hl ⊢
  have hl : lv_has ls 3 [(0, .ref h0_), (1, .int p1_), (2, .int p2_)] := hl
  refine lv_aload_n hx hb dX7_emit_0 rfl (lv_at hl 0 rfl) ?_
  refine va_get (D := (dC, dI)) (ci := 7) (v := .int p9_) (C := RX7) (T := TX7) (N := 19) hx hb hts (mc_ inX7) hown hK hP 0 rfl rfl 6 (by decide) (hts _ (List.mem_cons_of_mem _ t_644)) (fun _ h9 => h9) rfl dX7_emit_1 ?_
  refine lv_sipush (v := 2000) hx hb dX7_emit_4 (by decide) ?_
  have kc_2000 : (2000 : Int32).toInt = 2000 := by decide
  refine lv_icmp_ge (tgt := 40) hx hb dX7_emit_7 (by decide) (fun c_1 => ?_) (fun c_1 => ?_)
  · have fc_1 := le_f c_1
    have hP9 := hP.sub (ws' := [(h0_, .inr (7, [.ref h3_, .int p4_, .ref h5_, .int p6_, .ref h7_, .ref h8_, .int p9_, .ref h10_, .ref h11_, .ref h12_, .ref h13_, .ref h14_, .ref h15_, .int p16_, .ref h17_, .int p18_, .ref h19_, .int p20_, .int p21_])), (h7_, .inl (k22_, 2000, .inl f23_)), (h8_, .inl (k24_, 2000, .inl f25_))]) [0, 1, 2] rfl
    have hD9 := hD.sub (ws' := [(h0_, .inr (7, [.ref h3_, .int p4_, .ref h5_, .int p6_, .ref h7_, .ref h8_, .int p9_, .ref h10_, .ref h11_, .ref h12_, .ref h13_, .ref h14_, .ref h15_, .int p16_, .ref h17_, .int p18_, .ref h19_, .int p20_, .int p21_])), (h7_, .inl (k22_, 2000, .inl f23_)), (h8_, .inl (k24_, 2000, .inl f25_))]) [0, 1, 2] (by decide) rfl
    have hK9 := hK.sub (tys' := [(k22_, .int), (k24_, .int)]) [0, 1] rfl
    refine W.widen (k := 0) (n := 0) (Nat.le_of_ble_eq_true rfl) (Nat.le_of_ble_eq_true rfl) ?_
    exact W.vret hx hb hr (fun t ht hW => ⟨⟨(), rfl, trivial, p9_, f23_, f25_, ⟨by omega, by omega⟩, by rw [ht]; exact hP9, va_K.moved hW.alike hK9, hD9⟩, hS.F ht⟩) hS.2.2 dX7_emit_40
  · have fc_1 := nle_f c_1
    refine lv_aload_n hx hb dX7_emit_10 rfl (lv_at hl 0 rfl) ?_
    refine va_get (D := (dC, dI)) (ci := 7) (v := .ref h7_) (C := RX7) (T := TX7) (N := 19) hx hb hts (mc_ inX7) hown hK hP 0 rfl rfl 4 (by decide) (hts _ (List.mem_cons_of_mem _ t_640)) (fun _ h9 => h9) rfl dX7_emit_11 ?_
    refine lv_aload_n hx hb dX7_emit_14 rfl (lv_at hl 0 rfl) ?_
    refine va_get (D := (dC, dI)) (ci := 7) (v := .int p9_) (C := RX7) (T := TX7) (N := 19) hx hb hts (mc_ inX7) hown hK hP 0 rfl rfl 6 (by decide) (hts _ (List.mem_cons_of_mem _ t_644)) (fun _ h9 => h9) rfl dX7_emit_15 ?_
    refine lv_iload_n hx hb dX7_emit_18 rfl (lv_at hl 1 rfl) ?_
    refine va_iast hx hb hK hP hD hS 1 0 rfl rfl (in_ok (by omega) (by omega)) dX7_emit_19 (fun H locs hP hD hS => ?_)
    have hP : va_P (dC, dI) vwCl [(h0_, .inr (7, [.ref h3_, .int p4_, .ref h5_, .int p6_, .ref h7_, .ref h8_, .int p9_, .ref h10_, .ref h11_, .ref h12_, .ref h13_, .ref h14_, .ref h15_, .int p16_, .ref h17_, .int p18_, .ref h19_, .int p20_, .int p21_])), (h7_, .inl (k22_, 2000, .inl (upd f23_ (p9_ : Int32).toNatClampNeg p1_))), (h8_, .inl (k24_, 2000, .inl f25_))] H := hP
    have hD : va_D A [(h0_, .inr (7, [.ref h3_, .int p4_, .ref h5_, .int p6_, .ref h7_, .ref h8_, .int p9_, .ref h10_, .ref h11_, .ref h12_, .ref h13_, .ref h14_, .ref h15_, .int p16_, .ref h17_, .int p18_, .ref h19_, .int p20_, .int p21_])), (h7_, .inl (k22_, 2000, .inl (upd f23_ (p9_ : Int32).toNatClampNeg p1_))), (h8_, .inl (k24_, 2000, .inl f25_))] := hD
    generalize (upd f23_ (p9_ : Int32).toNatClampNeg p1_) = f_2 at hP hD
    refine lv_aload_n hx hb dX7_emit_20 rfl (lv_at hl 0 rfl) ?_
    refine va_get (D := (dC, dI)) (ci := 7) (v := .ref h8_) (C := RX7) (T := TX7) (N := 19) hx hb hts (mc_ inX7) hown hK hP 0 rfl rfl 5 (by decide) (hts _ (List.mem_cons_of_mem _ t_642)) (fun _ h9 => h9) rfl dX7_emit_21 ?_
    refine lv_aload_n hx hb dX7_emit_24 rfl (lv_at hl 0 rfl) ?_
    refine va_get (D := (dC, dI)) (ci := 7) (v := .int p9_) (C := RX7) (T := TX7) (N := 19) hx hb hts (mc_ inX7) hown hK hP 0 rfl rfl 6 (by decide) (hts _ (List.mem_cons_of_mem _ t_644)) (fun _ h9 => h9) rfl dX7_emit_25 ?_
    refine lv_iload_n hx hb dX7_emit_28 rfl (lv_at hl 2 rfl) ?_
    refine va_iast hx hb hK hP hD hS 2 1 rfl rfl (in_ok (by omega) (by omega)) dX7_emit_29 (fun H locs hP hD hS => ?_)
    have hP : va_P (dC, dI) vwCl [(h0_, .inr (7, [.ref h3_, .int p4_, .ref h5_, .int p6_, .ref h7_, .ref h8_, .int p9_, .ref h10_, .ref h11_, .ref h12_, .ref h13_, .ref h14_, .ref h15_, .int p16_, .ref h17_, .int p18_, .ref h19_, .int p20_, .int p21_])), (h7_, .inl (k22_, 2000, .inl f_2)), (h8_, .inl (k24_, 2000, .inl (upd f25_ (p9_ : Int32).toNatClampNeg p2_)))] H := hP
    have hD : va_D A [(h0_, .inr (7, [.ref h3_, .int p4_, .ref h5_, .int p6_, .ref h7_, .ref h8_, .int p9_, .ref h10_, .ref h11_, .ref h12_, .ref h13_, .ref h14_, .ref h15_, .int p16_, .ref h17_, .int p18_, .ref h19_, .int p20_, .int p21_])), (h7_, .inl (k22_, 2000, .inl f_2)), (h8_, .inl (k24_, 2000, .inl (upd f25_ (p9_ : Int32).toNatClampNeg p2_)))] := hD
    generalize (upd f25_ (p9_ : Int32).toNatClampNeg p2_) = f_3 at hP hD
    refine lv_aload_n hx hb dX7_emit_30 rfl (lv_at hl 0 rfl) ?_
    refine lv_dup hx hb dX7_emit_31 rfl ?_
    refine va_get (D := (dC, dI)) (ci := 7) (v := .int p9_) (C := RX7) (T := TX7) (N := 19) hx hb hts (mc_ inX7) hown hK hP 0 rfl rfl 6 (by decide) (hts _ (List.mem_cons_of_mem _ t_644)) (fun _ h9 => h9) rfl dX7_emit_32 ?_
    refine lv_iconst (v := 1) hx hb dX7_emit_35 (by decide) ?_
    have kc_1 : (1 : Int32).toInt = 1 := by decide
    refine lv_iadd hx hb dX7_emit_36 ?_
    refine lv_topi (fun y_4 ey_4 => ?_)
    have ty_4 : y_4.toInt = p9_.toInt + (1 : Int32).toInt := by rw [ey_4]; exact add_ok (by omega) (by omega)
    have b_5 : 1 ≤ y_4.toInt ∧ y_4.toInt ≤ 2000 := by omega
    refine va_put (D := (dC, dI)) (ci := 7) (v := .int y_4) (ty := tyX7 6) (C := RX7) (T := TX7) (N := 19) hx hb hts (mc_ inX7) tyX7 tyX7_ok nmX7 hown hK hP hD hS 0 rfl rfl 6 (by decide) (hts _ (List.mem_cons_of_mem _ t_644)) (fun _ h9 => h9) rfl (by decide +kernel) rfl rfl (Nat.le_of_ble_eq_true rfl) dX7_emit_37 (fun H locs hP hD hS => ?_)
    have hP : va_P (dC, dI) vwCl [(h0_, .inr (7, [.ref h3_, .int p4_, .ref h5_, .int p6_, .ref h7_, .ref h8_, .int y_4, .ref h10_, .ref h11_, .ref h12_, .ref h13_, .ref h14_, .ref h15_, .int p16_, .ref h17_, .int p18_, .ref h19_, .int p20_, .int p21_])), (h7_, .inl (k22_, 2000, .inl f_2)), (h8_, .inl (k24_, 2000, .inl f_3))] H := hP
    have hD : va_D A [(h0_, .inr (7, [.ref h3_, .int p4_, .ref h5_, .int p6_, .ref h7_, .ref h8_, .int y_4, .ref h10_, .ref h11_, .ref h12_, .ref h13_, .ref h14_, .ref h15_, .int p16_, .ref h17_, .int p18_, .ref h19_, .int p20_, .int p21_])), (h7_, .inl (k22_, 2000, .inl f_2)), (h8_, .inl (k24_, 2000, .inl f_3))] := hD
    have hP9 := hP.sub (ws' := [(h0_, .inr (7, [.ref h3_, .int p4_, .ref h5_, .int p6_, .ref h7_, .ref h8_, .int y_4, .ref h10_, .ref h11_, .ref h12_, .ref h13_, .ref h14_, .ref h15_, .int p16_, .ref h17_, .int p18_, .ref h19_, .int p20_, .int p21_])), (h7_, .inl (k22_, 2000, .inl f_2)), (h8_, .inl (k24_, 2000, .inl f_3))]) [0, 1, 2] rfl
    have hD9 := hD.sub (ws' := [(h0_, .inr (7, [.ref h3_, .int p4_, .ref h5_, .int p6_, .ref h7_, .ref h8_, .int y_4, .ref h10_, .ref h11_, .ref h12_, .ref h13_, .ref h14_, .ref h15_, .int p16_, .ref h17_, .int p18_, .ref h19_, .int p20_, .int p21_])), (h7_, .inl (k22_, 2000, .inl f_2)), (h8_, .inl (k24_, 2000, .inl f_3))]) [0, 1, 2] (by decide) rfl
    have hK9 := hK.sub (tys' := [(k22_, .int), (k24_, .int)]) [0, 1] rfl
    refine W.widen (k := 0) (n := 0) (Nat.le_of_ble_eq_true rfl) (Nat.le_of_ble_eq_true rfl) ?_
    exact W.vret hx hb hr (fun t ht hW => ⟨⟨(), rfl, trivial, y_4, f_2, f_3, ⟨by omega, by omega⟩, by rw [ht]; exact hP9, va_K.moved hW.alike hK9, hD9⟩, hS.F ht⟩) hS.2.2 dX7_emit_40
set_option maxHeartbeats 4000000 in
set_option maxRecDepth 100000 in
theorem s_X7_leadHere (l : Launch) (dC : Nat → ClassId) (dI : Nat → Nat → Nat) (h0_ : Nat) (p1_ : Int32) (h2_ : Nat) (p3_ : Int32) (h4_ : Nat) (p5_ : Int32) (h6_ : Nat) (h7_ : Nat) (p8_ : Int32) (h9_ : Nat) (h10_ : Nat) (h11_ : Nat) (h12_ : Nat) (h13_ : Nat) (h14_ : Nat) (p15_ : Int32) (h16_ : Nat) (p17_ : Int32) (h18_ : Nat) (p19_ : Int32) (p20_ : Int32) (k21_ : ClassId) (f22_ : Nat → Int32) (hb_p3_ : 0 ≤ p3_.toInt ∧ p3_.toInt ≤ 8) (hb_p5_ : 0 ≤ p5_.toInt ∧ p5_.toInt ≤ 96) (hb_p8_ : 0 ≤ p8_.toInt ∧ p8_.toInt ≤ 2000) (hb_p15_ : 0 ≤ p15_.toInt ∧ p15_.toInt ≤ 500) (hb_p17_ : 0 ≤ p17_.toInt ∧ p17_.toInt ≤ 420) (hb_p19_ : 0 ≤ p19_.toInt ∧ p19_.toInt ≤ 420) (sz : Nat) : Met l yX7_leadHere (.code yX7_leadHere cX7_leadHere 2 none :: lw_g) ({ frames := 0, cells := 0, slots := 0, locals := 0 }) (va_Pc [.ref h0_, .int p1_] (fun U => U.heap.size = sz ∧ va_P (dC, dI) vwCl [(h0_, .inr (7, [.ref h2_, .int p3_, .ref h4_, .int p5_, .ref h6_, .ref h7_, .int p8_, .ref h9_, .ref h10_, .ref h11_, .ref h12_, .ref h13_, .ref h14_, .int p15_, .ref h16_, .int p17_, .ref h18_, .int p19_, .int p20_])), (h7_, .inl (k21_, 2000, .inl f22_))] U.heap ∧ va_K (dC, dI) vwCl [(k21_, .int)] U ∧ va_D (fun _ => True) [(h0_, .inr (7, [.ref h2_, .int p3_, .ref h4_, .int p5_, .ref h6_, .ref h7_, .int p8_, .ref h9_, .ref h10_, .ref h11_, .ref h12_, .ref h13_, .ref h14_, .int p15_, .ref h16_, .int p17_, .ref h18_, .int p19_, .int p20_])), (h7_, .inl (k21_, 2000, .inl f22_))])) (va_Qv (fun _ : Unit => True) (fun (_ : Unit) (t : State) => ∃ z0 : Nat → Int32, va_P (dC, dI) vwCl [(h0_, .inr (7, [.ref h2_, .int p3_, .ref h4_, .int p5_, .ref h6_, .ref h7_, .int p8_, .ref h9_, .ref h10_, .ref h11_, .ref h12_, .ref h13_, .ref h14_, .int p15_, .ref h16_, .int p17_, .ref h18_, .int p19_, .int p20_])), (h7_, .inl (k21_, 2000, .inl z0))] t.heap ∧ va_K (dC, dI) vwCl [(k21_, .int)] t ∧ va_D (va_A [(h0_, .inr (7, [.ref h2_, .int p3_, .ref h4_, .int p5_, .ref h6_, .ref h7_, .int p8_, .ref h9_, .ref h10_, .ref h11_, .ref h12_, .ref h13_, .ref h14_, .int p15_, .ref h16_, .int p17_, .ref h18_, .int p19_, .int p20_])), (h7_, .inl (k21_, 2000, .inl f22_))] sz) [(h0_, .inr (7, [.ref h2_, .int p3_, .ref h4_, .int p5_, .ref h6_, .ref h7_, .int p8_, .ref h9_, .ref h10_, .ref h11_, .ref h12_, .ref h13_, .ref h14_, .int p15_, .ref h16_, .int p17_, .ref h18_, .int p19_, .int p20_])), (h7_, .inl (k21_, 2000, .inl z0))]) (va_A [(h0_, .inr (7, [.ref h2_, .int p3_, .ref h4_, .int p5_, .ref h6_, .ref h7_, .int p8_, .ref h9_, .ref h10_, .ref h11_, .ref h12_, .ref h13_, .ref h14_, .int p15_, .ref h16_, .int p17_, .ref h18_, .int p19_, .int p20_])), (h7_, .inl (k21_, 2000, .inl f22_))] sz)) 0 0 (va_A [(h0_, .inr (7, [.ref h2_, .int p3_, .ref h4_, .int p5_, .ref h6_, .ref h7_, .int p8_, .ref h9_, .ref h10_, .ref h11_, .ref h12_, .ref h13_, .ref h14_, .int p15_, .ref h16_, .int p17_, .ref h18_, .int p19_, .int p20_])), (h7_, .inl (k21_, 2000, .inl f22_))] sz) := by
  refine Met.ofW (cc := cX7_leadHere) (maxL := 2) (ret := none) (by decide) rfl ?_
  intro p e s m args below meth c s₁ B hml hv
  obtain ⟨rfl, hsz, hP, hK, hD0⟩ := hv
  have hx := B.exec
  have hb := B.bytes
  have hr := B.returns
  have hts := atoms_spec (ws := (.code yX7_leadHere cX7_leadHere 2 none :: lw_g)) B.pre
  have hown : s.vm.findClass RX7 = some m.cls := findClass_of_methodNamed B.named
  have hlocks := B.notSynchronized
  subst hsz
  have hD := hD0.self (sz := s.heap.size)
  generalize hAe : va_A [(h0_, .inr (7, [.ref h2_, .int p3_, .ref h4_, .int p5_, .ref h6_, .ref h7_, .int p8_, .ref h9_, .ref h10_, .ref h11_, .ref h12_, .ref h13_, .ref h14_, .int p15_, .ref h16_, .int p17_, .ref h18_, .int p19_, .int p20_])), (h7_, .inl (k21_, 2000, .inl f22_))] s.heap.size = A at hD ⊢
  have hA : ∀ q : Nat, s.heap.size ≤ q → A q := fun q h => by rw [← hAe]; exact Or.inr h
  have hS : va_S A s.heap s.heap [] := va_S.rf
  have hP : va_P (dC, dI) vwCl [(h0_, .inr (7, [.ref h2_, .int p3_, .ref h4_, .int p5_, .ref h6_, .ref h7_, .int p8_, .ref h9_, .ref h10_, .ref h11_, .ref h12_, .ref h13_, .ref h14_, .int p15_, .ref h16_, .int p17_, .ref h18_, .int p19_, .int p20_])), (h7_, .inl (k21_, 2000, .inl f22_))] s.heap := hP
  have hl := lv_entry ([.ref h0_, .int p1_]) (n := 2) (Nat.le_of_ble_eq_true rfl)
  rw [lg_entry_eq]
  generalize (lg_sl ([.ref h0_, .int p1_]) ++ List.replicate (2 - (lg_sl ([.ref h0_, .int p1_])).length) Slot.unset).toArray = ls at hl ⊢
  have hl : lv_has ls 2 [(0, .ref h0_), (1, .int p1_)] := hl
  refine lv_iload_n hx hb dX7_leadHere_0 rfl (lv_at hl 1 rfl) ?_
  have kc_0 : (0 : Int32).toInt = 0 := by decide
  refine lv_if_lt (tgt := 22) hx hb dX7_leadHere_1 (by decide) (fun c_1 => ?_) (fun c_1 => ?_)
  · have fc_1 := lt_f c_1
    have hP9 := hP.sub (ws' := [(h0_, .inr (7, [.ref h2_, .int p3_, .ref h4_, .int p5_, .ref h6_, .ref h7_, .int p8_, .ref h9_, .ref h10_, .ref h11_, .ref h12_, .ref h13_, .ref h14_, .int p15_, .ref h16_, .int p17_, .ref h18_, .int p19_, .int p20_])), (h7_, .inl (k21_, 2000, .inl f22_))]) [0, 1] rfl
    have hD9 := hD.sub (ws' := [(h0_, .inr (7, [.ref h2_, .int p3_, .ref h4_, .int p5_, .ref h6_, .ref h7_, .int p8_, .ref h9_, .ref h10_, .ref h11_, .ref h12_, .ref h13_, .ref h14_, .int p15_, .ref h16_, .int p17_, .ref h18_, .int p19_, .int p20_])), (h7_, .inl (k21_, 2000, .inl f22_))]) [0, 1] (by decide) rfl
    have hK9 := hK.sub (tys' := [(k21_, .int)]) [0] rfl
    refine W.widen (k := 0) (n := 0) (Nat.le_of_ble_eq_true rfl) (Nat.le_of_ble_eq_true rfl) ?_
    exact W.vret hx hb hr (fun t ht hW => ⟨⟨(), rfl, trivial, f22_, by rw [ht]; exact hP9, va_K.moved hW.alike hK9, hD9⟩, hS.F ht⟩) hS.2.2 dX7_leadHere_22
  · have fc_1 := nlt_f c_1
    refine lv_iload_n hx hb dX7_leadHere_4 rfl (lv_at hl 1 rfl) ?_
    refine lv_aload_n hx hb dX7_leadHere_5 rfl (lv_at hl 0 rfl) ?_
    refine va_get (D := (dC, dI)) (ci := 7) (v := .int p8_) (C := RX7) (T := TX7) (N := 19) hx hb hts (mc_ inX7) hown hK hP 0 rfl rfl 6 (by decide) (hts _ (List.mem_cons_of_mem _ t_644)) (fun _ h9 => h9) rfl dX7_leadHere_6 ?_
    refine lv_icmp_ge (tgt := 22) hx hb dX7_leadHere_9 (by decide) (fun c_2 => ?_) (fun c_2 => ?_)
    · have fc_2 := le_f c_2
      have hP9 := hP.sub (ws' := [(h0_, .inr (7, [.ref h2_, .int p3_, .ref h4_, .int p5_, .ref h6_, .ref h7_, .int p8_, .ref h9_, .ref h10_, .ref h11_, .ref h12_, .ref h13_, .ref h14_, .int p15_, .ref h16_, .int p17_, .ref h18_, .int p19_, .int p20_])), (h7_, .inl (k21_, 2000, .inl f22_))]) [0, 1] rfl
      have hD9 := hD.sub (ws' := [(h0_, .inr (7, [.ref h2_, .int p3_, .ref h4_, .int p5_, .ref h6_, .ref h7_, .int p8_, .ref h9_, .ref h10_, .ref h11_, .ref h12_, .ref h13_, .ref h14_, .int p15_, .ref h16_, .int p17_, .ref h18_, .int p19_, .int p20_])), (h7_, .inl (k21_, 2000, .inl f22_))]) [0, 1] (by decide) rfl
      have hK9 := hK.sub (tys' := [(k21_, .int)]) [0] rfl
      refine W.widen (k := 0) (n := 0) (Nat.le_of_ble_eq_true rfl) (Nat.le_of_ble_eq_true rfl) ?_
      exact W.vret hx hb hr (fun t ht hW => ⟨⟨(), rfl, trivial, f22_, by rw [ht]; exact hP9, va_K.moved hW.alike hK9, hD9⟩, hS.F ht⟩) hS.2.2 dX7_leadHere_22
    · have fc_2 := nle_f c_2
      refine lv_aload_n hx hb dX7_leadHere_12 rfl (lv_at hl 0 rfl) ?_
      refine va_get (D := (dC, dI)) (ci := 7) (v := .ref h7_) (C := RX7) (T := TX7) (N := 19) hx hb hts (mc_ inX7) hown hK hP 0 rfl rfl 5 (by decide) (hts _ (List.mem_cons_of_mem _ t_642)) (fun _ h9 => h9) rfl dX7_leadHere_13 ?_
      refine lv_iload_n hx hb dX7_leadHere_16 rfl (lv_at hl 1 rfl) ?_
      refine lv_aload_n hx hb dX7_leadHere_17 rfl (lv_at hl 0 rfl) ?_
      refine va_get (D := (dC, dI)) (ci := 7) (v := .int p8_) (C := RX7) (T := TX7) (N := 19) hx hb hts (mc_ inX7) hown hK hP 0 rfl rfl 6 (by decide) (hts _ (List.mem_cons_of_mem _ t_644)) (fun _ h9 => h9) rfl dX7_leadHere_18 ?_
      refine va_iast hx hb hK hP hD hS 1 0 rfl rfl (in_ok (by omega) (by omega)) dX7_leadHere_21 (fun H locs hP hD hS => ?_)
      have hP : va_P (dC, dI) vwCl [(h0_, .inr (7, [.ref h2_, .int p3_, .ref h4_, .int p5_, .ref h6_, .ref h7_, .int p8_, .ref h9_, .ref h10_, .ref h11_, .ref h12_, .ref h13_, .ref h14_, .int p15_, .ref h16_, .int p17_, .ref h18_, .int p19_, .int p20_])), (h7_, .inl (k21_, 2000, .inl (upd f22_ (p1_ : Int32).toNatClampNeg p8_)))] H := hP
      have hD : va_D A [(h0_, .inr (7, [.ref h2_, .int p3_, .ref h4_, .int p5_, .ref h6_, .ref h7_, .int p8_, .ref h9_, .ref h10_, .ref h11_, .ref h12_, .ref h13_, .ref h14_, .int p15_, .ref h16_, .int p17_, .ref h18_, .int p19_, .int p20_])), (h7_, .inl (k21_, 2000, .inl (upd f22_ (p1_ : Int32).toNatClampNeg p8_)))] := hD
      generalize (upd f22_ (p1_ : Int32).toNatClampNeg p8_) = f_3 at hP hD
      have hP9 := hP.sub (ws' := [(h0_, .inr (7, [.ref h2_, .int p3_, .ref h4_, .int p5_, .ref h6_, .ref h7_, .int p8_, .ref h9_, .ref h10_, .ref h11_, .ref h12_, .ref h13_, .ref h14_, .int p15_, .ref h16_, .int p17_, .ref h18_, .int p19_, .int p20_])), (h7_, .inl (k21_, 2000, .inl f_3))]) [0, 1] rfl
      have hD9 := hD.sub (ws' := [(h0_, .inr (7, [.ref h2_, .int p3_, .ref h4_, .int p5_, .ref h6_, .ref h7_, .int p8_, .ref h9_, .ref h10_, .ref h11_, .ref h12_, .ref h13_, .ref h14_, .int p15_, .ref h16_, .int p17_, .ref h18_, .int p19_, .int p20_])), (h7_, .inl (k21_, 2000, .inl f_3))]) [0, 1] (by decide) rfl
      have hK9 := hK.sub (tys' := [(k21_, .int)]) [0] rfl
      refine W.widen (k := 0) (n := 0) (Nat.le_of_ble_eq_true rfl) (Nat.le_of_ble_eq_true rfl) ?_
      exact W.vret hx hb hr (fun t ht hW => ⟨⟨(), rfl, trivial, f_3, by rw [ht]; exact hP9, va_K.moved hW.alike hK9, hD9⟩, hS.F ht⟩) hS.2.2 dX7_leadHere_22
set_option maxHeartbeats 4000000 in
set_option maxRecDepth 100000 in
theorem s_X7_addMark (l : Launch) (dC : Nat → ClassId) (dI : Nat → Nat → Nat) (h0_ : Nat) (p1_ : Int32) (p2_ : Int32) (p3_ : Int32) (h4_ : Nat) (p5_ : Int32) (h6_ : Nat) (p7_ : Int32) (h8_ : Nat) (h9_ : Nat) (p10_ : Int32) (h11_ : Nat) (h12_ : Nat) (h13_ : Nat) (h14_ : Nat) (h15_ : Nat) (h16_ : Nat) (p17_ : Int32) (h18_ : Nat) (p19_ : Int32) (h20_ : Nat) (p21_ : Int32) (p22_ : Int32) (k23_ : ClassId) (f24_ : Nat → Int32) (k25_ : ClassId) (f26_ : Nat → Int32) (k27_ : ClassId) (f28_ : Nat → Int32) (k29_ : ClassId) (f30_ : Nat → Int32) (k31_ : ClassId) (f32_ : Nat → Int32) (k33_ : ClassId) (f34_ : Nat → Int64) (hb_p5_ : 0 ≤ p5_.toInt ∧ p5_.toInt ≤ 8) (hb_p7_ : 0 ≤ p7_.toInt ∧ p7_.toInt ≤ 96) (hb_p10_ : 0 ≤ p10_.toInt ∧ p10_.toInt ≤ 2000) (hb_p17_ : 0 ≤ p17_.toInt ∧ p17_.toInt ≤ 500) (hb_p19_ : 0 ≤ p19_.toInt ∧ p19_.toInt ≤ 420) (hb_p21_ : 0 ≤ p21_.toInt ∧ p21_.toInt ≤ 420) (sz : Nat) : Met l yX7_addMark (.code yX7_addMark cX7_addMark 5 (some .int) :: lw_g) ({ frames := 1, cells := 0, slots := 0, locals := 13 }) (va_Pc [.ref h0_, .int p1_, .int p2_, .int p3_] (fun U => U.heap.size = sz ∧ va_P (dC, dI) vwCl [(h0_, .inr (7, [.ref h4_, .int p5_, .ref h6_, .int p7_, .ref h8_, .ref h9_, .int p10_, .ref h11_, .ref h12_, .ref h13_, .ref h14_, .ref h15_, .ref h16_, .int p17_, .ref h18_, .int p19_, .ref h20_, .int p21_, .int p22_])), (h11_, .inl (k23_, 500, .inl f24_)), (h15_, .inl (k31_, 500, .inl f32_)), (h13_, .inl (k27_, 500, .inl f28_)), (h12_, .inl (k25_, 500, .inl f26_)), (h14_, .inl (k29_, 500, .inl f30_)), (h16_, .inl (k33_, 500, .inr (.inl f34_)))] U.heap ∧ va_K (dC, dI) vwCl [(k23_, .int), (k31_, .int), (k27_, .int), (k25_, .int), (k29_, .int), (k33_, .long)] U ∧ va_D (fun _ => True) [(h0_, .inr (7, [.ref h4_, .int p5_, .ref h6_, .int p7_, .ref h8_, .ref h9_, .int p10_, .ref h11_, .ref h12_, .ref h13_, .ref h14_, .ref h15_, .ref h16_, .int p17_, .ref h18_, .int p19_, .ref h20_, .int p21_, .int p22_])), (h11_, .inl (k23_, 500, .inl f24_)), (h15_, .inl (k31_, 500, .inl f32_)), (h13_, .inl (k27_, 500, .inl f28_)), (h12_, .inl (k25_, 500, .inl f26_)), (h14_, .inl (k29_, 500, .inl f30_)), (h16_, .inl (k33_, 500, .inr (.inl f34_)))])) (va_Qi (fun (r : Int32) (_ : Unit) => 0 ≤ r.toInt ∧ r.toInt ≤ 499) (fun (_ : Unit) (t : State) => ∃ z0 : Int32, ∃ z1 : Nat → Int32, ∃ z2 : Nat → Int32, ∃ z3 : Nat → Int32, ∃ z4 : Nat → Int32, ∃ z5 : Nat → Int32, ∃ z6 : Nat → Int64, (0 ≤ z0.toInt ∧ z0.toInt ≤ 500) ∧ va_P (dC, dI) vwCl [(h0_, .inr (7, [.ref h4_, .int p5_, .ref h6_, .int p7_, .ref h8_, .ref h9_, .int p10_, .ref h11_, .ref h12_, .ref h13_, .ref h14_, .ref h15_, .ref h16_, .int z0, .ref h18_, .int p19_, .ref h20_, .int p21_, .int p22_])), (h11_, .inl (k23_, 500, .inl z1)), (h15_, .inl (k31_, 500, .inl z2)), (h13_, .inl (k27_, 500, .inl z3)), (h12_, .inl (k25_, 500, .inl z4)), (h14_, .inl (k29_, 500, .inl z5)), (h16_, .inl (k33_, 500, .inr (.inl z6)))] t.heap ∧ va_K (dC, dI) vwCl [(k23_, .int), (k31_, .int), (k27_, .int), (k25_, .int), (k29_, .int), (k33_, .long)] t ∧ va_D (va_A [(h0_, .inr (7, [.ref h4_, .int p5_, .ref h6_, .int p7_, .ref h8_, .ref h9_, .int p10_, .ref h11_, .ref h12_, .ref h13_, .ref h14_, .ref h15_, .ref h16_, .int p17_, .ref h18_, .int p19_, .ref h20_, .int p21_, .int p22_])), (h11_, .inl (k23_, 500, .inl f24_)), (h15_, .inl (k31_, 500, .inl f32_)), (h13_, .inl (k27_, 500, .inl f28_)), (h12_, .inl (k25_, 500, .inl f26_)), (h14_, .inl (k29_, 500, .inl f30_)), (h16_, .inl (k33_, 500, .inr (.inl f34_)))] sz) [(h0_, .inr (7, [.ref h4_, .int p5_, .ref h6_, .int p7_, .ref h8_, .ref h9_, .int p10_, .ref h11_, .ref h12_, .ref h13_, .ref h14_, .ref h15_, .ref h16_, .int z0, .ref h18_, .int p19_, .ref h20_, .int p21_, .int p22_])), (h11_, .inl (k23_, 500, .inl z1)), (h15_, .inl (k31_, 500, .inl z2)), (h13_, .inl (k27_, 500, .inl z3)), (h12_, .inl (k25_, 500, .inl z4)), (h14_, .inl (k29_, 500, .inl z5)), (h16_, .inl (k33_, 500, .inr (.inl z6)))]) (va_A [(h0_, .inr (7, [.ref h4_, .int p5_, .ref h6_, .int p7_, .ref h8_, .ref h9_, .int p10_, .ref h11_, .ref h12_, .ref h13_, .ref h14_, .ref h15_, .ref h16_, .int p17_, .ref h18_, .int p19_, .ref h20_, .int p21_, .int p22_])), (h11_, .inl (k23_, 500, .inl f24_)), (h15_, .inl (k31_, 500, .inl f32_)), (h13_, .inl (k27_, 500, .inl f28_)), (h12_, .inl (k25_, 500, .inl f26_)), (h14_, .inl (k29_, 500, .inl f30_)), (h16_, .inl (k33_, 500, .inr (.inl f34_)))] sz)) 0 0 (va_A [(h0_, .inr (7, [.ref h4_, .int p5_, .ref h6_, .int p7_, .ref h8_, .ref h9_, .int p10_, .ref h11_, .ref h12_, .ref h13_, .ref h14_, .ref h15_, .ref h16_, .int p17_, .ref h18_, .int p19_, .ref h20_, .int p21_, .int p22_])), (h11_, .inl (k23_, 500, .inl f24_)), (h15_, .inl (k31_, 500, .inl f32_)), (h13_, .inl (k27_, 500, .inl f28_)), (h12_, .inl (k25_, 500, .inl f26_)), (h14_, .inl (k29_, 500, .inl f30_)), (h16_, .inl (k33_, 500, .inr (.inl f34_)))] sz) := by
  refine Met.ofW (cc := cX7_addMark) (maxL := 5) (ret := (some .int)) (by decide) rfl ?_
  intro p e s m args below meth c s₁ B hml hv
  obtain ⟨rfl, hsz, hP, hK, hD0⟩ := hv
  have hx := B.exec
  have hb := B.bytes
  have hr := B.returns
  have hts := atoms_spec (ws := (.code yX7_addMark cX7_addMark 5 (some .int) :: lw_g)) B.pre
  have hown : s.vm.findClass RX7 = some m.cls := findClass_of_methodNamed B.named
  have hlocks := B.notSynchronized
  subst hsz
  have hD := hD0.self (sz := s.heap.size)
  generalize hAe : va_A [(h0_, .inr (7, [.ref h4_, .int p5_, .ref h6_, .int p7_, .ref h8_, .ref h9_, .int p10_, .ref h11_, .ref h12_, .ref h13_, .ref h14_, .ref h15_, .ref h16_, .int p17_, .ref h18_, .int p19_, .ref h20_, .int p21_, .int p22_])), (h11_, .inl (k23_, 500, .inl f24_)), (h15_, .inl (k31_, 500, .inl f32_)), (h13_, .inl (k27_, 500, .inl f28_)), (h12_, .inl (k25_, 500, .inl f26_)), (h14_, .inl (k29_, 500, .inl f30_)), (h16_, .inl (k33_, 500, .inr (.inl f34_)))] s.heap.size = A at hD ⊢
  have hA : ∀ q : Nat, s.heap.size ≤ q → A q := fun q h => by rw [← hAe]; exact Or.inr h
  have hS : va_S A s.heap s.heap [] := va_S.rf
  have hP : va_P (dC, dI) vwCl [(h0_, .inr (7, [.ref h4_, .int p5_, .ref h6_, .int p7_, .ref h8_, .ref h9_, .int p10_, .ref h11_, .ref h12_, .ref h13_, .ref h14_, .ref h15_, .ref h16_, .int p17_, .ref h18_, .int p19_, .ref h20_, .int p21_, .int p22_])), (h11_, .inl (k23_, 500, .inl f24_)), (h15_, .inl (k31_, 500, .inl f32_)), (h13_, .inl (k27_, 500, .inl f28_)), (h12_, .inl (k25_, 500, .inl f26_)), (h14_, .inl (k29_, 500, .inl f30_)), (h16_, .inl (k33_, 500, .inr (.inl f34_)))] s.heap := hP
  have hl := lv_entry ([.ref h0_, .int p1_, .int p2_, .int p3_]) (n := 5) (Nat.le_of_ble_eq_true rfl)
  rw [lg_entry_eq]
  generalize (lg_sl ([.ref h0_, .int p1_, .int p2_, .int p3_]) ++ List.replicate (5 - (lg_sl ([.ref h0_, .int p1_, .int p2_, .int p3_])).length) Slot.unset).toArray = ls at hl ⊢
  have hl : lv_has ls 5 [(0, .ref h0_), (1, .int p1_), (2, .int p2_), (3, .int p3_)] := hl
  refine lv_aload_n hx hb dX7_addMark_0 rfl (lv_at hl 0 rfl) ?_
  refine va_get (D := (dC, dI)) (ci := 7) (v := .int p17_) (C := RX7) (T := TX7) (N := 19) hx hb hts (mc_ inX7) hown hK hP 0 rfl rfl 13 (by decide) (hts _ (List.mem_cons_of_mem _ t_666)) (fun _ h9 => h9) rfl dX7_addMark_1 ?_
  refine lv_sipush (v := 499) hx hb dX7_addMark_4 (by decide) ?_
  have kc_499 : (499 : Int32).toInt = 499 := by decide
  refine va_mmin hx hb (hml.trans hl.1.symm) hown (hts _ (List.mem_cons_of_mem _ t_1177)) (hts _ (List.mem_cons_of_mem _ t_998)) (hts _ (List.mem_cons_of_mem _ t_204)) (hts _ (List.mem_cons_of_mem _ t_999)) (Nat.le_of_ble_eq_true rfl) (Nat.le_of_ble_eq_true rfl) (Nat.le_of_ble_eq_true rfl) (Nat.le_of_ble_eq_true rfl) dX7_addMark_7 ?_
  refine lv_topi (fun y_1 ey_1 => ?_)
  have ty_1 : y_1.toInt = min p17_.toInt (499 : Int32).toInt := by rw [ey_1]; exact mmin_ok _ _
  have b_2 : 0 ≤ y_1.toInt ∧ y_1.toInt ≤ 499 := by omega
  refine lv_istore (lv' := [(4, .int y_1), (0, .ref h0_), (1, .int p1_), (2, .int p2_), (3, .int p3_)]) hx hb dX7_addMark_10 hl (by decide) rfl (fun ls hl => ?_)
  refine lv_aload_n hx hb dX7_addMark_12 rfl (lv_at hl 1 rfl) ?_
  refine va_get (D := (dC, dI)) (ci := 7) (v := .ref h11_) (C := RX7) (T := TX7) (N := 19) hx hb hts (mc_ inX7) hown hK hP 0 rfl rfl 7 (by decide) (hts _ (List.mem_cons_of_mem _ t_648)) (fun _ h9 => h9) rfl dX7_addMark_13 ?_
  refine lv_iload hx hb dX7_addMark_16 (lv_at hl 0 rfl) ?_
  refine lv_iload_n hx hb dX7_addMark_18 rfl (lv_at hl 2 rfl) ?_
  refine va_iast hx hb hK hP hD hS 1 0 rfl rfl (in_ok (by omega) (by omega)) dX7_addMark_19 (fun H locs hP hD hS => ?_)
  have hP : va_P (dC, dI) vwCl [(h0_, .inr (7, [.ref h4_, .int p5_, .ref h6_, .int p7_, .ref h8_, .ref h9_, .int p10_, .ref h11_, .ref h12_, .ref h13_, .ref h14_, .ref h15_, .ref h16_, .int p17_, .ref h18_, .int p19_, .ref h20_, .int p21_, .int p22_])), (h11_, .inl (k23_, 500, .inl (upd f24_ (y_1 : Int32).toNatClampNeg p1_))), (h15_, .inl (k31_, 500, .inl f32_)), (h13_, .inl (k27_, 500, .inl f28_)), (h12_, .inl (k25_, 500, .inl f26_)), (h14_, .inl (k29_, 500, .inl f30_)), (h16_, .inl (k33_, 500, .inr (.inl f34_)))] H := hP
  have hD : va_D A [(h0_, .inr (7, [.ref h4_, .int p5_, .ref h6_, .int p7_, .ref h8_, .ref h9_, .int p10_, .ref h11_, .ref h12_, .ref h13_, .ref h14_, .ref h15_, .ref h16_, .int p17_, .ref h18_, .int p19_, .ref h20_, .int p21_, .int p22_])), (h11_, .inl (k23_, 500, .inl (upd f24_ (y_1 : Int32).toNatClampNeg p1_))), (h15_, .inl (k31_, 500, .inl f32_)), (h13_, .inl (k27_, 500, .inl f28_)), (h12_, .inl (k25_, 500, .inl f26_)), (h14_, .inl (k29_, 500, .inl f30_)), (h16_, .inl (k33_, 500, .inr (.inl f34_)))] := hD
  generalize (upd f24_ (y_1 : Int32).toNatClampNeg p1_) = f_3 at hP hD
  refine lv_aload_n hx hb dX7_addMark_20 rfl (lv_at hl 1 rfl) ?_
  refine va_get (D := (dC, dI)) (ci := 7) (v := .ref h15_) (C := RX7) (T := TX7) (N := 19) hx hb hts (mc_ inX7) hown hK hP 0 rfl rfl 11 (by decide) (hts _ (List.mem_cons_of_mem _ t_661)) (fun _ h9 => h9) rfl dX7_addMark_21 ?_
  refine lv_iload hx hb dX7_addMark_24 (lv_at hl 0 rfl) ?_
  refine lv_iload_n hx hb dX7_addMark_26 rfl (lv_at hl 3 rfl) ?_
  refine va_iast hx hb hK hP hD hS 2 1 rfl rfl (in_ok (by omega) (by omega)) dX7_addMark_27 (fun H locs hP hD hS => ?_)
  have hP : va_P (dC, dI) vwCl [(h0_, .inr (7, [.ref h4_, .int p5_, .ref h6_, .int p7_, .ref h8_, .ref h9_, .int p10_, .ref h11_, .ref h12_, .ref h13_, .ref h14_, .ref h15_, .ref h16_, .int p17_, .ref h18_, .int p19_, .ref h20_, .int p21_, .int p22_])), (h11_, .inl (k23_, 500, .inl f_3)), (h15_, .inl (k31_, 500, .inl (upd f32_ (y_1 : Int32).toNatClampNeg p2_))), (h13_, .inl (k27_, 500, .inl f28_)), (h12_, .inl (k25_, 500, .inl f26_)), (h14_, .inl (k29_, 500, .inl f30_)), (h16_, .inl (k33_, 500, .inr (.inl f34_)))] H := hP
  have hD : va_D A [(h0_, .inr (7, [.ref h4_, .int p5_, .ref h6_, .int p7_, .ref h8_, .ref h9_, .int p10_, .ref h11_, .ref h12_, .ref h13_, .ref h14_, .ref h15_, .ref h16_, .int p17_, .ref h18_, .int p19_, .ref h20_, .int p21_, .int p22_])), (h11_, .inl (k23_, 500, .inl f_3)), (h15_, .inl (k31_, 500, .inl (upd f32_ (y_1 : Int32).toNatClampNeg p2_))), (h13_, .inl (k27_, 500, .inl f28_)), (h12_, .inl (k25_, 500, .inl f26_)), (h14_, .inl (k29_, 500, .inl f30_)), (h16_, .inl (k33_, 500, .inr (.inl f34_)))] := hD
  generalize (upd f32_ (y_1 : Int32).toNatClampNeg p2_) = f_4 at hP hD
  refine lv_aload_n hx hb dX7_addMark_28 rfl (lv_at hl 1 rfl) ?_
  refine va_get (D := (dC, dI)) (ci := 7) (v := .ref h13_) (C := RX7) (T := TX7) (N := 19) hx hb hts (mc_ inX7) hown hK hP 0 rfl rfl 9 (by decide) (hts _ (List.mem_cons_of_mem _ t_654)) (fun _ h9 => h9) rfl dX7_addMark_29 ?_
  refine lv_iload hx hb dX7_addMark_32 (lv_at hl 0 rfl) ?_
  refine lv_iload_n hx hb dX7_addMark_34 rfl (lv_at hl 4 rfl) ?_
  refine va_iast hx hb hK hP hD hS 3 2 rfl rfl (in_ok (by omega) (by omega)) dX7_addMark_35 (fun H locs hP hD hS => ?_)
  have hP : va_P (dC, dI) vwCl [(h0_, .inr (7, [.ref h4_, .int p5_, .ref h6_, .int p7_, .ref h8_, .ref h9_, .int p10_, .ref h11_, .ref h12_, .ref h13_, .ref h14_, .ref h15_, .ref h16_, .int p17_, .ref h18_, .int p19_, .ref h20_, .int p21_, .int p22_])), (h11_, .inl (k23_, 500, .inl f_3)), (h15_, .inl (k31_, 500, .inl f_4)), (h13_, .inl (k27_, 500, .inl (upd f28_ (y_1 : Int32).toNatClampNeg p3_))), (h12_, .inl (k25_, 500, .inl f26_)), (h14_, .inl (k29_, 500, .inl f30_)), (h16_, .inl (k33_, 500, .inr (.inl f34_)))] H := hP
  have hD : va_D A [(h0_, .inr (7, [.ref h4_, .int p5_, .ref h6_, .int p7_, .ref h8_, .ref h9_, .int p10_, .ref h11_, .ref h12_, .ref h13_, .ref h14_, .ref h15_, .ref h16_, .int p17_, .ref h18_, .int p19_, .ref h20_, .int p21_, .int p22_])), (h11_, .inl (k23_, 500, .inl f_3)), (h15_, .inl (k31_, 500, .inl f_4)), (h13_, .inl (k27_, 500, .inl (upd f28_ (y_1 : Int32).toNatClampNeg p3_))), (h12_, .inl (k25_, 500, .inl f26_)), (h14_, .inl (k29_, 500, .inl f30_)), (h16_, .inl (k33_, 500, .inr (.inl f34_)))] := hD
  generalize (upd f28_ (y_1 : Int32).toNatClampNeg p3_) = f_5 at hP hD
  refine lv_aload_n hx hb dX7_addMark_36 rfl (lv_at hl 1 rfl) ?_
  refine va_get (D := (dC, dI)) (ci := 7) (v := .ref h12_) (C := RX7) (T := TX7) (N := 19) hx hb hts (mc_ inX7) hown hK hP 0 rfl rfl 8 (by decide) (hts _ (List.mem_cons_of_mem _ t_651)) (fun _ h9 => h9) rfl dX7_addMark_37 ?_
  refine lv_iload hx hb dX7_addMark_40 (lv_at hl 0 rfl) ?_
  refine lv_aload_n hx hb dX7_addMark_42 rfl (lv_at hl 1 rfl) ?_
  refine va_get (D := (dC, dI)) (ci := 7) (v := .int p10_) (C := RX7) (T := TX7) (N := 19) hx hb hts (mc_ inX7) hown hK hP 0 rfl rfl 6 (by decide) (hts _ (List.mem_cons_of_mem _ t_644)) (fun _ h9 => h9) rfl dX7_addMark_43 ?_
  refine va_iast hx hb hK hP hD hS 4 3 rfl rfl (in_ok (by omega) (by omega)) dX7_addMark_46 (fun H locs hP hD hS => ?_)
  have hP : va_P (dC, dI) vwCl [(h0_, .inr (7, [.ref h4_, .int p5_, .ref h6_, .int p7_, .ref h8_, .ref h9_, .int p10_, .ref h11_, .ref h12_, .ref h13_, .ref h14_, .ref h15_, .ref h16_, .int p17_, .ref h18_, .int p19_, .ref h20_, .int p21_, .int p22_])), (h11_, .inl (k23_, 500, .inl f_3)), (h15_, .inl (k31_, 500, .inl f_4)), (h13_, .inl (k27_, 500, .inl f_5)), (h12_, .inl (k25_, 500, .inl (upd f26_ (y_1 : Int32).toNatClampNeg p10_))), (h14_, .inl (k29_, 500, .inl f30_)), (h16_, .inl (k33_, 500, .inr (.inl f34_)))] H := hP
  have hD : va_D A [(h0_, .inr (7, [.ref h4_, .int p5_, .ref h6_, .int p7_, .ref h8_, .ref h9_, .int p10_, .ref h11_, .ref h12_, .ref h13_, .ref h14_, .ref h15_, .ref h16_, .int p17_, .ref h18_, .int p19_, .ref h20_, .int p21_, .int p22_])), (h11_, .inl (k23_, 500, .inl f_3)), (h15_, .inl (k31_, 500, .inl f_4)), (h13_, .inl (k27_, 500, .inl f_5)), (h12_, .inl (k25_, 500, .inl (upd f26_ (y_1 : Int32).toNatClampNeg p10_))), (h14_, .inl (k29_, 500, .inl f30_)), (h16_, .inl (k33_, 500, .inr (.inl f34_)))] := hD
  generalize (upd f26_ (y_1 : Int32).toNatClampNeg p10_) = f_6 at hP hD
  refine lv_aload_n hx hb dX7_addMark_47 rfl (lv_at hl 1 rfl) ?_
  refine va_get (D := (dC, dI)) (ci := 7) (v := .ref h14_) (C := RX7) (T := TX7) (N := 19) hx hb hts (mc_ inX7) hown hK hP 0 rfl rfl 10 (by decide) (hts _ (List.mem_cons_of_mem _ t_658)) (fun _ h9 => h9) rfl dX7_addMark_48 ?_
  refine lv_iload hx hb dX7_addMark_51 (lv_at hl 0 rfl) ?_
  refine lv_iconst (v := 0) hx hb dX7_addMark_53 (by decide) ?_
  refine va_iast hx hb hK hP hD hS 5 4 rfl rfl (in_ok (by omega) (by omega)) dX7_addMark_54 (fun H locs hP hD hS => ?_)
  have hP : va_P (dC, dI) vwCl [(h0_, .inr (7, [.ref h4_, .int p5_, .ref h6_, .int p7_, .ref h8_, .ref h9_, .int p10_, .ref h11_, .ref h12_, .ref h13_, .ref h14_, .ref h15_, .ref h16_, .int p17_, .ref h18_, .int p19_, .ref h20_, .int p21_, .int p22_])), (h11_, .inl (k23_, 500, .inl f_3)), (h15_, .inl (k31_, 500, .inl f_4)), (h13_, .inl (k27_, 500, .inl f_5)), (h12_, .inl (k25_, 500, .inl f_6)), (h14_, .inl (k29_, 500, .inl (upd f30_ (y_1 : Int32).toNatClampNeg 0))), (h16_, .inl (k33_, 500, .inr (.inl f34_)))] H := hP
  have hD : va_D A [(h0_, .inr (7, [.ref h4_, .int p5_, .ref h6_, .int p7_, .ref h8_, .ref h9_, .int p10_, .ref h11_, .ref h12_, .ref h13_, .ref h14_, .ref h15_, .ref h16_, .int p17_, .ref h18_, .int p19_, .ref h20_, .int p21_, .int p22_])), (h11_, .inl (k23_, 500, .inl f_3)), (h15_, .inl (k31_, 500, .inl f_4)), (h13_, .inl (k27_, 500, .inl f_5)), (h12_, .inl (k25_, 500, .inl f_6)), (h14_, .inl (k29_, 500, .inl (upd f30_ (y_1 : Int32).toNatClampNeg 0))), (h16_, .inl (k33_, 500, .inr (.inl f34_)))] := hD
  generalize (upd f30_ (y_1 : Int32).toNatClampNeg 0) = f_7 at hP hD
  refine lv_aload_n hx hb dX7_addMark_55 rfl (lv_at hl 1 rfl) ?_
  refine va_get (D := (dC, dI)) (ci := 7) (v := .ref h16_) (C := RX7) (T := TX7) (N := 19) hx hb hts (mc_ inX7) hown hK hP 0 rfl rfl 12 (by decide) (hts _ (List.mem_cons_of_mem _ t_663)) (fun _ h9 => h9) rfl dX7_addMark_56 ?_
  refine lv_iload hx hb dX7_addMark_59 (lv_at hl 0 rfl) ?_
  refine lv_lconst (v := 0) hx hb dX7_addMark_61 (by decide) ?_
  refine va_last hx hb hK hP hD hS 6 5 rfl rfl (in_ok (by omega) (by omega)) dX7_addMark_62 (fun H locs hP hD hS => ?_)
  have hP : va_P (dC, dI) vwCl [(h0_, .inr (7, [.ref h4_, .int p5_, .ref h6_, .int p7_, .ref h8_, .ref h9_, .int p10_, .ref h11_, .ref h12_, .ref h13_, .ref h14_, .ref h15_, .ref h16_, .int p17_, .ref h18_, .int p19_, .ref h20_, .int p21_, .int p22_])), (h11_, .inl (k23_, 500, .inl f_3)), (h15_, .inl (k31_, 500, .inl f_4)), (h13_, .inl (k27_, 500, .inl f_5)), (h12_, .inl (k25_, 500, .inl f_6)), (h14_, .inl (k29_, 500, .inl f_7)), (h16_, .inl (k33_, 500, .inr (.inl (vp_updL f34_ (y_1 : Int32).toNatClampNeg 0))))] H := hP
  have hD : va_D A [(h0_, .inr (7, [.ref h4_, .int p5_, .ref h6_, .int p7_, .ref h8_, .ref h9_, .int p10_, .ref h11_, .ref h12_, .ref h13_, .ref h14_, .ref h15_, .ref h16_, .int p17_, .ref h18_, .int p19_, .ref h20_, .int p21_, .int p22_])), (h11_, .inl (k23_, 500, .inl f_3)), (h15_, .inl (k31_, 500, .inl f_4)), (h13_, .inl (k27_, 500, .inl f_5)), (h12_, .inl (k25_, 500, .inl f_6)), (h14_, .inl (k29_, 500, .inl f_7)), (h16_, .inl (k33_, 500, .inr (.inl (vp_updL f34_ (y_1 : Int32).toNatClampNeg 0))))] := hD
  generalize (vp_updL f34_ (y_1 : Int32).toNatClampNeg 0) = f_8 at hP hD
  refine lv_aload_n hx hb dX7_addMark_63 rfl (lv_at hl 1 rfl) ?_
  refine lv_iload hx hb dX7_addMark_64 (lv_at hl 0 rfl) ?_
  refine lv_iconst (v := 1) hx hb dX7_addMark_66 (by decide) ?_
  have kc_1 : (1 : Int32).toInt = 1 := by decide
  refine lv_iadd hx hb dX7_addMark_67 ?_
  refine lv_topi (fun y_9 ey_9 => ?_)
  have ty_9 : y_9.toInt = y_1.toInt + (1 : Int32).toInt := by rw [ey_9]; exact add_ok (by omega) (by omega)
  have b_10 : 1 ≤ y_9.toInt ∧ y_9.toInt ≤ 500 := by omega
  refine va_put (D := (dC, dI)) (ci := 7) (v := .int y_9) (ty := tyX7 13) (C := RX7) (T := TX7) (N := 19) hx hb hts (mc_ inX7) tyX7 tyX7_ok nmX7 hown hK hP hD hS 0 rfl rfl 13 (by decide) (hts _ (List.mem_cons_of_mem _ t_666)) (fun _ h9 => h9) rfl (by decide +kernel) rfl rfl (Nat.le_of_ble_eq_true rfl) dX7_addMark_68 (fun H locs hP hD hS => ?_)
  have hP : va_P (dC, dI) vwCl [(h0_, .inr (7, [.ref h4_, .int p5_, .ref h6_, .int p7_, .ref h8_, .ref h9_, .int p10_, .ref h11_, .ref h12_, .ref h13_, .ref h14_, .ref h15_, .ref h16_, .int y_9, .ref h18_, .int p19_, .ref h20_, .int p21_, .int p22_])), (h11_, .inl (k23_, 500, .inl f_3)), (h15_, .inl (k31_, 500, .inl f_4)), (h13_, .inl (k27_, 500, .inl f_5)), (h12_, .inl (k25_, 500, .inl f_6)), (h14_, .inl (k29_, 500, .inl f_7)), (h16_, .inl (k33_, 500, .inr (.inl f_8)))] H := hP
  have hD : va_D A [(h0_, .inr (7, [.ref h4_, .int p5_, .ref h6_, .int p7_, .ref h8_, .ref h9_, .int p10_, .ref h11_, .ref h12_, .ref h13_, .ref h14_, .ref h15_, .ref h16_, .int y_9, .ref h18_, .int p19_, .ref h20_, .int p21_, .int p22_])), (h11_, .inl (k23_, 500, .inl f_3)), (h15_, .inl (k31_, 500, .inl f_4)), (h13_, .inl (k27_, 500, .inl f_5)), (h12_, .inl (k25_, 500, .inl f_6)), (h14_, .inl (k29_, 500, .inl f_7)), (h16_, .inl (k33_, 500, .inr (.inl f_8)))] := hD
  refine lv_iload hx hb dX7_addMark_71 (lv_at hl 0 rfl) ?_
  have hP9 := hP.sub (ws' := [(h0_, .inr (7, [.ref h4_, .int p5_, .ref h6_, .int p7_, .ref h8_, .ref h9_, .int p10_, .ref h11_, .ref h12_, .ref h13_, .ref h14_, .ref h15_, .ref h16_, .int y_9, .ref h18_, .int p19_, .ref h20_, .int p21_, .int p22_])), (h11_, .inl (k23_, 500, .inl f_3)), (h15_, .inl (k31_, 500, .inl f_4)), (h13_, .inl (k27_, 500, .inl f_5)), (h12_, .inl (k25_, 500, .inl f_6)), (h14_, .inl (k29_, 500, .inl f_7)), (h16_, .inl (k33_, 500, .inr (.inl f_8)))]) [0, 1, 2, 3, 4, 5, 6] rfl
  have hD9 := hD.sub (ws' := [(h0_, .inr (7, [.ref h4_, .int p5_, .ref h6_, .int p7_, .ref h8_, .ref h9_, .int p10_, .ref h11_, .ref h12_, .ref h13_, .ref h14_, .ref h15_, .ref h16_, .int y_9, .ref h18_, .int p19_, .ref h20_, .int p21_, .int p22_])), (h11_, .inl (k23_, 500, .inl f_3)), (h15_, .inl (k31_, 500, .inl f_4)), (h13_, .inl (k27_, 500, .inl f_5)), (h12_, .inl (k25_, 500, .inl f_6)), (h14_, .inl (k29_, 500, .inl f_7)), (h16_, .inl (k33_, 500, .inr (.inl f_8)))]) [0, 1, 2, 3, 4, 5, 6] (by decide) rfl
  have hK9 := hK.sub (tys' := [(k23_, .int), (k31_, .int), (k27_, .int), (k25_, .int), (k29_, .int), (k33_, .long)]) [0, 1, 2, 3, 4, 5] rfl
  refine W.widen (k := 0) (n := 0) (Nat.le_of_ble_eq_true rfl) (Nat.le_of_ble_eq_true rfl) ?_
  exact W.iret (v := y_1) hx hb hr (fun t ht hW => ⟨⟨_, (), rfl, ⟨by omega, by omega⟩, y_9, f_3, f_4, f_5, f_6, f_7, f_8, ⟨by omega, by omega⟩, by rw [ht]; exact hP9, va_K.moved hW.alike hK9, hD9⟩, hS.F ht⟩) hS.2.2 dX7_addMark_73
set_option maxHeartbeats 4000000 in
set_option maxRecDepth 100000 in
theorem s_X7_addStatement (l : Launch) (dC : Nat → ClassId) (dI : Nat → Nat → Nat) (h0_ : Nat) (h1_ : Nat) (p2_ : Int32) (h3_ : Nat) (p4_ : Int32) (h5_ : Nat) (h6_ : Nat) (p7_ : Int32) (h8_ : Nat) (h9_ : Nat) (h10_ : Nat) (h11_ : Nat) (h12_ : Nat) (h13_ : Nat) (p14_ : Int32) (h15_ : Nat) (p16_ : Int32) (h17_ : Nat) (p18_ : Int32) (p19_ : Int32) (k20_ : ClassId) (f21_ : Nat → Int32) (hb_p2_ : 0 ≤ p2_.toInt ∧ p2_.toInt ≤ 8) (hb_p4_ : 0 ≤ p4_.toInt ∧ p4_.toInt ≤ 96) (hb_p7_ : 0 ≤ p7_.toInt ∧ p7_.toInt ≤ 2000) (hb_p14_ : 0 ≤ p14_.toInt ∧ p14_.toInt ≤ 500) (hb_p16_ : 0 ≤ p16_.toInt ∧ p16_.toInt ≤ 420) (hb_p18_ : 0 ≤ p18_.toInt ∧ p18_.toInt ≤ 420) (sz : Nat) : Met l yX7_addStatement (.code yX7_addStatement cX7_addStatement 2 (some .int) :: lw_g) ({ frames := 1, cells := 0, slots := 0, locals := 13 }) (va_Pc [.ref h0_] (fun U => U.heap.size = sz ∧ va_P (dC, dI) vwCl [(h0_, .inr (7, [.ref h1_, .int p2_, .ref h3_, .int p4_, .ref h5_, .ref h6_, .int p7_, .ref h8_, .ref h9_, .ref h10_, .ref h11_, .ref h12_, .ref h13_, .int p14_, .ref h15_, .int p16_, .ref h17_, .int p18_, .int p19_])), (h15_, .inl (k20_, 420, .inl f21_))] U.heap ∧ va_K (dC, dI) vwCl [(k20_, .boolean)] U ∧ va_D (fun _ => True) [(h0_, .inr (7, [.ref h1_, .int p2_, .ref h3_, .int p4_, .ref h5_, .ref h6_, .int p7_, .ref h8_, .ref h9_, .ref h10_, .ref h11_, .ref h12_, .ref h13_, .int p14_, .ref h15_, .int p16_, .ref h17_, .int p18_, .int p19_])), (h15_, .inl (k20_, 420, .inl f21_))])) (va_Qi (fun (r : Int32) (_ : Unit) => 0 ≤ r.toInt ∧ r.toInt ≤ 419) (fun (_ : Unit) (t : State) => ∃ z0 : Int32, ∃ z1 : Nat → Int32, (0 ≤ z0.toInt ∧ z0.toInt ≤ 420) ∧ va_P (dC, dI) vwCl [(h0_, .inr (7, [.ref h1_, .int p2_, .ref h3_, .int p4_, .ref h5_, .ref h6_, .int p7_, .ref h8_, .ref h9_, .ref h10_, .ref h11_, .ref h12_, .ref h13_, .int p14_, .ref h15_, .int z0, .ref h17_, .int p18_, .int p19_])), (h15_, .inl (k20_, 420, .inl z1))] t.heap ∧ va_K (dC, dI) vwCl [(k20_, .boolean)] t ∧ va_D (va_A [(h0_, .inr (7, [.ref h1_, .int p2_, .ref h3_, .int p4_, .ref h5_, .ref h6_, .int p7_, .ref h8_, .ref h9_, .ref h10_, .ref h11_, .ref h12_, .ref h13_, .int p14_, .ref h15_, .int p16_, .ref h17_, .int p18_, .int p19_])), (h15_, .inl (k20_, 420, .inl f21_))] sz) [(h0_, .inr (7, [.ref h1_, .int p2_, .ref h3_, .int p4_, .ref h5_, .ref h6_, .int p7_, .ref h8_, .ref h9_, .ref h10_, .ref h11_, .ref h12_, .ref h13_, .int p14_, .ref h15_, .int z0, .ref h17_, .int p18_, .int p19_])), (h15_, .inl (k20_, 420, .inl z1))]) (va_A [(h0_, .inr (7, [.ref h1_, .int p2_, .ref h3_, .int p4_, .ref h5_, .ref h6_, .int p7_, .ref h8_, .ref h9_, .ref h10_, .ref h11_, .ref h12_, .ref h13_, .int p14_, .ref h15_, .int p16_, .ref h17_, .int p18_, .int p19_])), (h15_, .inl (k20_, 420, .inl f21_))] sz)) 0 0 (va_A [(h0_, .inr (7, [.ref h1_, .int p2_, .ref h3_, .int p4_, .ref h5_, .ref h6_, .int p7_, .ref h8_, .ref h9_, .ref h10_, .ref h11_, .ref h12_, .ref h13_, .int p14_, .ref h15_, .int p16_, .ref h17_, .int p18_, .int p19_])), (h15_, .inl (k20_, 420, .inl f21_))] sz) := by
  refine Met.ofW (cc := cX7_addStatement) (maxL := 2) (ret := (some .int)) (by decide) rfl ?_
  intro p e s m args below meth c s₁ B hml hv
  obtain ⟨rfl, hsz, hP, hK, hD0⟩ := hv
  have hx := B.exec
  have hb := B.bytes
  have hr := B.returns
  have hts := atoms_spec (ws := (.code yX7_addStatement cX7_addStatement 2 (some .int) :: lw_g)) B.pre
  have hown : s.vm.findClass RX7 = some m.cls := findClass_of_methodNamed B.named
  have hlocks := B.notSynchronized
  subst hsz
  have hD := hD0.self (sz := s.heap.size)
  generalize hAe : va_A [(h0_, .inr (7, [.ref h1_, .int p2_, .ref h3_, .int p4_, .ref h5_, .ref h6_, .int p7_, .ref h8_, .ref h9_, .ref h10_, .ref h11_, .ref h12_, .ref h13_, .int p14_, .ref h15_, .int p16_, .ref h17_, .int p18_, .int p19_])), (h15_, .inl (k20_, 420, .inl f21_))] s.heap.size = A at hD ⊢
  have hA : ∀ q : Nat, s.heap.size ≤ q → A q := fun q h => by rw [← hAe]; exact Or.inr h
  have hS : va_S A s.heap s.heap [] := va_S.rf
  have hP : va_P (dC, dI) vwCl [(h0_, .inr (7, [.ref h1_, .int p2_, .ref h3_, .int p4_, .ref h5_, .ref h6_, .int p7_, .ref h8_, .ref h9_, .ref h10_, .ref h11_, .ref h12_, .ref h13_, .int p14_, .ref h15_, .int p16_, .ref h17_, .int p18_, .int p19_])), (h15_, .inl (k20_, 420, .inl f21_))] s.heap := hP
  have hl := lv_entry ([.ref h0_]) (n := 2) (Nat.le_of_ble_eq_true rfl)
  rw [lg_entry_eq]
  generalize (lg_sl ([.ref h0_]) ++ List.replicate (2 - (lg_sl ([.ref h0_])).length) Slot.unset).toArray = ls at hl ⊢
  have hl : lv_has ls 2 [(0, .ref h0_)] := hl
  refine lv_aload_n hx hb dX7_addStatement_0 rfl (lv_at hl 0 rfl) ?_
  refine va_get (D := (dC, dI)) (ci := 7) (v := .int p16_) (C := RX7) (T := TX7) (N := 19) hx hb hts (mc_ inX7) hown hK hP 0 rfl rfl 15 (by decide) (hts _ (List.mem_cons_of_mem _ t_673)) (fun _ h9 => h9) rfl dX7_addStatement_1 ?_
  refine lv_sipush (v := 419) hx hb dX7_addStatement_4 (by decide) ?_
  have kc_419 : (419 : Int32).toInt = 419 := by decide
  refine va_mmin hx hb (hml.trans hl.1.symm) hown (hts _ (List.mem_cons_of_mem _ t_1177)) (hts _ (List.mem_cons_of_mem _ t_998)) (hts _ (List.mem_cons_of_mem _ t_204)) (hts _ (List.mem_cons_of_mem _ t_999)) (Nat.le_of_ble_eq_true rfl) (Nat.le_of_ble_eq_true rfl) (Nat.le_of_ble_eq_true rfl) (Nat.le_of_ble_eq_true rfl) dX7_addStatement_7 ?_
  refine lv_topi (fun y_1 ey_1 => ?_)
  have ty_1 : y_1.toInt = min p16_.toInt (419 : Int32).toInt := by rw [ey_1]; exact mmin_ok _ _
  have b_2 : 0 ≤ y_1.toInt ∧ y_1.toInt ≤ 419 := by omega
  refine lv_istore_n (lv' := [(1, .int y_1), (0, .ref h0_)]) hx hb dX7_addStatement_10 rfl hl (by decide) rfl (fun ls hl => ?_)
  refine lv_aload_n hx hb dX7_addStatement_11 rfl (lv_at hl 1 rfl) ?_
  refine va_get (D := (dC, dI)) (ci := 7) (v := .ref h15_) (C := RX7) (T := TX7) (N := 19) hx hb hts (mc_ inX7) hown hK hP 0 rfl rfl 14 (by decide) (hts _ (List.mem_cons_of_mem _ t_671)) (fun _ h9 => h9) rfl dX7_addStatement_12 ?_
  refine lv_iload_n hx hb dX7_addStatement_15 rfl (lv_at hl 0 rfl) ?_
  refine lv_iconst (v := 0) hx hb dX7_addStatement_16 (by decide) ?_
  refine va_zast hx hb hK hP hD hS 1 0 rfl rfl (in_ok (by omega) (by omega)) dX7_addStatement_17 (fun H locs hP hD hS => ?_)
  have hP : va_P (dC, dI) vwCl [(h0_, .inr (7, [.ref h1_, .int p2_, .ref h3_, .int p4_, .ref h5_, .ref h6_, .int p7_, .ref h8_, .ref h9_, .ref h10_, .ref h11_, .ref h12_, .ref h13_, .int p14_, .ref h15_, .int p16_, .ref h17_, .int p18_, .int p19_])), (h15_, .inl (k20_, 420, .inl (upd f21_ (y_1 : Int32).toNatClampNeg (vp_nar .boolean 0))))] H := hP
  have hD : va_D A [(h0_, .inr (7, [.ref h1_, .int p2_, .ref h3_, .int p4_, .ref h5_, .ref h6_, .int p7_, .ref h8_, .ref h9_, .ref h10_, .ref h11_, .ref h12_, .ref h13_, .int p14_, .ref h15_, .int p16_, .ref h17_, .int p18_, .int p19_])), (h15_, .inl (k20_, 420, .inl (upd f21_ (y_1 : Int32).toNatClampNeg (vp_nar .boolean 0))))] := hD
  generalize (upd f21_ (y_1 : Int32).toNatClampNeg (vp_nar .boolean 0)) = f_3 at hP hD
  refine lv_aload_n hx hb dX7_addStatement_18 rfl (lv_at hl 1 rfl) ?_
  refine lv_iload_n hx hb dX7_addStatement_19 rfl (lv_at hl 0 rfl) ?_
  refine lv_iconst (v := 1) hx hb dX7_addStatement_20 (by decide) ?_
  have kc_1 : (1 : Int32).toInt = 1 := by decide
  refine lv_iadd hx hb dX7_addStatement_21 ?_
  refine lv_topi (fun y_4 ey_4 => ?_)
  have ty_4 : y_4.toInt = y_1.toInt + (1 : Int32).toInt := by rw [ey_4]; exact add_ok (by omega) (by omega)
  have b_5 : 1 ≤ y_4.toInt ∧ y_4.toInt ≤ 420 := by omega
  refine va_put (D := (dC, dI)) (ci := 7) (v := .int y_4) (ty := tyX7 15) (C := RX7) (T := TX7) (N := 19) hx hb hts (mc_ inX7) tyX7 tyX7_ok nmX7 hown hK hP hD hS 0 rfl rfl 15 (by decide) (hts _ (List.mem_cons_of_mem _ t_673)) (fun _ h9 => h9) rfl (by decide +kernel) rfl rfl (Nat.le_of_ble_eq_true rfl) dX7_addStatement_22 (fun H locs hP hD hS => ?_)
  have hP : va_P (dC, dI) vwCl [(h0_, .inr (7, [.ref h1_, .int p2_, .ref h3_, .int p4_, .ref h5_, .ref h6_, .int p7_, .ref h8_, .ref h9_, .ref h10_, .ref h11_, .ref h12_, .ref h13_, .int p14_, .ref h15_, .int y_4, .ref h17_, .int p18_, .int p19_])), (h15_, .inl (k20_, 420, .inl f_3))] H := hP
  have hD : va_D A [(h0_, .inr (7, [.ref h1_, .int p2_, .ref h3_, .int p4_, .ref h5_, .ref h6_, .int p7_, .ref h8_, .ref h9_, .ref h10_, .ref h11_, .ref h12_, .ref h13_, .int p14_, .ref h15_, .int y_4, .ref h17_, .int p18_, .int p19_])), (h15_, .inl (k20_, 420, .inl f_3))] := hD
  refine lv_iload_n hx hb dX7_addStatement_25 rfl (lv_at hl 0 rfl) ?_
  have hP9 := hP.sub (ws' := [(h0_, .inr (7, [.ref h1_, .int p2_, .ref h3_, .int p4_, .ref h5_, .ref h6_, .int p7_, .ref h8_, .ref h9_, .ref h10_, .ref h11_, .ref h12_, .ref h13_, .int p14_, .ref h15_, .int y_4, .ref h17_, .int p18_, .int p19_])), (h15_, .inl (k20_, 420, .inl f_3))]) [0, 1] rfl
  have hD9 := hD.sub (ws' := [(h0_, .inr (7, [.ref h1_, .int p2_, .ref h3_, .int p4_, .ref h5_, .ref h6_, .int p7_, .ref h8_, .ref h9_, .ref h10_, .ref h11_, .ref h12_, .ref h13_, .int p14_, .ref h15_, .int y_4, .ref h17_, .int p18_, .int p19_])), (h15_, .inl (k20_, 420, .inl f_3))]) [0, 1] (by decide) rfl
  have hK9 := hK.sub (tys' := [(k20_, .boolean)]) [0] rfl
  refine W.widen (k := 0) (n := 0) (Nat.le_of_ble_eq_true rfl) (Nat.le_of_ble_eq_true rfl) ?_
  exact W.iret (v := y_1) hx hb hr (fun t ht hW => ⟨⟨_, (), rfl, ⟨by omega, by omega⟩, y_4, f_3, ⟨by omega, by omega⟩, by rw [ht]; exact hP9, va_K.moved hW.alike hK9, hD9⟩, hS.F ht⟩) hS.2.2 dX7_addStatement_26
set_option maxHeartbeats 4000000 in
set_option maxRecDepth 100000 in
theorem s_X7_addWord (l : Launch) (dC : Nat → ClassId) (dI : Nat → Nat → Nat) (h0_ : Nat) (p1_ : Int64) (h2_ : Nat) (p3_ : Int32) (h4_ : Nat) (p5_ : Int32) (h6_ : Nat) (h7_ : Nat) (p8_ : Int32) (h9_ : Nat) (h10_ : Nat) (h11_ : Nat) (h12_ : Nat) (h13_ : Nat) (h14_ : Nat) (p15_ : Int32) (h16_ : Nat) (p17_ : Int32) (h18_ : Nat) (p19_ : Int32) (p20_ : Int32) (k21_ : ClassId) (f22_ : Nat → Int64) (hb_p3_ : 0 ≤ p3_.toInt ∧ p3_.toInt ≤ 8) (hb_p5_ : 0 ≤ p5_.toInt ∧ p5_.toInt ≤ 96) (hb_p8_ : 0 ≤ p8_.toInt ∧ p8_.toInt ≤ 2000) (hb_p15_ : 0 ≤ p15_.toInt ∧ p15_.toInt ≤ 500) (hb_p17_ : 0 ≤ p17_.toInt ∧ p17_.toInt ≤ 420) (hb_p19_ : 0 ≤ p19_.toInt ∧ p19_.toInt ≤ 420) (sz : Nat) : Met l yX7_addWord (.code yX7_addWord cX7_addWord 4 (some .int) :: lw_g) ({ frames := 1, cells := 0, slots := 0, locals := 13 }) (va_Pc [.ref h0_, .long p1_] (fun U => U.heap.size = sz ∧ va_P (dC, dI) vwCl [(h0_, .inr (7, [.ref h2_, .int p3_, .ref h4_, .int p5_, .ref h6_, .ref h7_, .int p8_, .ref h9_, .ref h10_, .ref h11_, .ref h12_, .ref h13_, .ref h14_, .int p15_, .ref h16_, .int p17_, .ref h18_, .int p19_, .int p20_])), (h18_, .inl (k21_, 420, .inr (.inl f22_)))] U.heap ∧ va_K (dC, dI) vwCl [(k21_, .long)] U ∧ va_D (fun _ => True) [(h0_, .inr (7, [.ref h2_, .int p3_, .ref h4_, .int p5_, .ref h6_, .ref h7_, .int p8_, .ref h9_, .ref h10_, .ref h11_, .ref h12_, .ref h13_, .ref h14_, .int p15_, .ref h16_, .int p17_, .ref h18_, .int p19_, .int p20_])), (h18_, .inl (k21_, 420, .inr (.inl f22_)))])) (va_Qi (fun (r : Int32) (_ : Unit) => 0 ≤ r.toInt ∧ r.toInt ≤ 419) (fun (_ : Unit) (t : State) => ∃ z0 : Int32, ∃ z1 : Nat → Int64, (0 ≤ z0.toInt ∧ z0.toInt ≤ 420) ∧ va_P (dC, dI) vwCl [(h0_, .inr (7, [.ref h2_, .int p3_, .ref h4_, .int p5_, .ref h6_, .ref h7_, .int p8_, .ref h9_, .ref h10_, .ref h11_, .ref h12_, .ref h13_, .ref h14_, .int p15_, .ref h16_, .int p17_, .ref h18_, .int z0, .int p20_])), (h18_, .inl (k21_, 420, .inr (.inl z1)))] t.heap ∧ va_K (dC, dI) vwCl [(k21_, .long)] t ∧ va_D (va_A [(h0_, .inr (7, [.ref h2_, .int p3_, .ref h4_, .int p5_, .ref h6_, .ref h7_, .int p8_, .ref h9_, .ref h10_, .ref h11_, .ref h12_, .ref h13_, .ref h14_, .int p15_, .ref h16_, .int p17_, .ref h18_, .int p19_, .int p20_])), (h18_, .inl (k21_, 420, .inr (.inl f22_)))] sz) [(h0_, .inr (7, [.ref h2_, .int p3_, .ref h4_, .int p5_, .ref h6_, .ref h7_, .int p8_, .ref h9_, .ref h10_, .ref h11_, .ref h12_, .ref h13_, .ref h14_, .int p15_, .ref h16_, .int p17_, .ref h18_, .int z0, .int p20_])), (h18_, .inl (k21_, 420, .inr (.inl z1)))]) (va_A [(h0_, .inr (7, [.ref h2_, .int p3_, .ref h4_, .int p5_, .ref h6_, .ref h7_, .int p8_, .ref h9_, .ref h10_, .ref h11_, .ref h12_, .ref h13_, .ref h14_, .int p15_, .ref h16_, .int p17_, .ref h18_, .int p19_, .int p20_])), (h18_, .inl (k21_, 420, .inr (.inl f22_)))] sz)) 0 0 (va_A [(h0_, .inr (7, [.ref h2_, .int p3_, .ref h4_, .int p5_, .ref h6_, .ref h7_, .int p8_, .ref h9_, .ref h10_, .ref h11_, .ref h12_, .ref h13_, .ref h14_, .int p15_, .ref h16_, .int p17_, .ref h18_, .int p19_, .int p20_])), (h18_, .inl (k21_, 420, .inr (.inl f22_)))] sz) := by
  refine Met.ofW (cc := cX7_addWord) (maxL := 4) (ret := (some .int)) (by decide) rfl ?_
  intro p e s m args below meth c s₁ B hml hv
  obtain ⟨rfl, hsz, hP, hK, hD0⟩ := hv
  have hx := B.exec
  have hb := B.bytes
  have hr := B.returns
  have hts := atoms_spec (ws := (.code yX7_addWord cX7_addWord 4 (some .int) :: lw_g)) B.pre
  have hown : s.vm.findClass RX7 = some m.cls := findClass_of_methodNamed B.named
  have hlocks := B.notSynchronized
  subst hsz
  have hD := hD0.self (sz := s.heap.size)
  generalize hAe : va_A [(h0_, .inr (7, [.ref h2_, .int p3_, .ref h4_, .int p5_, .ref h6_, .ref h7_, .int p8_, .ref h9_, .ref h10_, .ref h11_, .ref h12_, .ref h13_, .ref h14_, .int p15_, .ref h16_, .int p17_, .ref h18_, .int p19_, .int p20_])), (h18_, .inl (k21_, 420, .inr (.inl f22_)))] s.heap.size = A at hD ⊢
  have hA : ∀ q : Nat, s.heap.size ≤ q → A q := fun q h => by rw [← hAe]; exact Or.inr h
  have hS : va_S A s.heap s.heap [] := va_S.rf
  have hP : va_P (dC, dI) vwCl [(h0_, .inr (7, [.ref h2_, .int p3_, .ref h4_, .int p5_, .ref h6_, .ref h7_, .int p8_, .ref h9_, .ref h10_, .ref h11_, .ref h12_, .ref h13_, .ref h14_, .int p15_, .ref h16_, .int p17_, .ref h18_, .int p19_, .int p20_])), (h18_, .inl (k21_, 420, .inr (.inl f22_)))] s.heap := hP
  have hl := lv_entry ([.ref h0_, .long p1_]) (n := 4) (Nat.le_of_ble_eq_true rfl)
  rw [lg_entry_eq]
  generalize (lg_sl ([.ref h0_, .long p1_]) ++ List.replicate (4 - (lg_sl ([.ref h0_, .long p1_])).length) Slot.unset).toArray = ls at hl ⊢
  have hl : lv_has ls 4 [(0, .ref h0_), (1, .long p1_)] := hl
  refine lv_aload_n hx hb dX7_addWord_0 rfl (lv_at hl 0 rfl) ?_
  refine va_get (D := (dC, dI)) (ci := 7) (v := .int p19_) (C := RX7) (T := TX7) (N := 19) hx hb hts (mc_ inX7) hown hK hP 0 rfl rfl 17 (by decide) (hts _ (List.mem_cons_of_mem _ t_678)) (fun _ h9 => h9) rfl dX7_addWord_1 ?_
  refine lv_sipush (v := 419) hx hb dX7_addWord_4 (by decide) ?_
  have kc_419 : (419 : Int32).toInt = 419 := by decide
  refine va_mmin hx hb (hml.trans hl.1.symm) hown (hts _ (List.mem_cons_of_mem _ t_1177)) (hts _ (List.mem_cons_of_mem _ t_998)) (hts _ (List.mem_cons_of_mem _ t_204)) (hts _ (List.mem_cons_of_mem _ t_999)) (Nat.le_of_ble_eq_true rfl) (Nat.le_of_ble_eq_true rfl) (Nat.le_of_ble_eq_true rfl) (Nat.le_of_ble_eq_true rfl) dX7_addWord_7 ?_
  refine lv_topi (fun y_1 ey_1 => ?_)
  have ty_1 : y_1.toInt = min p19_.toInt (419 : Int32).toInt := by rw [ey_1]; exact mmin_ok _ _
  have b_2 : 0 ≤ y_1.toInt ∧ y_1.toInt ≤ 419 := by omega
  refine lv_istore_n (lv' := [(3, .int y_1), (0, .ref h0_), (1, .long p1_)]) hx hb dX7_addWord_10 rfl hl (by decide) rfl (fun ls hl => ?_)
  refine lv_aload_n hx hb dX7_addWord_11 rfl (lv_at hl 1 rfl) ?_
  refine va_get (D := (dC, dI)) (ci := 7) (v := .ref h18_) (C := RX7) (T := TX7) (N := 19) hx hb hts (mc_ inX7) hown hK hP 0 rfl rfl 16 (by decide) (hts _ (List.mem_cons_of_mem _ t_676)) (fun _ h9 => h9) rfl dX7_addWord_12 ?_
  refine lv_iload_n hx hb dX7_addWord_15 rfl (lv_at hl 0 rfl) ?_
  refine lv_lload_n hx hb dX7_addWord_16 rfl (lv_at hl 2 rfl) ?_
  refine va_last hx hb hK hP hD hS 1 0 rfl rfl (in_ok (by omega) (by omega)) dX7_addWord_17 (fun H locs hP hD hS => ?_)
  have hP : va_P (dC, dI) vwCl [(h0_, .inr (7, [.ref h2_, .int p3_, .ref h4_, .int p5_, .ref h6_, .ref h7_, .int p8_, .ref h9_, .ref h10_, .ref h11_, .ref h12_, .ref h13_, .ref h14_, .int p15_, .ref h16_, .int p17_, .ref h18_, .int p19_, .int p20_])), (h18_, .inl (k21_, 420, .inr (.inl (vp_updL f22_ (y_1 : Int32).toNatClampNeg p1_))))] H := hP
  have hD : va_D A [(h0_, .inr (7, [.ref h2_, .int p3_, .ref h4_, .int p5_, .ref h6_, .ref h7_, .int p8_, .ref h9_, .ref h10_, .ref h11_, .ref h12_, .ref h13_, .ref h14_, .int p15_, .ref h16_, .int p17_, .ref h18_, .int p19_, .int p20_])), (h18_, .inl (k21_, 420, .inr (.inl (vp_updL f22_ (y_1 : Int32).toNatClampNeg p1_))))] := hD
  generalize (vp_updL f22_ (y_1 : Int32).toNatClampNeg p1_) = f_3 at hP hD
  refine lv_aload_n hx hb dX7_addWord_18 rfl (lv_at hl 1 rfl) ?_
  refine lv_iload_n hx hb dX7_addWord_19 rfl (lv_at hl 0 rfl) ?_
  refine lv_iconst (v := 1) hx hb dX7_addWord_20 (by decide) ?_
  have kc_1 : (1 : Int32).toInt = 1 := by decide
  refine lv_iadd hx hb dX7_addWord_21 ?_
  refine lv_topi (fun y_4 ey_4 => ?_)
  have ty_4 : y_4.toInt = y_1.toInt + (1 : Int32).toInt := by rw [ey_4]; exact add_ok (by omega) (by omega)
  have b_5 : 1 ≤ y_4.toInt ∧ y_4.toInt ≤ 420 := by omega
  refine va_put (D := (dC, dI)) (ci := 7) (v := .int y_4) (ty := tyX7 17) (C := RX7) (T := TX7) (N := 19) hx hb hts (mc_ inX7) tyX7 tyX7_ok nmX7 hown hK hP hD hS 0 rfl rfl 17 (by decide) (hts _ (List.mem_cons_of_mem _ t_678)) (fun _ h9 => h9) rfl (by decide +kernel) rfl rfl (Nat.le_of_ble_eq_true rfl) dX7_addWord_22 (fun H locs hP hD hS => ?_)
  have hP : va_P (dC, dI) vwCl [(h0_, .inr (7, [.ref h2_, .int p3_, .ref h4_, .int p5_, .ref h6_, .ref h7_, .int p8_, .ref h9_, .ref h10_, .ref h11_, .ref h12_, .ref h13_, .ref h14_, .int p15_, .ref h16_, .int p17_, .ref h18_, .int y_4, .int p20_])), (h18_, .inl (k21_, 420, .inr (.inl f_3)))] H := hP
  have hD : va_D A [(h0_, .inr (7, [.ref h2_, .int p3_, .ref h4_, .int p5_, .ref h6_, .ref h7_, .int p8_, .ref h9_, .ref h10_, .ref h11_, .ref h12_, .ref h13_, .ref h14_, .int p15_, .ref h16_, .int p17_, .ref h18_, .int y_4, .int p20_])), (h18_, .inl (k21_, 420, .inr (.inl f_3)))] := hD
  refine lv_iload_n hx hb dX7_addWord_25 rfl (lv_at hl 0 rfl) ?_
  have hP9 := hP.sub (ws' := [(h0_, .inr (7, [.ref h2_, .int p3_, .ref h4_, .int p5_, .ref h6_, .ref h7_, .int p8_, .ref h9_, .ref h10_, .ref h11_, .ref h12_, .ref h13_, .ref h14_, .int p15_, .ref h16_, .int p17_, .ref h18_, .int y_4, .int p20_])), (h18_, .inl (k21_, 420, .inr (.inl f_3)))]) [0, 1] rfl
  have hD9 := hD.sub (ws' := [(h0_, .inr (7, [.ref h2_, .int p3_, .ref h4_, .int p5_, .ref h6_, .ref h7_, .int p8_, .ref h9_, .ref h10_, .ref h11_, .ref h12_, .ref h13_, .ref h14_, .int p15_, .ref h16_, .int p17_, .ref h18_, .int y_4, .int p20_])), (h18_, .inl (k21_, 420, .inr (.inl f_3)))]) [0, 1] (by decide) rfl
  have hK9 := hK.sub (tys' := [(k21_, .long)]) [0] rfl
  refine W.widen (k := 0) (n := 0) (Nat.le_of_ble_eq_true rfl) (Nat.le_of_ble_eq_true rfl) ?_
  exact W.iret (v := y_1) hx hb hr (fun t ht hW => ⟨⟨_, (), rfl, ⟨by omega, by omega⟩, y_4, f_3, ⟨by omega, by omega⟩, by rw [ht]; exact hP9, va_K.moved hW.alike hK9, hD9⟩, hS.F ht⟩) hS.2.2 dX7_addWord_26
set_option maxHeartbeats 4000000 in
set_option maxRecDepth 100000 in
theorem s_X3_roomForCall (l : Launch) (dC : Nat → ClassId) (dI : Nat → Nat → Nat) (h0_ : Nat) (p1_ : Int32) (h2_ : Nat) (h3_ : Nat) (h4_ : Nat) (p5_ : Int32) (h6_ : Nat) (hb_p1_ : 0 ≤ p1_.toInt ∧ p1_.toInt ≤ 10) (hb_p5_ : 0 ≤ p5_.toInt ∧ p5_.toInt ≤ 3) (sz : Nat) : Met l yX3_roomForCall (.code yX3_roomForCall cX3_roomForCall 1 (some .boolean) :: lw_g) ({ frames := 0, cells := 0, slots := 0, locals := 0 }) (va_Pc [.ref h0_] (fun U => U.heap.size = sz ∧ va_P (dC, dI) vwCl [(h0_, .inr (3, [.int p1_, .ref h2_, .ref h3_, .ref h4_, .int p5_, .ref h6_]))] U.heap ∧ va_K (dC, dI) vwCl [] U ∧ va_D (fun _ => True) [(h0_, .inr (3, [.int p1_, .ref h2_, .ref h3_, .ref h4_, .int p5_, .ref h6_]))])) (va_Qi (fun (r : Int32) (_ : Unit) => 0 ≤ r.toInt ∧ r.toInt ≤ 1) (fun (_ : Unit) (t : State) => va_P (dC, dI) vwCl [(h0_, .inr (3, [.int p1_, .ref h2_, .ref h3_, .ref h4_, .int p5_, .ref h6_]))] t.heap ∧ va_K (dC, dI) vwCl [] t ∧ va_D (va_A [(h0_, .inr (3, [.int p1_, .ref h2_, .ref h3_, .ref h4_, .int p5_, .ref h6_]))] sz) [(h0_, .inr (3, [.int p1_, .ref h2_, .ref h3_, .ref h4_, .int p5_, .ref h6_]))]) (va_A [(h0_, .inr (3, [.int p1_, .ref h2_, .ref h3_, .ref h4_, .int p5_, .ref h6_]))] sz)) 0 0 (va_A [(h0_, .inr (3, [.int p1_, .ref h2_, .ref h3_, .ref h4_, .int p5_, .ref h6_]))] sz) := by
  refine Met.ofW (cc := cX3_roomForCall) (maxL := 1) (ret := (some .boolean)) (by decide) rfl ?_
  intro p e s m args below meth c s₁ B hml hv
  obtain ⟨rfl, hsz, hP, hK, hD0⟩ := hv
  have hx := B.exec
  have hb := B.bytes
  have hr := B.returns
  have hts := atoms_spec (ws := (.code yX3_roomForCall cX3_roomForCall 1 (some .boolean) :: lw_g)) B.pre
  have hown : s.vm.findClass RX3 = some m.cls := findClass_of_methodNamed B.named
  have hlocks := B.notSynchronized
  subst hsz
  have hD := hD0.self (sz := s.heap.size)
  generalize hAe : va_A [(h0_, .inr (3, [.int p1_, .ref h2_, .ref h3_, .ref h4_, .int p5_, .ref h6_]))] s.heap.size = A at hD ⊢
  have hA : ∀ q : Nat, s.heap.size ≤ q → A q := fun q h => by rw [← hAe]; exact Or.inr h
  have hS : va_S A s.heap s.heap [] := va_S.rf
  have hP : va_P (dC, dI) vwCl [(h0_, .inr (3, [.int p1_, .ref h2_, .ref h3_, .ref h4_, .int p5_, .ref h6_]))] s.heap := hP
  have hl := lv_entry ([.ref h0_]) (n := 1) (Nat.le_of_ble_eq_true rfl)
  rw [lg_entry_eq]
  generalize (lg_sl ([.ref h0_]) ++ List.replicate (1 - (lg_sl ([.ref h0_])).length) Slot.unset).toArray = ls at hl ⊢
  have hl : lv_has ls 1 [(0, .ref h0_)] := hl
  refine lv_aload_n hx hb dX3_roomForCall_0 rfl (lv_at hl 0 rfl) ?_
  refine va_get (D := (dC, dI)) (ci := 3) (v := .int p1_) (C := RX3) (T := TX3) (N := 6) hx hb hts (mc_ inX3) hown hK hP 0 rfl rfl 0 (by decide) (hts _ (List.mem_cons_of_mem _ t_801)) (fun _ h9 => h9) rfl dX3_roomForCall_1 ?_
  refine lv_bipush (v := 10) hx hb dX3_roomForCall_4 (by decide) ?_
  have kc_10 : (10 : Int32).toInt = 10 := by decide
  refine lv_icmp_ge (tgt := 13) hx hb dX3_roomForCall_6 (by decide) (fun c_1 => ?_) (fun c_1 => ?_)
  · have fc_1 := le_f c_1
    refine lv_iconst (v := 0) hx hb dX3_roomForCall_13 (by decide) ?_
    have hP9 := hP.sub (ws' := [(h0_, .inr (3, [.int p1_, .ref h2_, .ref h3_, .ref h4_, .int p5_, .ref h6_]))]) [0] rfl
    have hD9 := hD.sub (ws' := [(h0_, .inr (3, [.int p1_, .ref h2_, .ref h3_, .ref h4_, .int p5_, .ref h6_]))]) [0] (by decide) rfl
    have hK9 := hK.sub (tys' := []) [] rfl
    refine W.widen (k := 0) (n := 0) (Nat.le_of_ble_eq_true rfl) (Nat.le_of_ble_eq_true rfl) ?_
    exact W.zret (v := 0) hx hb hr rfl (fun t ht hW => ⟨⟨_, (), rfl, ⟨by decide, by decide⟩, by rw [ht]; exact hP9, va_K.moved hW.alike hK9, hD9⟩, hS.F ht⟩) hS.2.2 dX3_roomForCall_14
  · have fc_1 := nle_f c_1
    refine lv_iconst (v := 1) hx hb dX3_roomForCall_9 (by decide) ?_
    refine lv_goto (tgt := 14) hx hb dX3_roomForCall_10 (by decide) ?_
    have hP9 := hP.sub (ws' := [(h0_, .inr (3, [.int p1_, .ref h2_, .ref h3_, .ref h4_, .int p5_, .ref h6_]))]) [0] rfl
    have hD9 := hD.sub (ws' := [(h0_, .inr (3, [.int p1_, .ref h2_, .ref h3_, .ref h4_, .int p5_, .ref h6_]))]) [0] (by decide) rfl
    have hK9 := hK.sub (tys' := []) [] rfl
    refine W.widen (k := 0) (n := 0) (Nat.le_of_ble_eq_true rfl) (Nat.le_of_ble_eq_true rfl) ?_
    exact W.zret (v := 1) hx hb hr rfl (fun t ht hW => ⟨⟨_, (), rfl, ⟨by decide, by decide⟩, by rw [ht]; exact hP9, va_K.moved hW.alike hK9, hD9⟩, hS.F ht⟩) hS.2.2 dX3_roomForCall_14
set_option maxHeartbeats 4000000 in
set_option maxRecDepth 100000 in
theorem s_X3_roomForMake (l : Launch) (dC : Nat → ClassId) (dI : Nat → Nat → Nat) (h0_ : Nat) (p1_ : Int32) (h2_ : Nat) (h3_ : Nat) (h4_ : Nat) (p5_ : Int32) (h6_ : Nat) (hb_p1_ : 0 ≤ p1_.toInt ∧ p1_.toInt ≤ 10) (hb_p5_ : 0 ≤ p5_.toInt ∧ p5_.toInt ≤ 3) (sz : Nat) : Met l yX3_roomForMake (.code yX3_roomForMake cX3_roomForMake 1 (some .boolean) :: lw_g) ({ frames := 0, cells := 0, slots := 0, locals := 0 }) (va_Pc [.ref h0_] (fun U => U.heap.size = sz ∧ va_P (dC, dI) vwCl [(h0_, .inr (3, [.int p1_, .ref h2_, .ref h3_, .ref h4_, .int p5_, .ref h6_]))] U.heap ∧ va_K (dC, dI) vwCl [] U ∧ va_D (fun _ => True) [(h0_, .inr (3, [.int p1_, .ref h2_, .ref h3_, .ref h4_, .int p5_, .ref h6_]))])) (va_Qi (fun (r : Int32) (_ : Unit) => 0 ≤ r.toInt ∧ r.toInt ≤ 1) (fun (_ : Unit) (t : State) => va_P (dC, dI) vwCl [(h0_, .inr (3, [.int p1_, .ref h2_, .ref h3_, .ref h4_, .int p5_, .ref h6_]))] t.heap ∧ va_K (dC, dI) vwCl [] t ∧ va_D (va_A [(h0_, .inr (3, [.int p1_, .ref h2_, .ref h3_, .ref h4_, .int p5_, .ref h6_]))] sz) [(h0_, .inr (3, [.int p1_, .ref h2_, .ref h3_, .ref h4_, .int p5_, .ref h6_]))]) (va_A [(h0_, .inr (3, [.int p1_, .ref h2_, .ref h3_, .ref h4_, .int p5_, .ref h6_]))] sz)) 0 0 (va_A [(h0_, .inr (3, [.int p1_, .ref h2_, .ref h3_, .ref h4_, .int p5_, .ref h6_]))] sz) := by
  refine Met.ofW (cc := cX3_roomForMake) (maxL := 1) (ret := (some .boolean)) (by decide) rfl ?_
  intro p e s m args below meth c s₁ B hml hv
  obtain ⟨rfl, hsz, hP, hK, hD0⟩ := hv
  have hx := B.exec
  have hb := B.bytes
  have hr := B.returns
  have hts := atoms_spec (ws := (.code yX3_roomForMake cX3_roomForMake 1 (some .boolean) :: lw_g)) B.pre
  have hown : s.vm.findClass RX3 = some m.cls := findClass_of_methodNamed B.named
  have hlocks := B.notSynchronized
  subst hsz
  have hD := hD0.self (sz := s.heap.size)
  generalize hAe : va_A [(h0_, .inr (3, [.int p1_, .ref h2_, .ref h3_, .ref h4_, .int p5_, .ref h6_]))] s.heap.size = A at hD ⊢
  have hA : ∀ q : Nat, s.heap.size ≤ q → A q := fun q h => by rw [← hAe]; exact Or.inr h
  have hS : va_S A s.heap s.heap [] := va_S.rf
  have hP : va_P (dC, dI) vwCl [(h0_, .inr (3, [.int p1_, .ref h2_, .ref h3_, .ref h4_, .int p5_, .ref h6_]))] s.heap := hP
  have hl := lv_entry ([.ref h0_]) (n := 1) (Nat.le_of_ble_eq_true rfl)
  rw [lg_entry_eq]
  generalize (lg_sl ([.ref h0_]) ++ List.replicate (1 - (lg_sl ([.ref h0_])).length) Slot.unset).toArray = ls at hl ⊢
  have hl : lv_has ls 1 [(0, .ref h0_)] := hl
  refine lv_aload_n hx hb dX3_roomForMake_0 rfl (lv_at hl 0 rfl) ?_
  refine va_get (D := (dC, dI)) (ci := 3) (v := .int p1_) (C := RX3) (T := TX3) (N := 6) hx hb hts (mc_ inX3) hown hK hP 0 rfl rfl 0 (by decide) (hts _ (List.mem_cons_of_mem _ t_801)) (fun _ h9 => h9) rfl dX3_roomForMake_1 ?_
  refine lv_bipush (v := 10) hx hb dX3_roomForMake_4 (by decide) ?_
  have kc_10 : (10 : Int32).toInt = 10 := by decide
  refine lv_icmp_ge (tgt := 21) hx hb dX3_roomForMake_6 (by decide) (fun c_1 => ?_) (fun c_1 => ?_)
  · have fc_1 := le_f c_1
    refine lv_iconst (v := 0) hx hb dX3_roomForMake_21 (by decide) ?_
    have hP9 := hP.sub (ws' := [(h0_, .inr (3, [.int p1_, .ref h2_, .ref h3_, .ref h4_, .int p5_, .ref h6_]))]) [0] rfl
    have hD9 := hD.sub (ws' := [(h0_, .inr (3, [.int p1_, .ref h2_, .ref h3_, .ref h4_, .int p5_, .ref h6_]))]) [0] (by decide) rfl
    have hK9 := hK.sub (tys' := []) [] rfl
    refine W.widen (k := 0) (n := 0) (Nat.le_of_ble_eq_true rfl) (Nat.le_of_ble_eq_true rfl) ?_
    exact W.zret (v := 0) hx hb hr rfl (fun t ht hW => ⟨⟨_, (), rfl, ⟨by decide, by decide⟩, by rw [ht]; exact hP9, va_K.moved hW.alike hK9, hD9⟩, hS.F ht⟩) hS.2.2 dX3_roomForMake_22
  · have fc_1 := nle_f c_1
    refine lv_aload_n hx hb dX3_roomForMake_9 rfl (lv_at hl 0 rfl) ?_
    refine va_get (D := (dC, dI)) (ci := 3) (v := .int p5_) (C := RX3) (T := TX3) (N := 6) hx hb hts (mc_ inX3) hown hK hP 0 rfl rfl 4 (by decide) (hts _ (List.mem_cons_of_mem _ t_813)) (fun _ h9 => h9) rfl dX3_roomForMake_10 ?_
    refine lv_iconst (v := 3) hx hb dX3_roomForMake_13 (by decide) ?_
    have kc_3 : (3 : Int32).toInt = 3 := by decide
    refine lv_icmp_ge (tgt := 21) hx hb dX3_roomForMake_14 (by decide) (fun c_2 => ?_) (fun c_2 => ?_)
    · have fc_2 := le_f c_2
      refine lv_iconst (v := 0) hx hb dX3_roomForMake_21 (by decide) ?_
      have hP9 := hP.sub (ws' := [(h0_, .inr (3, [.int p1_, .ref h2_, .ref h3_, .ref h4_, .int p5_, .ref h6_]))]) [0] rfl
      have hD9 := hD.sub (ws' := [(h0_, .inr (3, [.int p1_, .ref h2_, .ref h3_, .ref h4_, .int p5_, .ref h6_]))]) [0] (by decide) rfl
      have hK9 := hK.sub (tys' := []) [] rfl
      refine W.widen (k := 0) (n := 0) (Nat.le_of_ble_eq_true rfl) (Nat.le_of_ble_eq_true rfl) ?_
      exact W.zret (v := 0) hx hb hr rfl (fun t ht hW => ⟨⟨_, (), rfl, ⟨by decide, by decide⟩, by rw [ht]; exact hP9, va_K.moved hW.alike hK9, hD9⟩, hS.F ht⟩) hS.2.2 dX3_roomForMake_22
    · have fc_2 := nle_f c_2
      refine lv_iconst (v := 1) hx hb dX3_roomForMake_17 (by decide) ?_
      refine lv_goto (tgt := 22) hx hb dX3_roomForMake_18 (by decide) ?_
      have hP9 := hP.sub (ws' := [(h0_, .inr (3, [.int p1_, .ref h2_, .ref h3_, .ref h4_, .int p5_, .ref h6_]))]) [0] rfl
      have hD9 := hD.sub (ws' := [(h0_, .inr (3, [.int p1_, .ref h2_, .ref h3_, .ref h4_, .int p5_, .ref h6_]))]) [0] (by decide) rfl
      have hK9 := hK.sub (tys' := []) [] rfl
      refine W.widen (k := 0) (n := 0) (Nat.le_of_ble_eq_true rfl) (Nat.le_of_ble_eq_true rfl) ?_
      exact W.zret (v := 1) hx hb hr rfl (fun t ht hW => ⟨⟨_, (), rfl, ⟨by decide, by decide⟩, by rw [ht]; exact hP9, va_K.moved hW.alike hK9, hD9⟩, hS.F ht⟩) hS.2.2 dX3_roomForMake_22
set_option maxHeartbeats 4000000 in
set_option maxRecDepth 100000 in
theorem s_X3_wipe (l : Launch) (dC : Nat → ClassId) (dI : Nat → Nat → Nat) (h0_ : Nat) (p1_ : Int32) (h2_ : Nat) (h3_ : Nat) (h4_ : Nat) (p5_ : Int32) (h6_ : Nat) (hb_p1_ : 0 ≤ p1_.toInt ∧ p1_.toInt ≤ 10) (hb_p5_ : 0 ≤ p5_.toInt ∧ p5_.toInt ≤ 3) (sz : Nat) : Met l yX3_wipe (.code yX3_wipe cX3_wipe 1 none :: lw_g) ({ frames := 0, cells := 0, slots := 0, locals := 0 }) (va_Pc [.ref h0_] (fun U => U.heap.size = sz ∧ va_P (dC, dI) vwCl [(h0_, .inr (3, [.int p1_, .ref h2_, .ref h3_, .ref h4_, .int p5_, .ref h6_]))] U.heap ∧ va_K (dC, dI) vwCl [] U ∧ va_D (fun _ => True) [(h0_, .inr (3, [.int p1_, .ref h2_, .ref h3_, .ref h4_, .int p5_, .ref h6_]))])) (va_Qv (fun _ : Unit => True) (fun (_ : Unit) (t : State) => va_P (dC, dI) vwCl [(h0_, .inr (3, [.int 0, .ref h2_, .ref h3_, .ref h4_, .int 0, .ref h6_]))] t.heap ∧ va_K (dC, dI) vwCl [] t ∧ va_D (va_A [(h0_, .inr (3, [.int p1_, .ref h2_, .ref h3_, .ref h4_, .int p5_, .ref h6_]))] sz) [(h0_, .inr (3, [.int 0, .ref h2_, .ref h3_, .ref h4_, .int 0, .ref h6_]))]) (va_A [(h0_, .inr (3, [.int p1_, .ref h2_, .ref h3_, .ref h4_, .int p5_, .ref h6_]))] sz)) 0 0 (va_A [(h0_, .inr (3, [.int p1_, .ref h2_, .ref h3_, .ref h4_, .int p5_, .ref h6_]))] sz) := by
  refine Met.ofW (cc := cX3_wipe) (maxL := 1) (ret := none) (by decide) rfl ?_
  intro p e s m args below meth c s₁ B hml hv
  obtain ⟨rfl, hsz, hP, hK, hD0⟩ := hv
  have hx := B.exec
  have hb := B.bytes
  have hr := B.returns
  have hts := atoms_spec (ws := (.code yX3_wipe cX3_wipe 1 none :: lw_g)) B.pre
  have hown : s.vm.findClass RX3 = some m.cls := findClass_of_methodNamed B.named
  have hlocks := B.notSynchronized
  subst hsz
  have hD := hD0.self (sz := s.heap.size)
  generalize hAe : va_A [(h0_, .inr (3, [.int p1_, .ref h2_, .ref h3_, .ref h4_, .int p5_, .ref h6_]))] s.heap.size = A at hD ⊢
  have hA : ∀ q : Nat, s.heap.size ≤ q → A q := fun q h => by rw [← hAe]; exact Or.inr h
  have hS : va_S A s.heap s.heap [] := va_S.rf
  have hP : va_P (dC, dI) vwCl [(h0_, .inr (3, [.int p1_, .ref h2_, .ref h3_, .ref h4_, .int p5_, .ref h6_]))] s.heap := hP
  have hl := lv_entry ([.ref h0_]) (n := 1) (Nat.le_of_ble_eq_true rfl)
  rw [lg_entry_eq]
  generalize (lg_sl ([.ref h0_]) ++ List.replicate (1 - (lg_sl ([.ref h0_])).length) Slot.unset).toArray = ls at hl ⊢
  have hl : lv_has ls 1 [(0, .ref h0_)] := hl
  refine lv_aload_n hx hb dX3_wipe_0 rfl (lv_at hl 0 rfl) ?_
  refine lv_iconst (v := 0) hx hb dX3_wipe_1 (by decide) ?_
  refine va_put (D := (dC, dI)) (ci := 3) (v := .int 0) (ty := tyX3 0) (C := RX3) (T := TX3) (N := 6) hx hb hts (mc_ inX3) tyX3 tyX3_ok nmX3 hown hK hP hD hS 0 rfl rfl 0 (by decide) (hts _ (List.mem_cons_of_mem _ t_801)) (fun _ h9 => h9) rfl (by decide +kernel) rfl rfl (Nat.le_of_ble_eq_true rfl) dX3_wipe_2 (fun H locs hP hD hS => ?_)
  have hP : va_P (dC, dI) vwCl [(h0_, .inr (3, [.int 0, .ref h2_, .ref h3_, .ref h4_, .int p5_, .ref h6_]))] H := hP
  have hD : va_D A [(h0_, .inr (3, [.int 0, .ref h2_, .ref h3_, .ref h4_, .int p5_, .ref h6_]))] := hD
  refine lv_aload_n hx hb dX3_wipe_5 rfl (lv_at hl 0 rfl) ?_
  refine lv_iconst (v := 0) hx hb dX3_wipe_6 (by decide) ?_
  refine va_put (D := (dC, dI)) (ci := 3) (v := .int 0) (ty := tyX3 4) (C := RX3) (T := TX3) (N := 6) hx hb hts (mc_ inX3) tyX3 tyX3_ok nmX3 hown hK hP hD hS 0 rfl rfl 4 (by decide) (hts _ (List.mem_cons_of_mem _ t_813)) (fun _ h9 => h9) rfl (by decide +kernel) rfl rfl (Nat.le_of_ble_eq_true rfl) dX3_wipe_7 (fun H locs hP hD hS => ?_)
  have hP : va_P (dC, dI) vwCl [(h0_, .inr (3, [.int 0, .ref h2_, .ref h3_, .ref h4_, .int 0, .ref h6_]))] H := hP
  have hD : va_D A [(h0_, .inr (3, [.int 0, .ref h2_, .ref h3_, .ref h4_, .int 0, .ref h6_]))] := hD
  have hP9 := hP.sub (ws' := [(h0_, .inr (3, [.int 0, .ref h2_, .ref h3_, .ref h4_, .int 0, .ref h6_]))]) [0] rfl
  have hD9 := hD.sub (ws' := [(h0_, .inr (3, [.int 0, .ref h2_, .ref h3_, .ref h4_, .int 0, .ref h6_]))]) [0] (by decide) rfl
  have hK9 := hK.sub (tys' := []) [] rfl
  refine W.widen (k := 0) (n := 0) (Nat.le_of_ble_eq_true rfl) (Nat.le_of_ble_eq_true rfl) ?_
  exact W.vret hx hb hr (fun t ht hW => ⟨⟨(), rfl, trivial, by rw [ht]; exact hP9, va_K.moved hW.alike hK9, hD9⟩, hS.F ht⟩) hS.2.2 dX3_wipe_10
set_option maxHeartbeats 4000000 in
set_option maxRecDepth 100000 in
theorem s_X4_forgetCall (l : Launch) (dC : Nat → ClassId) (dI : Nat → Nat → Nat) (h0_ : Nat) (p1_ : Int32) (p2_ : Int32) (p3_ : Int32) (p4_ : Int32) (p5_ : Int32) (p6_ : Int32) (p7_ : Int64) (p8_ : Int32) (h9_ : Nat) (h10_ : Nat) (h11_ : Nat) (h12_ : Nat) (h13_ : Nat) (h14_ : Nat) (h15_ : Nat) (p16_ : Int32) (p17_ : Int32) (p18_ : Int32) (k19_ : ClassId) (f20_ : Nat → Int32) (k21_ : ClassId) (f22_ : Nat → Int32) (hb_p8_ : 0 ≤ p8_.toInt ∧ p8_.toInt ≤ 3) (sz : Nat) : Met l yX4_forgetCall (.code yX4_forgetCall cX4_forgetCall 2 none :: lw_g) ({ frames := 0, cells := 0, slots := 0, locals := 0 }) (va_Pc [.ref h0_, .int p1_] (fun U => U.heap.size = sz ∧ va_P (dC, dI) vwCl [(h0_, .inr (4, [.int p2_, .int p3_, .int p4_, .int p5_, .int p6_, .long p7_, .int p8_, .ref h9_, .ref h10_, .ref h11_, .ref h12_, .ref h13_, .ref h14_, .ref h15_, .int p16_, .int p17_, .int p18_])), (h14_, .inl (k19_, 10, .inl f20_)), (h15_, .inl (k21_, 10, .inl f22_))] U.heap ∧ va_K (dC, dI) vwCl [(k19_, .int), (k21_, .int)] U ∧ va_D (fun _ => True) [(h0_, .inr (4, [.int p2_, .int p3_, .int p4_, .int p5_, .int p6_, .long p7_, .int p8_, .ref h9_, .ref h10_, .ref h11_, .ref h12_, .ref h13_, .ref h14_, .ref h15_, .int p16_, .int p17_, .int p18_])), (h14_, .inl (k19_, 10, .inl f20_)), (h15_, .inl (k21_, 10, .inl f22_))])) (va_Qv (fun _ : Unit => True) (fun (_ : Unit) (t : State) => ∃ z0 : Nat → Int32, ∃ z1 : Nat → Int32, va_P (dC, dI) vwCl [(h0_, .inr (4, [.int p2_, .int p3_, .int p4_, .int p5_, .int p6_, .long p7_, .int p8_, .ref h9_, .ref h10_, .ref h11_, .ref h12_, .ref h13_, .ref h14_, .ref h15_, .int p16_, .int p17_, .int p18_])), (h14_, .inl (k19_, 10, .inl z0)), (h15_, .inl (k21_, 10, .inl z1))] t.heap ∧ va_K (dC, dI) vwCl [(k19_, .int), (k21_, .int)] t ∧ va_D (va_A [(h0_, .inr (4, [.int p2_, .int p3_, .int p4_, .int p5_, .int p6_, .long p7_, .int p8_, .ref h9_, .ref h10_, .ref h11_, .ref h12_, .ref h13_, .ref h14_, .ref h15_, .int p16_, .int p17_, .int p18_])), (h14_, .inl (k19_, 10, .inl f20_)), (h15_, .inl (k21_, 10, .inl f22_))] sz) [(h0_, .inr (4, [.int p2_, .int p3_, .int p4_, .int p5_, .int p6_, .long p7_, .int p8_, .ref h9_, .ref h10_, .ref h11_, .ref h12_, .ref h13_, .ref h14_, .ref h15_, .int p16_, .int p17_, .int p18_])), (h14_, .inl (k19_, 10, .inl z0)), (h15_, .inl (k21_, 10, .inl z1))]) (va_A [(h0_, .inr (4, [.int p2_, .int p3_, .int p4_, .int p5_, .int p6_, .long p7_, .int p8_, .ref h9_, .ref h10_, .ref h11_, .ref h12_, .ref h13_, .ref h14_, .ref h15_, .int p16_, .int p17_, .int p18_])), (h14_, .inl (k19_, 10, .inl f20_)), (h15_, .inl (k21_, 10, .inl f22_))] sz)) 0 0 (va_A [(h0_, .inr (4, [.int p2_, .int p3_, .int p4_, .int p5_, .int p6_, .long p7_, .int p8_, .ref h9_, .ref h10_, .ref h11_, .ref h12_, .ref h13_, .ref h14_, .ref h15_, .int p16_, .int p17_, .int p18_])), (h14_, .inl (k19_, 10, .inl f20_)), (h15_, .inl (k21_, 10, .inl f22_))] sz) := by
  refine Met.ofW (cc := cX4_forgetCall) (maxL := 2) (ret := none) (by decide) rfl ?_
  intro p e s m args below meth c s₁ B hml hv
  obtain ⟨rfl, hsz, hP, hK, hD0⟩ := hv
  have hx := B.exec
  have hb := B.bytes
  have hr := B.returns
  have hts := atoms_spec (ws := (.code yX4_forgetCall cX4_forgetCall 2 none :: lw_g)) B.pre
  have hown : s.vm.findClass RX4 = some m.cls := findClass_of_methodNamed B.named
  have hlocks := B.notSynchronized
  subst hsz
  have hD := hD0.self (sz := s.heap.size)
  generalize hAe : va_A [(h0_, .inr (4, [.int p2_, .int p3_, .int p4_, .int p5_, .int p6_, .long p7_, .int p8_, .ref h9_, .ref h10_, .ref h11_, .ref h12_, .ref h13_, .ref h14_, .ref h15_, .int p16_, .int p17_, .int p18_])), (h14_, .inl (k19_, 10, .inl f20_)), (h15_, .inl (k21_, 10, .inl f22_))] s.heap.size = A at hD ⊢
  have hA : ∀ q : Nat, s.heap.size ≤ q → A q := fun q h => by rw [← hAe]; exact Or.inr h
  have hS : va_S A s.heap s.heap [] := va_S.rf
  have hP : va_P (dC, dI) vwCl [(h0_, .inr (4, [.int p2_, .int p3_, .int p4_, .int p5_, .int p6_, .long p7_, .int p8_, .ref h9_, .ref h10_, .ref h11_, .ref h12_, .ref h13_, .ref h14_, .ref h15_, .int p16_, .int p17_, .int p18_])), (h14_, .inl (k19_, 10, .inl f20_)), (h15_, .inl (k21_, 10, .inl f22_))] s.heap := hP
  have hl := lv_entry ([.ref h0_, .int p1_]) (n := 2) (Nat.le_of_ble_eq_true rfl)
  rw [lg_entry_eq]
  generalize (lg_sl ([.ref h0_, .int p1_]) ++ List.replicate (2 - (lg_sl ([.ref h0_, .int p1_])).length) Slot.unset).toArray = ls at hl ⊢
  have hl : lv_has ls 2 [(0, .ref h0_), (1, .int p1_)] := hl
  refine lv_iload_n hx hb dX4_forgetCall_0 rfl (lv_at hl 1 rfl) ?_
  have kc_0 : (0 : Int32).toInt = 0 := by decide
  refine lv_if_lt (tgt := 24) hx hb dX4_forgetCall_1 (by decide) (fun c_1 => ?_) (fun c_1 => ?_)
  · have fc_1 := lt_f c_1
    have hP9 := hP.sub (ws' := [(h0_, .inr (4, [.int p2_, .int p3_, .int p4_, .int p5_, .int p6_, .long p7_, .int p8_, .ref h9_, .ref h10_, .ref h11_, .ref h12_, .ref h13_, .ref h14_, .ref h15_, .int p16_, .int p17_, .int p18_])), (h14_, .inl (k19_, 10, .inl f20_)), (h15_, .inl (k21_, 10, .inl f22_))]) [0, 1, 2] rfl
    have hD9 := hD.sub (ws' := [(h0_, .inr (4, [.int p2_, .int p3_, .int p4_, .int p5_, .int p6_, .long p7_, .int p8_, .ref h9_, .ref h10_, .ref h11_, .ref h12_, .ref h13_, .ref h14_, .ref h15_, .int p16_, .int p17_, .int p18_])), (h14_, .inl (k19_, 10, .inl f20_)), (h15_, .inl (k21_, 10, .inl f22_))]) [0, 1, 2] (by decide) rfl
    have hK9 := hK.sub (tys' := [(k19_, .int), (k21_, .int)]) [0, 1] rfl
    refine W.widen (k := 0) (n := 0) (Nat.le_of_ble_eq_true rfl) (Nat.le_of_ble_eq_true rfl) ?_
    exact W.vret hx hb hr (fun t ht hW => ⟨⟨(), rfl, trivial, f20_, f22_, by rw [ht]; exact hP9, va_K.moved hW.alike hK9, hD9⟩, hS.F ht⟩) hS.2.2 dX4_forgetCall_24
  · have fc_1 := nlt_f c_1
    refine lv_iload_n hx hb dX4_forgetCall_4 rfl (lv_at hl 1 rfl) ?_
    refine lv_bipush (v := 10) hx hb dX4_forgetCall_5 (by decide) ?_
    have kc_10 : (10 : Int32).toInt = 10 := by decide
    refine lv_icmp_ge (tgt := 24) hx hb dX4_forgetCall_7 (by decide) (fun c_2 => ?_) (fun c_2 => ?_)
    · have fc_2 := le_f c_2
      have hP9 := hP.sub (ws' := [(h0_, .inr (4, [.int p2_, .int p3_, .int p4_, .int p5_, .int p6_, .long p7_, .int p8_, .ref h9_, .ref h10_, .ref h11_, .ref h12_, .ref h13_, .ref h14_, .ref h15_, .int p16_, .int p17_, .int p18_])), (h14_, .inl (k19_, 10, .inl f20_)), (h15_, .inl (k21_, 10, .inl f22_))]) [0, 1, 2] rfl
      have hD9 := hD.sub (ws' := [(h0_, .inr (4, [.int p2_, .int p3_, .int p4_, .int p5_, .int p6_, .long p7_, .int p8_, .ref h9_, .ref h10_, .ref h11_, .ref h12_, .ref h13_, .ref h14_, .ref h15_, .int p16_, .int p17_, .int p18_])), (h14_, .inl (k19_, 10, .inl f20_)), (h15_, .inl (k21_, 10, .inl f22_))]) [0, 1, 2] (by decide) rfl
      have hK9 := hK.sub (tys' := [(k19_, .int), (k21_, .int)]) [0, 1] rfl
      refine W.widen (k := 0) (n := 0) (Nat.le_of_ble_eq_true rfl) (Nat.le_of_ble_eq_true rfl) ?_
      exact W.vret hx hb hr (fun t ht hW => ⟨⟨(), rfl, trivial, f20_, f22_, by rw [ht]; exact hP9, va_K.moved hW.alike hK9, hD9⟩, hS.F ht⟩) hS.2.2 dX4_forgetCall_24
    · have fc_2 := nle_f c_2
      refine lv_aload_n hx hb dX4_forgetCall_10 rfl (lv_at hl 0 rfl) ?_
      refine va_get (D := (dC, dI)) (ci := 4) (v := .ref h14_) (C := RX4) (T := TX4) (N := 17) hx hb hts (mc_ inX4) hown hK hP 0 rfl rfl 12 (by decide) (hts _ (List.mem_cons_of_mem _ t_867)) (fun _ h9 => h9) rfl dX4_forgetCall_11 ?_
      refine lv_iload_n hx hb dX4_forgetCall_14 rfl (lv_at hl 1 rfl) ?_
      refine lv_iconst (v := 0) hx hb dX4_forgetCall_15 (by decide) ?_
      refine va_iast hx hb hK hP hD hS 1 0 rfl rfl (in_ok (by omega) (by omega)) dX4_forgetCall_16 (fun H locs hP hD hS => ?_)
      have hP : va_P (dC, dI) vwCl [(h0_, .inr (4, [.int p2_, .int p3_, .int p4_, .int p5_, .int p6_, .long p7_, .int p8_, .ref h9_, .ref h10_, .ref h11_, .ref h12_, .ref h13_, .ref h14_, .ref h15_, .int p16_, .int p17_, .int p18_])), (h14_, .inl (k19_, 10, .inl (upd f20_ (p1_ : Int32).toNatClampNeg 0))), (h15_, .inl (k21_, 10, .inl f22_))] H := hP
      have hD : va_D A [(h0_, .inr (4, [.int p2_, .int p3_, .int p4_, .int p5_, .int p6_, .long p7_, .int p8_, .ref h9_, .ref h10_, .ref h11_, .ref h12_, .ref h13_, .ref h14_, .ref h15_, .int p16_, .int p17_, .int p18_])), (h14_, .inl (k19_, 10, .inl (upd f20_ (p1_ : Int32).toNatClampNeg 0))), (h15_, .inl (k21_, 10, .inl f22_))] := hD
      generalize (upd f20_ (p1_ : Int32).toNatClampNeg 0) = f_3 at hP hD
      refine lv_aload_n hx hb dX4_forgetCall_17 rfl (lv_at hl 0 rfl) ?_
      refine va_get (D := (dC, dI)) (ci := 4) (v := .ref h15_) (C := RX4) (T := TX4) (N := 17) hx hb hts (mc_ inX4) hown hK hP 0 rfl rfl 13 (by decide) (hts _ (List.mem_cons_of_mem _ t_870)) (fun _ h9 => h9) rfl dX4_forgetCall_18 ?_
      refine lv_iload_n hx hb dX4_forgetCall_21 rfl (lv_at hl 1 rfl) ?_
      refine lv_iconst (v := 0) hx hb dX4_forgetCall_22 (by decide) ?_
      refine va_iast hx hb hK hP hD hS 2 1 rfl rfl (in_ok (by omega) (by omega)) dX4_forgetCall_23 (fun H locs hP hD hS => ?_)
      have hP : va_P (dC, dI) vwCl [(h0_, .inr (4, [.int p2_, .int p3_, .int p4_, .int p5_, .int p6_, .long p7_, .int p8_, .ref h9_, .ref h10_, .ref h11_, .ref h12_, .ref h13_, .ref h14_, .ref h15_, .int p16_, .int p17_, .int p18_])), (h14_, .inl (k19_, 10, .inl f_3)), (h15_, .inl (k21_, 10, .inl (upd f22_ (p1_ : Int32).toNatClampNeg 0)))] H := hP
      have hD : va_D A [(h0_, .inr (4, [.int p2_, .int p3_, .int p4_, .int p5_, .int p6_, .long p7_, .int p8_, .ref h9_, .ref h10_, .ref h11_, .ref h12_, .ref h13_, .ref h14_, .ref h15_, .int p16_, .int p17_, .int p18_])), (h14_, .inl (k19_, 10, .inl f_3)), (h15_, .inl (k21_, 10, .inl (upd f22_ (p1_ : Int32).toNatClampNeg 0)))] := hD
      generalize (upd f22_ (p1_ : Int32).toNatClampNeg 0) = f_4 at hP hD
      have hP9 := hP.sub (ws' := [(h0_, .inr (4, [.int p2_, .int p3_, .int p4_, .int p5_, .int p6_, .long p7_, .int p8_, .ref h9_, .ref h10_, .ref h11_, .ref h12_, .ref h13_, .ref h14_, .ref h15_, .int p16_, .int p17_, .int p18_])), (h14_, .inl (k19_, 10, .inl f_3)), (h15_, .inl (k21_, 10, .inl f_4))]) [0, 1, 2] rfl
      have hD9 := hD.sub (ws' := [(h0_, .inr (4, [.int p2_, .int p3_, .int p4_, .int p5_, .int p6_, .long p7_, .int p8_, .ref h9_, .ref h10_, .ref h11_, .ref h12_, .ref h13_, .ref h14_, .ref h15_, .int p16_, .int p17_, .int p18_])), (h14_, .inl (k19_, 10, .inl f_3)), (h15_, .inl (k21_, 10, .inl f_4))]) [0, 1, 2] (by decide) rfl
      have hK9 := hK.sub (tys' := [(k19_, .int), (k21_, .int)]) [0, 1] rfl
      refine W.widen (k := 0) (n := 0) (Nat.le_of_ble_eq_true rfl) (Nat.le_of_ble_eq_true rfl) ?_
      exact W.vret hx hb hr (fun t ht hW => ⟨⟨(), rfl, trivial, f_3, f_4, by rw [ht]; exact hP9, va_K.moved hW.alike hK9, hD9⟩, hS.F ht⟩) hS.2.2 dX4_forgetCall_24
set_option maxHeartbeats 4000000 in
set_option maxRecDepth 100000 in
theorem s_X4_wipe (l : Launch) (dC : Nat → ClassId) (dI : Nat → Nat → Nat) (h0_ : Nat) (p1_ : Int32) (p2_ : Int32) (p3_ : Int32) (p4_ : Int32) (p5_ : Int32) (p6_ : Int64) (p7_ : Int32) (h8_ : Nat) (h9_ : Nat) (h10_ : Nat) (h11_ : Nat) (h12_ : Nat) (h13_ : Nat) (h14_ : Nat) (p15_ : Int32) (p16_ : Int32) (p17_ : Int32) (k18_ : ClassId) (f19_ : Nat → Int32) (k20_ : ClassId) (f21_ : Nat → Int32) (hb_p7_ : 0 ≤ p7_.toInt ∧ p7_.toInt ≤ 3) (sz : Nat) : Met l yX4_wipe (.code yX4_wipe cX4_wipe 2 none :: lw_g) ({ frames := 1, cells := 0, slots := 0, locals := 21 }) (va_Pc [.ref h0_] (fun U => U.heap.size = sz ∧ va_P (dC, dI) vwCl [(h0_, .inr (4, [.int p1_, .int p2_, .int p3_, .int p4_, .int p5_, .long p6_, .int p7_, .ref h8_, .ref h9_, .ref h10_, .ref h11_, .ref h12_, .ref h13_, .ref h14_, .int p15_, .int p16_, .int p17_])), (h13_, .inl (k18_, 10, .inl f19_)), (h14_, .inl (k20_, 10, .inl f21_))] U.heap ∧ va_K (dC, dI) vwCl [(k18_, .int), (k20_, .int)] U ∧ va_D (fun _ => True) [(h0_, .inr (4, [.int p1_, .int p2_, .int p3_, .int p4_, .int p5_, .long p6_, .int p7_, .ref h8_, .ref h9_, .ref h10_, .ref h11_, .ref h12_, .ref h13_, .ref h14_, .int p15_, .int p16_, .int p17_])), (h13_, .inl (k18_, 10, .inl f19_)), (h14_, .inl (k20_, 10, .inl f21_))])) (va_Qv (fun _ : Unit => True) (fun (_ : Unit) (t : State) => ∃ z0 : Nat → Int32, ∃ z1 : Nat → Int32, va_P (dC, dI) vwCl [(h0_, .inr (4, [.int 0, .int (-1), .int (-1), .int (-1), .int (-1), .long 0, .int 0, .ref h8_, .ref h9_, .ref h10_, .ref h11_, .ref h12_, .ref h13_, .ref h14_, .int 0, .int p16_, .int p17_])), (h13_, .inl (k18_, 10, .inl z0)), (h14_, .inl (k20_, 10, .inl z1))] t.heap ∧ va_K (dC, dI) vwCl [(k18_, .int), (k20_, .int)] t ∧ va_D (va_A [(h0_, .inr (4, [.int p1_, .int p2_, .int p3_, .int p4_, .int p5_, .long p6_, .int p7_, .ref h8_, .ref h9_, .ref h10_, .ref h11_, .ref h12_, .ref h13_, .ref h14_, .int p15_, .int p16_, .int p17_])), (h13_, .inl (k18_, 10, .inl f19_)), (h14_, .inl (k20_, 10, .inl f21_))] sz) [(h0_, .inr (4, [.int 0, .int (-1), .int (-1), .int (-1), .int (-1), .long 0, .int 0, .ref h8_, .ref h9_, .ref h10_, .ref h11_, .ref h12_, .ref h13_, .ref h14_, .int 0, .int p16_, .int p17_])), (h13_, .inl (k18_, 10, .inl z0)), (h14_, .inl (k20_, 10, .inl z1))]) (va_A [(h0_, .inr (4, [.int p1_, .int p2_, .int p3_, .int p4_, .int p5_, .long p6_, .int p7_, .ref h8_, .ref h9_, .ref h10_, .ref h11_, .ref h12_, .ref h13_, .ref h14_, .int p15_, .int p16_, .int p17_])), (h13_, .inl (k18_, 10, .inl f19_)), (h14_, .inl (k20_, 10, .inl f21_))] sz)) 0 0 (va_A [(h0_, .inr (4, [.int p1_, .int p2_, .int p3_, .int p4_, .int p5_, .long p6_, .int p7_, .ref h8_, .ref h9_, .ref h10_, .ref h11_, .ref h12_, .ref h13_, .ref h14_, .int p15_, .int p16_, .int p17_])), (h13_, .inl (k18_, 10, .inl f19_)), (h14_, .inl (k20_, 10, .inl f21_))] sz) := by
  refine Met.ofW (cc := cX4_wipe) (maxL := 2) (ret := none) (by decide) rfl ?_
  intro p e s m args below meth c s₁ B hml hv
  obtain ⟨rfl, hsz, hP, hK, hD0⟩ := hv
  have hx := B.exec
  have hb := B.bytes
  have hr := B.returns
  have hts := atoms_spec (ws := (.code yX4_wipe cX4_wipe 2 none :: lw_g)) B.pre
  have hown : s.vm.findClass RX4 = some m.cls := findClass_of_methodNamed B.named
  have hlocks := B.notSynchronized
  subst hsz
  have hD := hD0.self (sz := s.heap.size)
  generalize hAe : va_A [(h0_, .inr (4, [.int p1_, .int p2_, .int p3_, .int p4_, .int p5_, .long p6_, .int p7_, .ref h8_, .ref h9_, .ref h10_, .ref h11_, .ref h12_, .ref h13_, .ref h14_, .int p15_, .int p16_, .int p17_])), (h13_, .inl (k18_, 10, .inl f19_)), (h14_, .inl (k20_, 10, .inl f21_))] s.heap.size = A at hD ⊢
  have hA : ∀ q : Nat, s.heap.size ≤ q → A q := fun q h => by rw [← hAe]; exact Or.inr h
  have hS : va_S A s.heap s.heap [] := va_S.rf
  have hP : va_P (dC, dI) vwCl [(h0_, .inr (4, [.int p1_, .int p2_, .int p3_, .int p4_, .int p5_, .long p6_, .int p7_, .ref h8_, .ref h9_, .ref h10_, .ref h11_, .ref h12_, .ref h13_, .ref h14_, .int p15_, .int p16_, .int p17_])), (h13_, .inl (k18_, 10, .inl f19_)), (h14_, .inl (k20_, 10, .inl f21_))] s.heap := hP
  have hl := lv_entry ([.ref h0_]) (n := 2) (Nat.le_of_ble_eq_true rfl)
  rw [lg_entry_eq]
  generalize (lg_sl ([.ref h0_]) ++ List.replicate (2 - (lg_sl ([.ref h0_])).length) Slot.unset).toArray = ls at hl ⊢
  have hl : lv_has ls 2 [(0, .ref h0_)] := hl
  refine lv_aload_n hx hb dX4_wipe_0 rfl (lv_at hl 0 rfl) ?_
  refine lv_iconst (v := 0) hx hb dX4_wipe_1 (by decide) ?_
  refine va_put (D := (dC, dI)) (ci := 4) (v := .int 0) (ty := tyX4 0) (C := RX4) (T := TX4) (N := 17) hx hb hts (mc_ inX4) tyX4 tyX4_ok nmX4 hown hK hP hD hS 0 rfl rfl 0 (by decide) (hts _ (List.mem_cons_of_mem _ t_836)) (fun _ h9 => h9) rfl (by decide +kernel) rfl rfl (Nat.le_of_ble_eq_true rfl) dX4_wipe_2 (fun H locs hP hD hS => ?_)
  have hP : va_P (dC, dI) vwCl [(h0_, .inr (4, [.int 0, .int p2_, .int p3_, .int p4_, .int p5_, .long p6_, .int p7_, .ref h8_, .ref h9_, .ref h10_, .ref h11_, .ref h12_, .ref h13_, .ref h14_, .int p15_, .int p16_, .int p17_])), (h13_, .inl (k18_, 10, .inl f19_)), (h14_, .inl (k20_, 10, .inl f21_))] H := hP
  have hD : va_D A [(h0_, .inr (4, [.int 0, .int p2_, .int p3_, .int p4_, .int p5_, .long p6_, .int p7_, .ref h8_, .ref h9_, .ref h10_, .ref h11_, .ref h12_, .ref h13_, .ref h14_, .int p15_, .int p16_, .int p17_])), (h13_, .inl (k18_, 10, .inl f19_)), (h14_, .inl (k20_, 10, .inl f21_))] := hD
  refine lv_aload_n hx hb dX4_wipe_5 rfl (lv_at hl 0 rfl) ?_
  refine lv_iconst (v := (-1)) hx hb dX4_wipe_6 (by decide) ?_
  refine va_put (D := (dC, dI)) (ci := 4) (v := .int (-1)) (ty := tyX4 1) (C := RX4) (T := TX4) (N := 17) hx hb hts (mc_ inX4) tyX4 tyX4_ok nmX4 hown hK hP hD hS 0 rfl rfl 1 (by decide) (hts _ (List.mem_cons_of_mem _ t_839)) (fun _ h9 => h9) rfl (by decide +kernel) rfl rfl (Nat.le_of_ble_eq_true rfl) dX4_wipe_7 (fun H locs hP hD hS => ?_)
  have hP : va_P (dC, dI) vwCl [(h0_, .inr (4, [.int 0, .int (-1), .int p3_, .int p4_, .int p5_, .long p6_, .int p7_, .ref h8_, .ref h9_, .ref h10_, .ref h11_, .ref h12_, .ref h13_, .ref h14_, .int p15_, .int p16_, .int p17_])), (h13_, .inl (k18_, 10, .inl f19_)), (h14_, .inl (k20_, 10, .inl f21_))] H := hP
  have hD : va_D A [(h0_, .inr (4, [.int 0, .int (-1), .int p3_, .int p4_, .int p5_, .long p6_, .int p7_, .ref h8_, .ref h9_, .ref h10_, .ref h11_, .ref h12_, .ref h13_, .ref h14_, .int p15_, .int p16_, .int p17_])), (h13_, .inl (k18_, 10, .inl f19_)), (h14_, .inl (k20_, 10, .inl f21_))] := hD
  refine lv_aload_n hx hb dX4_wipe_10 rfl (lv_at hl 0 rfl) ?_
  refine lv_iconst (v := (-1)) hx hb dX4_wipe_11 (by decide) ?_
  refine va_put (D := (dC, dI)) (ci := 4) (v := .int (-1)) (ty := tyX4 2) (C := RX4) (T := TX4) (N := 17) hx hb hts (mc_ inX4) tyX4 tyX4_ok nmX4 hown hK hP hD hS 0 rfl rfl 2 (by decide) (hts _ (List.mem_cons_of_mem _ t_841)) (fun _ h9 => h9) rfl (by decide +kernel) rfl rfl (Nat.le_of_ble_eq_true rfl) dX4_wipe_12 (fun H locs hP hD hS => ?_)
  have hP : va_P (dC, dI) vwCl [(h0_, .inr (4, [.int 0, .int (-1), .int (-1), .int p4_, .int p5_, .long p6_, .int p7_, .ref h8_, .ref h9_, .ref h10_, .ref h11_, .ref h12_, .ref h13_, .ref h14_, .int p15_, .int p16_, .int p17_])), (h13_, .inl (k18_, 10, .inl f19_)), (h14_, .inl (k20_, 10, .inl f21_))] H := hP
  have hD : va_D A [(h0_, .inr (4, [.int 0, .int (-1), .int (-1), .int p4_, .int p5_, .long p6_, .int p7_, .ref h8_, .ref h9_, .ref h10_, .ref h11_, .ref h12_, .ref h13_, .ref h14_, .int p15_, .int p16_, .int p17_])), (h13_, .inl (k18_, 10, .inl f19_)), (h14_, .inl (k20_, 10, .inl f21_))] := hD
  refine lv_aload_n hx hb dX4_wipe_15 rfl (lv_at hl 0 rfl) ?_
  refine lv_iconst (v := (-1)) hx hb dX4_wipe_16 (by decide) ?_
  refine va_put (D := (dC, dI)) (ci := 4) (v := .int (-1)) (ty := tyX4 3) (C := RX4) (T := TX4) (N := 17) hx hb hts (mc_ inX4) tyX4 tyX4_ok nmX4 hown hK hP hD hS 0 rfl rfl 3 (by decide) (hts _ (List.mem_cons_of_mem _ t_843)) (fun _ h9 => h9) rfl (by decide +kernel) rfl rfl (Nat.le_of_ble_eq_true rfl) dX4_wipe_17 (fun H locs hP hD hS => ?_)
  have hP : va_P (dC, dI) vwCl [(h0_, .inr (4, [.int 0, .int (-1), .int (-1), .int (-1), .int p5_, .long p6_, .int p7_, .ref h8_, .ref h9_, .ref h10_, .ref h11_, .ref h12_, .ref h13_, .ref h14_, .int p15_, .int p16_, .int p17_])), (h13_, .inl (k18_, 10, .inl f19_)), (h14_, .inl (k20_, 10, .inl f21_))] H := hP
  have hD : va_D A [(h0_, .inr (4, [.int 0, .int (-1), .int (-1), .int (-1), .int p5_, .long p6_, .int p7_, .ref h8_, .ref h9_, .ref h10_, .ref h11_, .ref h12_, .ref h13_, .ref h14_, .int p15_, .int p16_, .int p17_])), (h13_, .inl (k18_, 10, .inl f19_)), (h14_, .inl (k20_, 10, .inl f21_))] := hD
  refine lv_aload_n hx hb dX4_wipe_20 rfl (lv_at hl 0 rfl) ?_
  refine lv_iconst (v := (-1)) hx hb dX4_wipe_21 (by decide) ?_
  refine va_put (D := (dC, dI)) (ci := 4) (v := .int (-1)) (ty := tyX4 4) (C := RX4) (T := TX4) (N := 17) hx hb hts (mc_ inX4) tyX4 tyX4_ok nmX4 hown hK hP hD hS 0 rfl rfl 4 (by decide) (hts _ (List.mem_cons_of_mem _ t_845)) (fun _ h9 => h9) rfl (by decide +kernel) rfl rfl (Nat.le_of_ble_eq_true rfl) dX4_wipe_22 (fun H locs hP hD hS => ?_)
  have hP : va_P (dC, dI) vwCl [(h0_, .inr (4, [.int 0, .int (-1), .int (-1), .int (-1), .int (-1), .long p6_, .int p7_, .ref h8_, .ref h9_, .ref h10_, .ref h11_, .ref h12_, .ref h13_, .ref h14_, .int p15_, .int p16_, .int p17_])), (h13_, .inl (k18_, 10, .inl f19_)), (h14_, .inl (k20_, 10, .inl f21_))] H := hP
  have hD : va_D A [(h0_, .inr (4, [.int 0, .int (-1), .int (-1), .int (-1), .int (-1), .long p6_, .int p7_, .ref h8_, .ref h9_, .ref h10_, .ref h11_, .ref h12_, .ref h13_, .ref h14_, .int p15_, .int p16_, .int p17_])), (h13_, .inl (k18_, 10, .inl f19_)), (h14_, .inl (k20_, 10, .inl f21_))] := hD
  refine lv_aload_n hx hb dX4_wipe_25 rfl (lv_at hl 0 rfl) ?_
  refine lv_lconst (v := 0) hx hb dX4_wipe_26 (by decide) ?_
  refine va_put (D := (dC, dI)) (ci := 4) (v := .long 0) (ty := tyX4 5) (C := RX4) (T := TX4) (N := 17) hx hb hts (mc_ inX4) tyX4 tyX4_ok nmX4 hown hK hP hD hS 0 rfl rfl 5 (by decide) (hts _ (List.mem_cons_of_mem _ t_847)) (fun _ h9 => h9) rfl (by decide +kernel) rfl rfl (Nat.le_of_ble_eq_true rfl) dX4_wipe_27 (fun H locs hP hD hS => ?_)
  have hP : va_P (dC, dI) vwCl [(h0_, .inr (4, [.int 0, .int (-1), .int (-1), .int (-1), .int (-1), .long 0, .int p7_, .ref h8_, .ref h9_, .ref h10_, .ref h11_, .ref h12_, .ref h13_, .ref h14_, .int p15_, .int p16_, .int p17_])), (h13_, .inl (k18_, 10, .inl f19_)), (h14_, .inl (k20_, 10, .inl f21_))] H := hP
  have hD : va_D A [(h0_, .inr (4, [.int 0, .int (-1), .int (-1), .int (-1), .int (-1), .long 0, .int p7_, .ref h8_, .ref h9_, .ref h10_, .ref h11_, .ref h12_, .ref h13_, .ref h14_, .int p15_, .int p16_, .int p17_])), (h13_, .inl (k18_, 10, .inl f19_)), (h14_, .inl (k20_, 10, .inl f21_))] := hD
  refine lv_aload_n hx hb dX4_wipe_30 rfl (lv_at hl 0 rfl) ?_
  refine lv_iconst (v := 0) hx hb dX4_wipe_31 (by decide) ?_
  refine va_put (D := (dC, dI)) (ci := 4) (v := .int 0) (ty := tyX4 6) (C := RX4) (T := TX4) (N := 17) hx hb hts (mc_ inX4) tyX4 tyX4_ok nmX4 hown hK hP hD hS 0 rfl rfl 6 (by decide) (hts _ (List.mem_cons_of_mem _ t_850)) (fun _ h9 => h9) rfl (by decide +kernel) rfl rfl (Nat.le_of_ble_eq_true rfl) dX4_wipe_32 (fun H locs hP hD hS => ?_)
  have hP : va_P (dC, dI) vwCl [(h0_, .inr (4, [.int 0, .int (-1), .int (-1), .int (-1), .int (-1), .long 0, .int 0, .ref h8_, .ref h9_, .ref h10_, .ref h11_, .ref h12_, .ref h13_, .ref h14_, .int p15_, .int p16_, .int p17_])), (h13_, .inl (k18_, 10, .inl f19_)), (h14_, .inl (k20_, 10, .inl f21_))] H := hP
  have hD : va_D A [(h0_, .inr (4, [.int 0, .int (-1), .int (-1), .int (-1), .int (-1), .long 0, .int 0, .ref h8_, .ref h9_, .ref h10_, .ref h11_, .ref h12_, .ref h13_, .ref h14_, .int p15_, .int p16_, .int p17_])), (h13_, .inl (k18_, 10, .inl f19_)), (h14_, .inl (k20_, 10, .inl f21_))] := hD
  refine lv_aload_n hx hb dX4_wipe_35 rfl (lv_at hl 0 rfl) ?_
  refine lv_iconst (v := 0) hx hb dX4_wipe_36 (by decide) ?_
  refine va_put (D := (dC, dI)) (ci := 4) (v := .int 0) (ty := tyX4 14) (C := RX4) (T := TX4) (N := 17) hx hb hts (mc_ inX4) tyX4 tyX4_ok nmX4 hown hK hP hD hS 0 rfl rfl 14 (by decide) (hts _ (List.mem_cons_of_mem _ t_873)) (fun _ h9 => h9) rfl (by decide +kernel) rfl rfl (Nat.le_of_ble_eq_true rfl) dX4_wipe_37 (fun H locs hP hD hS => ?_)
  have hP : va_P (dC, dI) vwCl [(h0_, .inr (4, [.int 0, .int (-1), .int (-1), .int (-1), .int (-1), .long 0, .int 0, .ref h8_, .ref h9_, .ref h10_, .ref h11_, .ref h12_, .ref h13_, .ref h14_, .int 0, .int p16_, .int p17_])), (h13_, .inl (k18_, 10, .inl f19_)), (h14_, .inl (k20_, 10, .inl f21_))] H := hP
  have hD : va_D A [(h0_, .inr (4, [.int 0, .int (-1), .int (-1), .int (-1), .int (-1), .long 0, .int 0, .ref h8_, .ref h9_, .ref h10_, .ref h11_, .ref h12_, .ref h13_, .ref h14_, .int 0, .int p16_, .int p17_])), (h13_, .inl (k18_, 10, .inl f19_)), (h14_, .inl (k20_, 10, .inl f21_))] := hD
  refine lv_iconst (v := 0) hx hb dX4_wipe_40 (by decide) ?_
  refine lv_istore_n (lv' := [(1, .int 0), (0, .ref h0_)]) hx hb dX4_wipe_41 rfl hl (by decide) rfl (fun ls hl => ?_)
  refine W_q (fun Q hQ => ?_)
  have loop_1 : ∀ (n : Nat) (v42_a_h13_ : Nat → Int32) (v42_a_h14_ : Nat → Int32) (v42_l_1 : Int32), (0 ≤ v42_l_1.toInt ∧ v42_l_1.toInt ≤ 10) → (10 - v42_l_1.toInt < (n : Int)) → ∀ (H : Heap) (locs : List Loc) (ls : Array Slot), va_K (dC, dI) vwCl [(k18_, .int), (k20_, .int)] s → va_P (dC, dI) vwCl [(h0_, .inr (4, [.int 0, .int (-1), .int (-1), .int (-1), .int (-1), .long 0, .int 0, .ref h8_, .ref h9_, .ref h10_, .ref h11_, .ref h12_, .ref h13_, .ref h14_, .int 0, .int p16_, .int p17_])), (h13_, .inl (k18_, 10, .inl v42_a_h13_)), (h14_, .inl (k20_, 10, .inl v42_a_h14_))] H → va_D A [(h0_, .inr (4, [.int 0, .int (-1), .int (-1), .int (-1), .int (-1), .long 0, .int 0, .ref h8_, .ref h9_, .ref h10_, .ref h11_, .ref h12_, .ref h13_, .ref h14_, .int 0, .int p16_, .int p17_])), (h13_, .inl (k18_, 10, .inl v42_a_h13_)), (h14_, .inl (k20_, 10, .inl v42_a_h14_))] → va_S A s.heap H locs → lv_has ls 2 [(1, .int v42_l_1), (0, .ref h0_)] → W p l e ({ frames := 1, cells := 0, slots := 0, locals := 21 } : Room) s m [.ref h0_].toArray below meth c H locs 0 0 Q (F0 m 42 ls []) := by
    intro n
    induction n with
    | zero =>
      intro v42_a_h13_ v42_a_h14_ v42_l_1 hb_v42_l_1 hm H locs ls hK hP hD hS hl
      exact absurd hm (by omega)
    | succ n ih =>
      intro v42_a_h13_ v42_a_h14_ v42_l_1 hb_v42_l_1 hm H locs ls hK hP hD hS hl
      refine lv_iload_n hx hb dX4_wipe_42 rfl (lv_at hl 0 rfl) ?_
      refine lv_bipush (v := 10) hx hb dX4_wipe_43 (by decide) ?_
      have kc_10 : (10 : Int32).toInt = 10 := by decide
      refine lv_icmp_ge (tgt := 59) hx hb dX4_wipe_45 (by decide) (fun c_2 => ?_) (fun c_2 => ?_)
      · have fc_2 := le_f c_2
        subst hQ
        have hP9 := hP.sub (ws' := [(h0_, .inr (4, [.int 0, .int (-1), .int (-1), .int (-1), .int (-1), .long 0, .int 0, .ref h8_, .ref h9_, .ref h10_, .ref h11_, .ref h12_, .ref h13_, .ref h14_, .int 0, .int p16_, .int p17_])), (h13_, .inl (k18_, 10, .inl v42_a_h13_)), (h14_, .inl (k20_, 10, .inl v42_a_h14_))]) [0, 1, 2] rfl
        have hD9 := hD.sub (ws' := [(h0_, .inr (4, [.int 0, .int (-1), .int (-1), .int (-1), .int (-1), .long 0, .int 0, .ref h8_, .ref h9_, .ref h10_, .ref h11_, .ref h12_, .ref h13_, .ref h14_, .int 0, .int p16_, .int p17_])), (h13_, .inl (k18_, 10, .inl v42_a_h13_)), (h14_, .inl (k20_, 10, .inl v42_a_h14_))]) [0, 1, 2] (by decide) rfl
        have hK9 := hK.sub (tys' := [(k18_, .int), (k20_, .int)]) [0, 1] rfl
        refine W.widen (k := 0) (n := 0) (Nat.le_of_ble_eq_true rfl) (Nat.le_of_ble_eq_true rfl) ?_
        exact W.vret hx hb hr (fun t ht hW => ⟨⟨(), rfl, trivial, v42_a_h13_, v42_a_h14_, by rw [ht]; exact hP9, va_K.moved hW.alike hK9, hD9⟩, hS.F ht⟩) hS.2.2 dX4_wipe_59
      · have fc_2 := nle_f c_2
        refine lv_aload_n hx hb dX4_wipe_48 rfl (lv_at hl 1 rfl) ?_
        refine lv_iload_n hx hb dX4_wipe_49 rfl (lv_at hl 0 rfl) ?_
        have hPc := hP.sub (ws' := [(h0_, .inr (4, [.int 0, .int (-1), .int (-1), .int (-1), .int (-1), .long 0, .int 0, .ref h8_, .ref h9_, .ref h10_, .ref h11_, .ref h12_, .ref h13_, .ref h14_, .int 0, .int p16_, .int p17_])), (h13_, .inl (k18_, 10, .inl v42_a_h13_)), (h14_, .inl (k20_, 10, .inl v42_a_h14_))]) [0, 1, 2] rfl
        have hDc := hD.sub (ws' := [(h0_, .inr (4, [.int 0, .int (-1), .int (-1), .int (-1), .int (-1), .long 0, .int 0, .ref h8_, .ref h9_, .ref h10_, .ref h11_, .ref h12_, .ref h13_, .ref h14_, .int 0, .int p16_, .int p17_])), (h13_, .inl (k18_, 10, .inl v42_a_h13_)), (h14_, .inl (k20_, 10, .inl v42_a_h14_))]) [0, 1, 2] (by decide) rfl
        have hKc := hK.sub (tys' := [(k18_, .int), (k20_, .int)]) [0, 1] rfl
        have hFc := va_free (wc := [(h0_, .inr (4, [.int 0, .int (-1), .int (-1), .int (-1), .int (-1), .long 0, .int 0, .ref h8_, .ref h9_, .ref h10_, .ref h11_, .ref h12_, .ref h13_, .ref h14_, .int 0, .int p16_, .int p17_])), (h13_, .inl (k18_, 10, .inl v42_a_h13_)), (h14_, .inl (k20_, 10, .inl v42_a_h14_))]) hD hS hA [0, 1, 2] rfl
        refine va_callv (va_runV (As := [.int v42_l_1]) (rest := []) ⟨hx, hb, hml, hown, hts⟩ (s_X4_forgetCall l dC dI h0_ v42_l_1 0 (-1) (-1) (-1) (-1) 0 0 h8_ h9_ h10_ h11_ h12_ h13_ h14_ 0 p16_ p17_ k18_ v42_a_h13_ k20_ v42_a_h14_ (⟨by decide, by decide⟩) H.size) (cwV 1 hts (gV_ t_1430 t_1431 t_1432 t_197 t_1433) rfl rfl rfl (by decide +kernel) ⟨(Nat.le_of_ble_eq_true rfl), (Nat.le_of_ble_eq_true rfl)⟩) ⟨fun a U g mk q => by obtain ⟨q0, q1, qP, qK, qD⟩ := q; exact ⟨q0, q1, qP, va_K.moved (u := U) (U := U.calling g mk a) (Vm.Alike.refl U.vm) qK, qD⟩, va_recv hK hP (ci := 4) (q0 := 0) rfl rfl, fun U hU hW => ⟨rfl, by rw [hU], by rw [hU]; exact hPc, va_K.moved hW.alike hKc, hDc.weaken (fun _ _ _ _ => trivial)⟩⟩ rfl rfl hl.1 rfl (lv_room (Nat.le_of_ble_eq_true rfl)) dX4_wipe_50 ⟨(Nat.le_of_ble_eq_true rfl), (Nat.le_of_ble_eq_true rfl)⟩) hS (fun q _ h => hFc q h) hFc (fun u_ t H1 locs ht hvm hw hB hz1 hk1 hS => ?_)
        obtain ⟨f_4, f_5, hP1, hK1, hD1⟩ := hB
        rw [ht] at hP1
        have hK1 := va_K.moved hvm.symm hK1
        obtain ⟨hP, hD⟩ := va_join (wr := []) (w1 := [(h0_, .inr (4, [.int 0, .int (-1), .int (-1), .int (-1), .int (-1), .long 0, .int 0, .ref h8_, .ref h9_, .ref h10_, .ref h11_, .ref h12_, .ref h13_, .ref h14_, .int 0, .int p16_, .int p17_])), (h13_, .inl (k18_, 10, .inl f_4)), (h14_, .inl (k20_, 10, .inl f_5))]) hP hD [0, 1, 2] [] rfl rfl (by decide) (by decide) hk1 hFc hP1 hD1
        have hK := (hK.sub (tys' := []) [] rfl).app hK1
        generalize H1 = H at hP hS ⊢
        have hP : va_P (dC, dI) vwCl [(h0_, .inr (4, [.int 0, .int (-1), .int (-1), .int (-1), .int (-1), .long 0, .int 0, .ref h8_, .ref h9_, .ref h10_, .ref h11_, .ref h12_, .ref h13_, .ref h14_, .int 0, .int p16_, .int p17_])), (h13_, .inl (k18_, 10, .inl f_4)), (h14_, .inl (k20_, 10, .inl f_5))] H := hP
        have hD : va_D A [(h0_, .inr (4, [.int 0, .int (-1), .int (-1), .int (-1), .int (-1), .long 0, .int 0, .ref h8_, .ref h9_, .ref h10_, .ref h11_, .ref h12_, .ref h13_, .ref h14_, .int 0, .int p16_, .int p17_])), (h13_, .inl (k18_, 10, .inl f_4)), (h14_, .inl (k20_, 10, .inl f_5))] := hD
        have hK : va_K (dC, dI) vwCl [(k18_, .int), (k20_, .int)] s := hK
        refine W.widen (k := 0) (n := 0) (Nat.le_of_ble_eq_true rfl) (Nat.le_of_ble_eq_true rfl) ?_
        obtain ⟨y_6, ey_6⟩ : ∃ z : Int32, z = v42_l_1 + 1 := ⟨_, rfl⟩
        refine lv_iinc (v := y_6) (lv' := [(1, .int y_6), (0, .ref h0_)]) hx hb dX4_wipe_53 hl (k := 0) rfl (by rw [ey_6]; rfl) (by decide) rfl (fun ls hl => ?_)
        have kc_1 : (1 : Int32).toInt = 1 := by decide
        have ty_6 : y_6.toInt = v42_l_1.toInt + (1 : Int32).toInt := by rw [ey_6]; exact add_ok (by omega) (by omega)
        have b_7 : 1 ≤ y_6.toInt ∧ y_6.toInt ≤ 10 := by omega
        refine lv_goto (tgt := 42) hx hb dX4_wipe_56 (by decide) ?_
        exact ih f_4 f_5 y_6 ⟨by omega, by omega⟩ (by omega) _ _ _ (hK.sub [0, 1] rfl) (hP.sub [0, 1, 2] rfl) (hD.sub [0, 1, 2] (by decide) rfl) hS (lv_sub hl [0, 1] rfl)
  have kc_0 : (0 : Int32).toInt = 0 := by decide
  exact loop_1 12 f19_ f21_ 0 ⟨by decide, by decide⟩ (by omega) _ _ _ hK hP hD hS hl
set_option maxHeartbeats 4000000 in
set_option maxRecDepth 100000 in
theorem s_X4_breakBy (l : Launch) (dC : Nat → ClassId) (dI : Nat → Nat → Nat) (h0_ : Nat) (p1_ : Int32) (p2_ : Int32) (p3_ : Int32) (p4_ : Int32) (p5_ : Int32) (p6_ : Int32) (p7_ : Int32) (p8_ : Int32) (p9_ : Int64) (p10_ : Int32) (h11_ : Nat) (h12_ : Nat) (h13_ : Nat) (h14_ : Nat) (h15_ : Nat) (h16_ : Nat) (h17_ : Nat) (p18_ : Int32) (p19_ : Int32) (p20_ : Int32) (hb_p10_ : 0 ≤ p10_.toInt ∧ p10_.toInt ≤ 3) (sz : Nat) : Met l yX4_breakBy (.code yX4_breakBy cX4_breakBy 4 none :: lw_g) ({ frames := 0, cells := 0, slots := 0, locals := 0 }) (va_Pc [.ref h0_, .int p1_, .int p2_, .int p3_] (fun U => U.heap.size = sz ∧ va_P (dC, dI) vwCl [(h0_, .inr (4, [.int p4_, .int p5_, .int p6_, .int p7_, .int p8_, .long p9_, .int p10_, .ref h11_, .ref h12_, .ref h13_, .ref h14_, .ref h15_, .ref h16_, .ref h17_, .int p18_, .int p19_, .int p20_]))] U.heap ∧ va_K (dC, dI) vwCl [] U ∧ va_D (fun _ => True) [(h0_, .inr (4, [.int p4_, .int p5_, .int p6_, .int p7_, .int p8_, .long p9_, .int p10_, .ref h11_, .ref h12_, .ref h13_, .ref h14_, .ref h15_, .ref h16_, .ref h17_, .int p18_, .int p19_, .int p20_]))])) (va_Qv (fun _ : Unit => True) (fun (_ : Unit) (t : State) => va_P (dC, dI) vwCl [(h0_, .inr (4, [.int p1_, .int p2_, .int p3_, .int p7_, .int p8_, .long p9_, .int p10_, .ref h11_, .ref h12_, .ref h13_, .ref h14_, .ref h15_, .ref h16_, .ref h17_, .int p18_, .int p19_, .int p20_]))] t.heap ∧ va_K (dC, dI) vwCl [] t ∧ va_D (va_A [(h0_, .inr (4, [.int p4_, .int p5_, .int p6_, .int p7_, .int p8_, .long p9_, .int p10_, .ref h11_, .ref h12_, .ref h13_, .ref h14_, .ref h15_, .ref h16_, .ref h17_, .int p18_, .int p19_, .int p20_]))] sz) [(h0_, .inr (4, [.int p1_, .int p2_, .int p3_, .int p7_, .int p8_, .long p9_, .int p10_, .ref h11_, .ref h12_, .ref h13_, .ref h14_, .ref h15_, .ref h16_, .ref h17_, .int p18_, .int p19_, .int p20_]))]) (va_A [(h0_, .inr (4, [.int p4_, .int p5_, .int p6_, .int p7_, .int p8_, .long p9_, .int p10_, .ref h11_, .ref h12_, .ref h13_, .ref h14_, .ref h15_, .ref h16_, .ref h17_, .int p18_, .int p19_, .int p20_]))] sz)) 0 0 (va_A [(h0_, .inr (4, [.int p4_, .int p5_, .int p6_, .int p7_, .int p8_, .long p9_, .int p10_, .ref h11_, .ref h12_, .ref h13_, .ref h14_, .ref h15_, .ref h16_, .ref h17_, .int p18_, .int p19_, .int p20_]))] sz) := by
  refine Met.ofW (cc := cX4_breakBy) (maxL := 4) (ret := none) (by decide) rfl ?_
  intro p e s m args below meth c s₁ B hml hv
  obtain ⟨rfl, hsz, hP, hK, hD0⟩ := hv
  have hx := B.exec
  have hb := B.bytes
  have hr := B.returns
  have hts := atoms_spec (ws := (.code yX4_breakBy cX4_breakBy 4 none :: lw_g)) B.pre
  have hown : s.vm.findClass RX4 = some m.cls := findClass_of_methodNamed B.named
  have hlocks := B.notSynchronized
  subst hsz
  have hD := hD0.self (sz := s.heap.size)
  generalize hAe : va_A [(h0_, .inr (4, [.int p4_, .int p5_, .int p6_, .int p7_, .int p8_, .long p9_, .int p10_, .ref h11_, .ref h12_, .ref h13_, .ref h14_, .ref h15_, .ref h16_, .ref h17_, .int p18_, .int p19_, .int p20_]))] s.heap.size = A at hD ⊢
  have hA : ∀ q : Nat, s.heap.size ≤ q → A q := fun q h => by rw [← hAe]; exact Or.inr h
  have hS : va_S A s.heap s.heap [] := va_S.rf
  have hP : va_P (dC, dI) vwCl [(h0_, .inr (4, [.int p4_, .int p5_, .int p6_, .int p7_, .int p8_, .long p9_, .int p10_, .ref h11_, .ref h12_, .ref h13_, .ref h14_, .ref h15_, .ref h16_, .ref h17_, .int p18_, .int p19_, .int p20_]))] s.heap := hP
  have hl := lv_entry ([.ref h0_, .int p1_, .int p2_, .int p3_]) (n := 4) (Nat.le_of_ble_eq_true rfl)
  rw [lg_entry_eq]
  generalize (lg_sl ([.ref h0_, .int p1_, .int p2_, .int p3_]) ++ List.replicate (4 - (lg_sl ([.ref h0_, .int p1_, .int p2_, .int p3_])).length) Slot.unset).toArray = ls at hl ⊢
  have hl : lv_has ls 4 [(0, .ref h0_), (1, .int p1_), (2, .int p2_), (3, .int p3_)] := hl
  refine lv_aload_n hx hb dX4_breakBy_0 rfl (lv_at hl 0 rfl) ?_
  refine lv_iload_n hx hb dX4_breakBy_1 rfl (lv_at hl 1 rfl) ?_
  refine va_put (D := (dC, dI)) (ci := 4) (v := .int p1_) (ty := tyX4 0) (C := RX4) (T := TX4) (N := 17) hx hb hts (mc_ inX4) tyX4 tyX4_ok nmX4 hown hK hP hD hS 0 rfl rfl 0 (by decide) (hts _ (List.mem_cons_of_mem _ t_836)) (fun _ h9 => h9) rfl (by decide +kernel) rfl rfl (Nat.le_of_ble_eq_true rfl) dX4_breakBy_2 (fun H locs hP hD hS => ?_)
  have hP : va_P (dC, dI) vwCl [(h0_, .inr (4, [.int p1_, .int p5_, .int p6_, .int p7_, .int p8_, .long p9_, .int p10_, .ref h11_, .ref h12_, .ref h13_, .ref h14_, .ref h15_, .ref h16_, .ref h17_, .int p18_, .int p19_, .int p20_]))] H := hP
  have hD : va_D A [(h0_, .inr (4, [.int p1_, .int p5_, .int p6_, .int p7_, .int p8_, .long p9_, .int p10_, .ref h11_, .ref h12_, .ref h13_, .ref h14_, .ref h15_, .ref h16_, .ref h17_, .int p18_, .int p19_, .int p20_]))] := hD
  refine lv_aload_n hx hb dX4_breakBy_5 rfl (lv_at hl 0 rfl) ?_
  refine lv_iload_n hx hb dX4_breakBy_6 rfl (lv_at hl 2 rfl) ?_
  refine va_put (D := (dC, dI)) (ci := 4) (v := .int p2_) (ty := tyX4 1) (C := RX4) (T := TX4) (N := 17) hx hb hts (mc_ inX4) tyX4 tyX4_ok nmX4 hown hK hP hD hS 0 rfl rfl 1 (by decide) (hts _ (List.mem_cons_of_mem _ t_839)) (fun _ h9 => h9) rfl (by decide +kernel) rfl rfl (Nat.le_of_ble_eq_true rfl) dX4_breakBy_7 (fun H locs hP hD hS => ?_)
  have hP : va_P (dC, dI) vwCl [(h0_, .inr (4, [.int p1_, .int p2_, .int p6_, .int p7_, .int p8_, .long p9_, .int p10_, .ref h11_, .ref h12_, .ref h13_, .ref h14_, .ref h15_, .ref h16_, .ref h17_, .int p18_, .int p19_, .int p20_]))] H := hP
  have hD : va_D A [(h0_, .inr (4, [.int p1_, .int p2_, .int p6_, .int p7_, .int p8_, .long p9_, .int p10_, .ref h11_, .ref h12_, .ref h13_, .ref h14_, .ref h15_, .ref h16_, .ref h17_, .int p18_, .int p19_, .int p20_]))] := hD
  refine lv_aload_n hx hb dX4_breakBy_10 rfl (lv_at hl 0 rfl) ?_
  refine lv_iload_n hx hb dX4_breakBy_11 rfl (lv_at hl 3 rfl) ?_
  refine va_put (D := (dC, dI)) (ci := 4) (v := .int p3_) (ty := tyX4 2) (C := RX4) (T := TX4) (N := 17) hx hb hts (mc_ inX4) tyX4 tyX4_ok nmX4 hown hK hP hD hS 0 rfl rfl 2 (by decide) (hts _ (List.mem_cons_of_mem _ t_841)) (fun _ h9 => h9) rfl (by decide +kernel) rfl rfl (Nat.le_of_ble_eq_true rfl) dX4_breakBy_12 (fun H locs hP hD hS => ?_)
  have hP : va_P (dC, dI) vwCl [(h0_, .inr (4, [.int p1_, .int p2_, .int p3_, .int p7_, .int p8_, .long p9_, .int p10_, .ref h11_, .ref h12_, .ref h13_, .ref h14_, .ref h15_, .ref h16_, .ref h17_, .int p18_, .int p19_, .int p20_]))] H := hP
  have hD : va_D A [(h0_, .inr (4, [.int p1_, .int p2_, .int p3_, .int p7_, .int p8_, .long p9_, .int p10_, .ref h11_, .ref h12_, .ref h13_, .ref h14_, .ref h15_, .ref h16_, .ref h17_, .int p18_, .int p19_, .int p20_]))] := hD
  have hP9 := hP.sub (ws' := [(h0_, .inr (4, [.int p1_, .int p2_, .int p3_, .int p7_, .int p8_, .long p9_, .int p10_, .ref h11_, .ref h12_, .ref h13_, .ref h14_, .ref h15_, .ref h16_, .ref h17_, .int p18_, .int p19_, .int p20_]))]) [0] rfl
  have hD9 := hD.sub (ws' := [(h0_, .inr (4, [.int p1_, .int p2_, .int p3_, .int p7_, .int p8_, .long p9_, .int p10_, .ref h11_, .ref h12_, .ref h13_, .ref h14_, .ref h15_, .ref h16_, .ref h17_, .int p18_, .int p19_, .int p20_]))]) [0] (by decide) rfl
  have hK9 := hK.sub (tys' := []) [] rfl
  refine W.widen (k := 0) (n := 0) (Nat.le_of_ble_eq_true rfl) (Nat.le_of_ble_eq_true rfl) ?_
  exact W.vret hx hb hr (fun t ht hW => ⟨⟨(), rfl, trivial, by rw [ht]; exact hP9, va_K.moved hW.alike hK9, hD9⟩, hS.F ht⟩) hS.2.2 dX4_breakBy_15
set_option maxHeartbeats 4000000 in
set_option maxRecDepth 100000 in
theorem s_X4_breakAt (l : Launch) (dC : Nat → ClassId) (dI : Nat → Nat → Nat) (h0_ : Nat) (p1_ : Int32) (p2_ : Int32) (p3_ : Int32) (p4_ : Int32) (p5_ : Int32) (p6_ : Int32) (p7_ : Int32) (p8_ : Int32) (p9_ : Int64) (p10_ : Int32) (h11_ : Nat) (h12_ : Nat) (h13_ : Nat) (h14_ : Nat) (h15_ : Nat) (h16_ : Nat) (h17_ : Nat) (p18_ : Int32) (p19_ : Int32) (p20_ : Int32) (hb_p10_ : 0 ≤ p10_.toInt ∧ p10_.toInt ≤ 3) (sz : Nat) : Met l yX4_breakAt (.code yX4_breakAt cX4_breakAt 4 none :: lw_g) ({ frames := 0, cells := 0, slots := 0, locals := 0 }) (va_Pc [.ref h0_, .int p1_, .int p2_, .int p3_] (fun U => U.heap.size = sz ∧ va_P (dC, dI) vwCl [(h0_, .inr (4, [.int p4_, .int p5_, .int p6_, .int p7_, .int p8_, .long p9_, .int p10_, .ref h11_, .ref h12_, .ref h13_, .ref h14_, .ref h15_, .ref h16_, .ref h17_, .int p18_, .int p19_, .int p20_]))] U.heap ∧ va_K (dC, dI) vwCl [] U ∧ va_D (fun _ => True) [(h0_, .inr (4, [.int p4_, .int p5_, .int p6_, .int p7_, .int p8_, .long p9_, .int p10_, .ref h11_, .ref h12_, .ref h13_, .ref h14_, .ref h15_, .ref h16_, .ref h17_, .int p18_, .int p19_, .int p20_]))])) (va_Qv (fun _ : Unit => True) (fun (_ : Unit) (t : State) => va_P (dC, dI) vwCl [(h0_, .inr (4, [.int p1_, .int p5_, .int p6_, .int p2_, .int p3_, .long p9_, .int p10_, .ref h11_, .ref h12_, .ref h13_, .ref h14_, .ref h15_, .ref h16_, .ref h17_, .int p18_, .int p19_, .int p20_]))] t.heap ∧ va_K (dC, dI) vwCl [] t ∧ va_D (va_A [(h0_, .inr (4, [.int p4_, .int p5_, .int p6_, .int p7_, .int p8_, .long p9_, .int p10_, .ref h11_, .ref h12_, .ref h13_, .ref h14_, .ref h15_, .ref h16_, .ref h17_, .int p18_, .int p19_, .int p20_]))] sz) [(h0_, .inr (4, [.int p1_, .int p5_, .int p6_, .int p2_, .int p3_, .long p9_, .int p10_, .ref h11_, .ref h12_, .ref h13_, .ref h14_, .ref h15_, .ref h16_, .ref h17_, .int p18_, .int p19_, .int p20_]))]) (va_A [(h0_, .inr (4, [.int p4_, .int p5_, .int p6_, .int p7_, .int p8_, .long p9_, .int p10_, .ref h11_, .ref h12_, .ref h13_, .ref h14_, .ref h15_, .ref h16_, .ref h17_, .int p18_, .int p19_, .int p20_]))] sz)) 0 0 (va_A [(h0_, .inr (4, [.int p4_, .int p5_, .int p6_, .int p7_, .int p8_, .long p9_, .int p10_, .ref h11_, .ref h12_, .ref h13_, .ref h14_, .ref h15_, .ref h16_, .ref h17_, .int p18_, .int p19_, .int p20_]))] sz) := by
  refine Met.ofW (cc := cX4_breakAt) (maxL := 4) (ret := none) (by decide) rfl ?_
  intro p e s m args below meth c s₁ B hml hv
  obtain ⟨rfl, hsz, hP, hK, hD0⟩ := hv
  have hx := B.exec
  have hb := B.bytes
  have hr := B.returns
  have hts := atoms_spec (ws := (.code yX4_breakAt cX4_breakAt 4 none :: lw_g)) B.pre
  have hown : s.vm.findClass RX4 = some m.cls := findClass_of_methodNamed B.named
  have hlocks := B.notSynchronized
  subst hsz
  have hD := hD0.self (sz := s.heap.size)
  generalize hAe : va_A [(h0_, .inr (4, [.int p4_, .int p5_, .int p6_, .int p7_, .int p8_, .long p9_, .int p10_, .ref h11_, .ref h12_, .ref h13_, .ref h14_, .ref h15_, .ref h16_, .ref h17_, .int p18_, .int p19_, .int p20_]))] s.heap.size = A at hD ⊢
  have hA : ∀ q : Nat, s.heap.size ≤ q → A q := fun q h => by rw [← hAe]; exact Or.inr h
  have hS : va_S A s.heap s.heap [] := va_S.rf
  have hP : va_P (dC, dI) vwCl [(h0_, .inr (4, [.int p4_, .int p5_, .int p6_, .int p7_, .int p8_, .long p9_, .int p10_, .ref h11_, .ref h12_, .ref h13_, .ref h14_, .ref h15_, .ref h16_, .ref h17_, .int p18_, .int p19_, .int p20_]))] s.heap := hP
  have hl := lv_entry ([.ref h0_, .int p1_, .int p2_, .int p3_]) (n := 4) (Nat.le_of_ble_eq_true rfl)
  rw [lg_entry_eq]
  generalize (lg_sl ([.ref h0_, .int p1_, .int p2_, .int p3_]) ++ List.replicate (4 - (lg_sl ([.ref h0_, .int p1_, .int p2_, .int p3_])).length) Slot.unset).toArray = ls at hl ⊢
  have hl : lv_has ls 4 [(0, .ref h0_), (1, .int p1_), (2, .int p2_), (3, .int p3_)] := hl
  refine lv_aload_n hx hb dX4_breakAt_0 rfl (lv_at hl 0 rfl) ?_
  refine lv_iload_n hx hb dX4_breakAt_1 rfl (lv_at hl 1 rfl) ?_
  refine va_put (D := (dC, dI)) (ci := 4) (v := .int p1_) (ty := tyX4 0) (C := RX4) (T := TX4) (N := 17) hx hb hts (mc_ inX4) tyX4 tyX4_ok nmX4 hown hK hP hD hS 0 rfl rfl 0 (by decide) (hts _ (List.mem_cons_of_mem _ t_836)) (fun _ h9 => h9) rfl (by decide +kernel) rfl rfl (Nat.le_of_ble_eq_true rfl) dX4_breakAt_2 (fun H locs hP hD hS => ?_)
  have hP : va_P (dC, dI) vwCl [(h0_, .inr (4, [.int p1_, .int p5_, .int p6_, .int p7_, .int p8_, .long p9_, .int p10_, .ref h11_, .ref h12_, .ref h13_, .ref h14_, .ref h15_, .ref h16_, .ref h17_, .int p18_, .int p19_, .int p20_]))] H := hP
  have hD : va_D A [(h0_, .inr (4, [.int p1_, .int p5_, .int p6_, .int p7_, .int p8_, .long p9_, .int p10_, .ref h11_, .ref h12_, .ref h13_, .ref h14_, .ref h15_, .ref h16_, .ref h17_, .int p18_, .int p19_, .int p20_]))] := hD
  refine lv_aload_n hx hb dX4_breakAt_5 rfl (lv_at hl 0 rfl) ?_
  refine lv_iload_n hx hb dX4_breakAt_6 rfl (lv_at hl 2 rfl) ?_
  refine va_put (D := (dC, dI)) (ci := 4) (v := .int p2_) (ty := tyX4 3) (C := RX4) (T := TX4) (N := 17) hx hb hts (mc_ inX4) tyX4 tyX4_ok nmX4 hown hK hP hD hS 0 rfl rfl 3 (by decide) (hts _ (List.mem_cons_of_mem _ t_843)) (fun _ h9 => h9) rfl (by decide +kernel) rfl rfl (Nat.le_of_ble_eq_true rfl) dX4_breakAt_7 (fun H locs hP hD hS => ?_)
  have hP : va_P (dC, dI) vwCl [(h0_, .inr (4, [.int p1_, .int p5_, .int p6_, .int p2_, .int p8_, .long p9_, .int p10_, .ref h11_, .ref h12_, .ref h13_, .ref h14_, .ref h15_, .ref h16_, .ref h17_, .int p18_, .int p19_, .int p20_]))] H := hP
  have hD : va_D A [(h0_, .inr (4, [.int p1_, .int p5_, .int p6_, .int p2_, .int p8_, .long p9_, .int p10_, .ref h11_, .ref h12_, .ref h13_, .ref h14_, .ref h15_, .ref h16_, .ref h17_, .int p18_, .int p19_, .int p20_]))] := hD
  refine lv_aload_n hx hb dX4_breakAt_10 rfl (lv_at hl 0 rfl) ?_
  refine lv_iload_n hx hb dX4_breakAt_11 rfl (lv_at hl 3 rfl) ?_
  refine va_put (D := (dC, dI)) (ci := 4) (v := .int p3_) (ty := tyX4 4) (C := RX4) (T := TX4) (N := 17) hx hb hts (mc_ inX4) tyX4 tyX4_ok nmX4 hown hK hP hD hS 0 rfl rfl 4 (by decide) (hts _ (List.mem_cons_of_mem _ t_845)) (fun _ h9 => h9) rfl (by decide +kernel) rfl rfl (Nat.le_of_ble_eq_true rfl) dX4_breakAt_12 (fun H locs hP hD hS => ?_)
  have hP : va_P (dC, dI) vwCl [(h0_, .inr (4, [.int p1_, .int p5_, .int p6_, .int p2_, .int p3_, .long p9_, .int p10_, .ref h11_, .ref h12_, .ref h13_, .ref h14_, .ref h15_, .ref h16_, .ref h17_, .int p18_, .int p19_, .int p20_]))] H := hP
  have hD : va_D A [(h0_, .inr (4, [.int p1_, .int p5_, .int p6_, .int p2_, .int p3_, .long p9_, .int p10_, .ref h11_, .ref h12_, .ref h13_, .ref h14_, .ref h15_, .ref h16_, .ref h17_, .int p18_, .int p19_, .int p20_]))] := hD
  have hP9 := hP.sub (ws' := [(h0_, .inr (4, [.int p1_, .int p5_, .int p6_, .int p2_, .int p3_, .long p9_, .int p10_, .ref h11_, .ref h12_, .ref h13_, .ref h14_, .ref h15_, .ref h16_, .ref h17_, .int p18_, .int p19_, .int p20_]))]) [0] rfl
  have hD9 := hD.sub (ws' := [(h0_, .inr (4, [.int p1_, .int p5_, .int p6_, .int p2_, .int p3_, .long p9_, .int p10_, .ref h11_, .ref h12_, .ref h13_, .ref h14_, .ref h15_, .ref h16_, .ref h17_, .int p18_, .int p19_, .int p20_]))]) [0] (by decide) rfl
  have hK9 := hK.sub (tys' := []) [] rfl
  refine W.widen (k := 0) (n := 0) (Nat.le_of_ble_eq_true rfl) (Nat.le_of_ble_eq_true rfl) ?_
  exact W.vret hx hb hr (fun t ht hW => ⟨⟨(), rfl, trivial, by rw [ht]; exact hP9, va_K.moved hW.alike hK9, hD9⟩, hS.F ht⟩) hS.2.2 dX4_breakAt_15
set_option maxHeartbeats 4000000 in
set_option maxRecDepth 100000 in
theorem s_X5_leaveMember (l : Launch) (dC : Nat → ClassId) (dI : Nat → Nat → Nat) (h0_ : Nat) (h1_ : Nat) (h2_ : Nat) (p3_ : Int32) (h4_ : Nat) (p5_ : Int32) (h6_ : Nat) (p7_ : Int32) (p8_ : Int32) (p9_ : Int32) (hb_p3_ : 0 ≤ p3_.toInt ∧ p3_.toInt ≤ 7) (hb_p5_ : 0 ≤ p5_.toInt ∧ p5_.toInt ≤ 3) (hb_p7_ : 0 ≤ p7_.toInt ∧ p7_.toInt ≤ 8) (hb_p8_ : 0 ≤ p8_.toInt ∧ p8_.toInt ≤ 1) (hb_p9_ : 0 ≤ p9_.toInt ∧ p9_.toInt ≤ 1) (sz : Nat) : Met l yX5_leaveMember (.code yX5_leaveMember cX5_leaveMember 1 none :: lw_g) ({ frames := 0, cells := 0, slots := 0, locals := 0 }) (va_Pc [.ref h0_] (fun U => U.heap.size = sz ∧ va_P (dC, dI) vwCl [(h0_, .inr (5, [.ref h1_, .ref h2_, .int p3_, .ref h4_, .int p5_, .ref h6_, .int p7_, .int p8_, .int p9_]))] U.heap ∧ va_K (dC, dI) vwCl [] U ∧ va_D (fun _ => True) [(h0_, .inr (5, [.ref h1_, .ref h2_, .int p3_, .ref h4_, .int p5_, .ref h6_, .int p7_, .int p8_, .int p9_]))])) (va_Qv (fun _ : Unit => True) (fun (_ : Unit) (t : State) => va_P (dC, dI) vwCl [(h0_, .inr (5, [.ref h1_, .ref h2_, .int p3_, .ref h4_, .int 0, .ref h6_, .int 0, .int 0, .int 0]))] t.heap ∧ va_K (dC, dI) vwCl [] t ∧ va_D (va_A [(h0_, .inr (5, [.ref h1_, .ref h2_, .int p3_, .ref h4_, .int p5_, .ref h6_, .int p7_, .int p8_, .int p9_]))] sz) [(h0_, .inr (5, [.ref h1_, .ref h2_, .int p3_, .ref h4_, .int 0, .ref h6_, .int 0, .int 0, .int 0]))]) (va_A [(h0_, .inr (5, [.ref h1_, .ref h2_, .int p3_, .ref h4_, .int p5_, .ref h6_, .int p7_, .int p8_, .int p9_]))] sz)) 0 0 (va_A [(h0_, .inr (5, [.ref h1_, .ref h2_, .int p3_, .ref h4_, .int p5_, .ref h6_, .int p7_, .int p8_, .int p9_]))] sz) := by
  refine Met.ofW (cc := cX5_leaveMember) (maxL := 1) (ret := none) (by decide) rfl ?_
  intro p e s m args below meth c s₁ B hml hv
  obtain ⟨rfl, hsz, hP, hK, hD0⟩ := hv
  have hx := B.exec
  have hb := B.bytes
  have hr := B.returns
  have hts := atoms_spec (ws := (.code yX5_leaveMember cX5_leaveMember 1 none :: lw_g)) B.pre
  have hown : s.vm.findClass RX5 = some m.cls := findClass_of_methodNamed B.named
  have hlocks := B.notSynchronized
  subst hsz
  have hD := hD0.self (sz := s.heap.size)
  generalize hAe : va_A [(h0_, .inr (5, [.ref h1_, .ref h2_, .int p3_, .ref h4_, .int p5_, .ref h6_, .int p7_, .int p8_, .int p9_]))] s.heap.size = A at hD ⊢
  have hA : ∀ q : Nat, s.heap.size ≤ q → A q := fun q h => by rw [← hAe]; exact Or.inr h
  have hS : va_S A s.heap s.heap [] := va_S.rf
  have hP : va_P (dC, dI) vwCl [(h0_, .inr (5, [.ref h1_, .ref h2_, .int p3_, .ref h4_, .int p5_, .ref h6_, .int p7_, .int p8_, .int p9_]))] s.heap := hP
  have hl := lv_entry ([.ref h0_]) (n := 1) (Nat.le_of_ble_eq_true rfl)
  rw [lg_entry_eq]
  generalize (lg_sl ([.ref h0_]) ++ List.replicate (1 - (lg_sl ([.ref h0_])).length) Slot.unset).toArray = ls at hl ⊢
  have hl : lv_has ls 1 [(0, .ref h0_)] := hl
  refine lv_aload_n hx hb dX5_leaveMember_0 rfl (lv_at hl 0 rfl) ?_
  refine lv_iconst (v := 0) hx hb dX5_leaveMember_1 (by decide) ?_
  refine va_put (D := (dC, dI)) (ci := 5) (v := .int 0) (ty := tyX5 4) (C := RX5) (T := TX5) (N := 9) hx hb hts (mc_ inX5) tyX5 tyX5_ok nmX5 hown hK hP hD hS 0 rfl rfl 4 (by decide) (hts _ (List.mem_cons_of_mem _ t_336)) (fun _ h9 => h9) rfl (by decide +kernel) rfl rfl (Nat.le_of_ble_eq_true rfl) dX5_leaveMember_2 (fun H locs hP hD hS => ?_)
  have hP : va_P (dC, dI) vwCl [(h0_, .inr (5, [.ref h1_, .ref h2_, .int p3_, .ref h4_, .int 0, .ref h6_, .int p7_, .int p8_, .int p9_]))] H := hP
  have hD : va_D A [(h0_, .inr (5, [.ref h1_, .ref h2_, .int p3_, .ref h4_, .int 0, .ref h6_, .int p7_, .int p8_, .int p9_]))] := hD
  refine lv_aload_n hx hb dX5_leaveMember_5 rfl (lv_at hl 0 rfl) ?_
  refine lv_iconst (v := 0) hx hb dX5_leaveMember_6 (by decide) ?_
  refine va_put (D := (dC, dI)) (ci := 5) (v := .int 0) (ty := tyX5 6) (C := RX5) (T := TX5) (N := 9) hx hb hts (mc_ inX5) tyX5 tyX5_ok nmX5 hown hK hP hD hS 0 rfl rfl 6 (by decide) (hts _ (List.mem_cons_of_mem _ t_340)) (fun _ h9 => h9) rfl (by decide +kernel) rfl rfl (Nat.le_of_ble_eq_true rfl) dX5_leaveMember_7 (fun H locs hP hD hS => ?_)
  have hP : va_P (dC, dI) vwCl [(h0_, .inr (5, [.ref h1_, .ref h2_, .int p3_, .ref h4_, .int 0, .ref h6_, .int 0, .int p8_, .int p9_]))] H := hP
  have hD : va_D A [(h0_, .inr (5, [.ref h1_, .ref h2_, .int p3_, .ref h4_, .int 0, .ref h6_, .int 0, .int p8_, .int p9_]))] := hD
  refine lv_aload_n hx hb dX5_leaveMember_10 rfl (lv_at hl 0 rfl) ?_
  refine lv_iconst (v := 0) hx hb dX5_leaveMember_11 (by decide) ?_
  refine va_put (D := (dC, dI)) (ci := 5) (v := .int 0) (ty := tyX5 7) (C := RX5) (T := TX5) (N := 9) hx hb hts (mc_ inX5) tyX5 tyX5_ok nmX5 hown hK hP hD hS 0 rfl rfl 7 (by decide) (hts _ (List.mem_cons_of_mem _ t_342)) (fun _ h9 => h9) rfl (by decide +kernel) rfl rfl (Nat.le_of_ble_eq_true rfl) dX5_leaveMember_12 (fun H locs hP hD hS => ?_)
  have hP : va_P (dC, dI) vwCl [(h0_, .inr (5, [.ref h1_, .ref h2_, .int p3_, .ref h4_, .int 0, .ref h6_, .int 0, .int 0, .int p9_]))] H := hP
  have hD : va_D A [(h0_, .inr (5, [.ref h1_, .ref h2_, .int p3_, .ref h4_, .int 0, .ref h6_, .int 0, .int 0, .int p9_]))] := hD
  refine lv_aload_n hx hb dX5_leaveMember_15 rfl (lv_at hl 0 rfl) ?_
  refine lv_iconst (v := 0) hx hb dX5_leaveMember_16 (by decide) ?_
  refine va_put (D := (dC, dI)) (ci := 5) (v := .int 0) (ty := tyX5 8) (C := RX5) (T := TX5) (N := 9) hx hb hts (mc_ inX5) tyX5 tyX5_ok nmX5 hown hK hP hD hS 0 rfl rfl 8 (by decide) (hts _ (List.mem_cons_of_mem _ t_345)) (fun _ h9 => h9) rfl (by decide +kernel) rfl rfl (Nat.le_of_ble_eq_true rfl) dX5_leaveMember_17 (fun H locs hP hD hS => ?_)
  have hP : va_P (dC, dI) vwCl [(h0_, .inr (5, [.ref h1_, .ref h2_, .int p3_, .ref h4_, .int 0, .ref h6_, .int 0, .int 0, .int 0]))] H := hP
  have hD : va_D A [(h0_, .inr (5, [.ref h1_, .ref h2_, .int p3_, .ref h4_, .int 0, .ref h6_, .int 0, .int 0, .int 0]))] := hD
  have hP9 := hP.sub (ws' := [(h0_, .inr (5, [.ref h1_, .ref h2_, .int p3_, .ref h4_, .int 0, .ref h6_, .int 0, .int 0, .int 0]))]) [0] rfl
  have hD9 := hD.sub (ws' := [(h0_, .inr (5, [.ref h1_, .ref h2_, .int p3_, .ref h4_, .int 0, .ref h6_, .int 0, .int 0, .int 0]))]) [0] (by decide) rfl
  have hK9 := hK.sub (tys' := []) [] rfl
  refine W.widen (k := 0) (n := 0) (Nat.le_of_ble_eq_true rfl) (Nat.le_of_ble_eq_true rfl) ?_
  exact W.vret hx hb hr (fun t ht hW => ⟨⟨(), rfl, trivial, by rw [ht]; exact hP9, va_K.moved hW.alike hK9, hD9⟩, hS.F ht⟩) hS.2.2 dX5_leaveMember_20
set_option maxHeartbeats 4000000 in
set_option maxRecDepth 100000 in
theorem s_X9_fieldNamed (l : Launch) (dC : Nat → ClassId) (dI : Nat → Nat → Nat) (h0_ : Nat) (p1_ : Int64) (p2_ : Int64) (p3_ : Int32) (p4_ : Int32) (h5_ : Nat) (h6_ : Nat) (h7_ : Nat) (h8_ : Nat) (p9_ : Int32) (p10_ : Int32) (h11_ : Nat) (p12_ : Int32) (p13_ : Int32) (p14_ : Int32) (k15_ : ClassId) (f16_ : Nat → Int64) (hb_p4_ : 0 ≤ p4_.toInt ∧ p4_.toInt ≤ 10) (hb_p9_ : 0 ≤ p9_.toInt ∧ p9_.toInt ≤ 24) (hb_p10_ : 0 ≤ p10_.toInt ∧ p10_.toInt ≤ 12) (hb_p13_ : 0 ≤ p13_.toInt ∧ p13_.toInt ≤ 8) (sz : Nat) : Met l yX9_fieldNamed (.code yX9_fieldNamed cX9_fieldNamed 4 (some .int) :: lw_g) ({ frames := 0, cells := 0, slots := 0, locals := 0 }) (va_Pc [.ref h0_, .long p1_] (fun U => U.heap.size = sz ∧ va_P (dC, dI) vwCl [(h0_, .inr (9, [.long p2_, .int p3_, .int p4_, .ref h5_, .ref h6_, .ref h7_, .ref h8_, .int p9_, .int p10_, .ref h11_, .int p12_, .int p13_, .int p14_])), (h5_, .inl (k15_, 10, .inr (.inl f16_)))] U.heap ∧ va_K (dC, dI) vwCl [(k15_, .long)] U ∧ va_D (fun _ => True) [(h0_, .inr (9, [.long p2_, .int p3_, .int p4_, .ref h5_, .ref h6_, .ref h7_, .ref h8_, .int p9_, .int p10_, .ref h11_, .int p12_, .int p13_, .int p14_])), (h5_, .inl (k15_, 10, .inr (.inl f16_)))])) (va_Qi (fun (r : Int32) (_ : Unit) => -1 ≤ r.toInt ∧ r.toInt ≤ 9) (fun (_ : Unit) (t : State) => va_P (dC, dI) vwCl [(h0_, .inr (9, [.long p2_, .int p3_, .int p4_, .ref h5_, .ref h6_, .ref h7_, .ref h8_, .int p9_, .int p10_, .ref h11_, .int p12_, .int p13_, .int p14_])), (h5_, .inl (k15_, 10, .inr (.inl f16_)))] t.heap ∧ va_K (dC, dI) vwCl [(k15_, .long)] t ∧ va_D (va_A [(h0_, .inr (9, [.long p2_, .int p3_, .int p4_, .ref h5_, .ref h6_, .ref h7_, .ref h8_, .int p9_, .int p10_, .ref h11_, .int p12_, .int p13_, .int p14_])), (h5_, .inl (k15_, 10, .inr (.inl f16_)))] sz) [(h0_, .inr (9, [.long p2_, .int p3_, .int p4_, .ref h5_, .ref h6_, .ref h7_, .ref h8_, .int p9_, .int p10_, .ref h11_, .int p12_, .int p13_, .int p14_])), (h5_, .inl (k15_, 10, .inr (.inl f16_)))]) (va_A [(h0_, .inr (9, [.long p2_, .int p3_, .int p4_, .ref h5_, .ref h6_, .ref h7_, .ref h8_, .int p9_, .int p10_, .ref h11_, .int p12_, .int p13_, .int p14_])), (h5_, .inl (k15_, 10, .inr (.inl f16_)))] sz)) 0 0 (va_A [(h0_, .inr (9, [.long p2_, .int p3_, .int p4_, .ref h5_, .ref h6_, .ref h7_, .ref h8_, .int p9_, .int p10_, .ref h11_, .int p12_, .int p13_, .int p14_])), (h5_, .inl (k15_, 10, .inr (.inl f16_)))] sz) := by
  refine Met.ofW (cc := cX9_fieldNamed) (maxL := 4) (ret := (some .int)) (by decide) rfl ?_
  intro p e s m args below meth c s₁ B hml hv
  obtain ⟨rfl, hsz, hP, hK, hD0⟩ := hv
  have hx := B.exec
  have hb := B.bytes
  have hr := B.returns
  have hts := atoms_spec (ws := (.code yX9_fieldNamed cX9_fieldNamed 4 (some .int) :: lw_g)) B.pre
  have hown : s.vm.findClass RX9 = some m.cls := findClass_of_methodNamed B.named
  have hlocks := B.notSynchronized
  subst hsz
  have hD := hD0.self (sz := s.heap.size)
  generalize hAe : va_A [(h0_, .inr (9, [.long p2_, .int p3_, .int p4_, .ref h5_, .ref h6_, .ref h7_, .ref h8_, .int p9_, .int p10_, .ref h11_, .int p12_, .int p13_, .int p14_])), (h5_, .inl (k15_, 10, .inr (.inl f16_)))] s.heap.size = A at hD ⊢
  have hA : ∀ q : Nat, s.heap.size ≤ q → A q := fun q h => by rw [← hAe]; exact Or.inr h
  have hS : va_S A s.heap s.heap [] := va_S.rf
  have hP : va_P (dC, dI) vwCl [(h0_, .inr (9, [.long p2_, .int p3_, .int p4_, .ref h5_, .ref h6_, .ref h7_, .ref h8_, .int p9_, .int p10_, .ref h11_, .int p12_, .int p13_, .int p14_])), (h5_, .inl (k15_, 10, .inr (.inl f16_)))] s.heap := hP
  have hl := lv_entry ([.ref h0_, .long p1_]) (n := 4) (Nat.le_of_ble_eq_true rfl)
  rw [lg_entry_eq]
  generalize (lg_sl ([.ref h0_, .long p1_]) ++ List.replicate (4 - (lg_sl ([.ref h0_, .long p1_])).length) Slot.unset).toArray = ls at hl ⊢
  have hl : lv_has ls 4 [(0, .ref h0_), (1, .long p1_)] := hl
  refine lv_iconst (v := 0) hx hb dX9_fieldNamed_0 (by decide) ?_
  refine lv_istore_n (lv' := [(3, .int 0), (0, .ref h0_), (1, .long p1_)]) hx hb dX9_fieldNamed_1 rfl hl (by decide) rfl (fun ls hl => ?_)
  refine W_q (fun Q hQ => ?_)
  have loop_1 : ∀ (n : Nat) (v2_l_3 : Int32), (0 ≤ v2_l_3.toInt ∧ v2_l_3.toInt ≤ 10) → (10 - v2_l_3.toInt < (n : Int)) → ∀ (H : Heap) (locs : List Loc) (ls : Array Slot), va_K (dC, dI) vwCl [(k15_, .long)] s → va_P (dC, dI) vwCl [(h0_, .inr (9, [.long p2_, .int p3_, .int p4_, .ref h5_, .ref h6_, .ref h7_, .ref h8_, .int p9_, .int p10_, .ref h11_, .int p12_, .int p13_, .int p14_])), (h5_, .inl (k15_, 10, .inr (.inl f16_)))] H → va_D A [(h0_, .inr (9, [.long p2_, .int p3_, .int p4_, .ref h5_, .ref h6_, .ref h7_, .ref h8_, .int p9_, .int p10_, .ref h11_, .int p12_, .int p13_, .int p14_])), (h5_, .inl (k15_, 10, .inr (.inl f16_)))] → va_S A s.heap H locs → lv_has ls 4 [(3, .int v2_l_3), (0, .ref h0_), (1, .long p1_)] → W p l e ({ frames := 0, cells := 0, slots := 0, locals := 0 } : Room) s m [.ref h0_, .long p1_].toArray below meth c H locs 0 0 Q (F0 m 2 ls []) := by
    intro n
    induction n with
    | zero =>
      intro v2_l_3 hb_v2_l_3 hm H locs ls hK hP hD hS hl
      exact absurd hm (by omega)
    | succ n ih =>
      intro v2_l_3 hb_v2_l_3 hm H locs ls hK hP hD hS hl
      refine lv_iload_n hx hb dX9_fieldNamed_2 rfl (lv_at hl 0 rfl) ?_
      refine lv_aload_n hx hb dX9_fieldNamed_3 rfl (lv_at hl 1 rfl) ?_
      refine va_get (D := (dC, dI)) (ci := 9) (v := .int p4_) (C := RX9) (T := TX9) (N := 13) hx hb hts (mc_ inX9) hown hK hP 0 rfl rfl 2 (by decide) (hts _ (List.mem_cons_of_mem _ t_485)) (fun _ h9 => h9) rfl dX9_fieldNamed_4 ?_
      refine lv_icmp_ge (tgt := 29) hx hb dX9_fieldNamed_7 (by decide) (fun c_2 => ?_) (fun c_2 => ?_)
      · have fc_2 := le_f c_2
        refine lv_iconst (v := (-1)) hx hb dX9_fieldNamed_29 (by decide) ?_
        subst hQ
        have hP9 := hP.sub (ws' := [(h0_, .inr (9, [.long p2_, .int p3_, .int p4_, .ref h5_, .ref h6_, .ref h7_, .ref h8_, .int p9_, .int p10_, .ref h11_, .int p12_, .int p13_, .int p14_])), (h5_, .inl (k15_, 10, .inr (.inl f16_)))]) [0, 1] rfl
        have hD9 := hD.sub (ws' := [(h0_, .inr (9, [.long p2_, .int p3_, .int p4_, .ref h5_, .ref h6_, .ref h7_, .ref h8_, .int p9_, .int p10_, .ref h11_, .int p12_, .int p13_, .int p14_])), (h5_, .inl (k15_, 10, .inr (.inl f16_)))]) [0, 1] (by decide) rfl
        have hK9 := hK.sub (tys' := [(k15_, .long)]) [0] rfl
        refine W.widen (k := 0) (n := 0) (Nat.le_of_ble_eq_true rfl) (Nat.le_of_ble_eq_true rfl) ?_
        exact W.iret (v := (-1)) hx hb hr (fun t ht hW => ⟨⟨_, (), rfl, ⟨by decide, by decide⟩, by rw [ht]; exact hP9, va_K.moved hW.alike hK9, hD9⟩, hS.F ht⟩) hS.2.2 dX9_fieldNamed_30
      · have fc_2 := nle_f c_2
        refine lv_aload_n hx hb dX9_fieldNamed_10 rfl (lv_at hl 1 rfl) ?_
        refine va_get (D := (dC, dI)) (ci := 9) (v := .ref h5_) (C := RX9) (T := TX9) (N := 13) hx hb hts (mc_ inX9) hown hK hP 0 rfl rfl 3 (by decide) (hts _ (List.mem_cons_of_mem _ t_488)) (fun _ h9 => h9) rfl dX9_fieldNamed_11 ?_
        refine lv_iload_n hx hb dX9_fieldNamed_14 rfl (lv_at hl 0 rfl) ?_
        refine va_lald hx hb hK hP 1 0 rfl rfl (in_ok (by omega) (by omega)) dX9_fieldNamed_15 ?_
        refine lv_topl (fun y_3 ey_3 => ?_)
        refine lv_lload_n hx hb dX9_fieldNamed_16 rfl (lv_at hl 2 rfl) ?_
        refine W.lcmp hx hb dX9_fieldNamed_17 ?_
        refine lv_if_ne (tgt := 23) hx hb dX9_fieldNamed_18 (by decide) (fun c_4 => ?_) (fun c_4 => ?_)
        · obtain ⟨y_5, ey_5⟩ : ∃ z : Int32, z = v2_l_3 + 1 := ⟨_, rfl⟩
          refine lv_iinc (v := y_5) (lv' := [(3, .int y_5), (0, .ref h0_), (1, .long p1_)]) hx hb dX9_fieldNamed_23 hl (k := 0) rfl (by rw [ey_5]; rfl) (by decide) rfl (fun ls hl => ?_)
          have kc_1 : (1 : Int32).toInt = 1 := by decide
          have ty_5 : y_5.toInt = v2_l_3.toInt + (1 : Int32).toInt := by rw [ey_5]; exact add_ok (by omega) (by omega)
          have b_6 : 1 ≤ y_5.toInt ∧ y_5.toInt ≤ 10 := by omega
          refine lv_goto (tgt := 2) hx hb dX9_fieldNamed_26 (by decide) ?_
          exact ih y_5 ⟨by omega, by omega⟩ (by omega) _ _ _ (hK.sub [0] rfl) (hP.sub [0, 1] rfl) (hD.sub [0, 1] (by decide) rfl) hS (lv_sub hl [0, 1, 2] rfl)
        · refine lv_iload_n hx hb dX9_fieldNamed_21 rfl (lv_at hl 0 rfl) ?_
          subst hQ
          have hP9 := hP.sub (ws' := [(h0_, .inr (9, [.long p2_, .int p3_, .int p4_, .ref h5_, .ref h6_, .ref h7_, .ref h8_, .int p9_, .int p10_, .ref h11_, .int p12_, .int p13_, .int p14_])), (h5_, .inl (k15_, 10, .inr (.inl f16_)))]) [0, 1] rfl
          have hD9 := hD.sub (ws' := [(h0_, .inr (9, [.long p2_, .int p3_, .int p4_, .ref h5_, .ref h6_, .ref h7_, .ref h8_, .int p9_, .int p10_, .ref h11_, .int p12_, .int p13_, .int p14_])), (h5_, .inl (k15_, 10, .inr (.inl f16_)))]) [0, 1] (by decide) rfl
          have hK9 := hK.sub (tys' := [(k15_, .long)]) [0] rfl
          refine W.widen (k := 0) (n := 0) (Nat.le_of_ble_eq_true rfl) (Nat.le_of_ble_eq_true rfl) ?_
          exact W.iret (v := v2_l_3) hx hb hr (fun t ht hW => ⟨⟨_, (), rfl, ⟨by omega, by omega⟩, by rw [ht]; exact hP9, va_K.moved hW.alike hK9, hD9⟩, hS.F ht⟩) hS.2.2 dX9_fieldNamed_22
  have kc_0 : (0 : Int32).toInt = 0 := by decide
  exact loop_1 12 0 ⟨by decide, by decide⟩ (by omega) _ _ _ hK hP hD hS hl
set_option maxHeartbeats 4000000 in
set_option maxRecDepth 100000 in
theorem s_X6_admits (l : Launch) (dC : Nat → ClassId) (dI : Nat → Nat → Nat) (h0_ : Nat) (p1_ : Int32) (p2_ : Int32) (p3_ : Int64) (p4_ : Int32) (p5_ : Int32) (p6_ : Int32) (h7_ : Nat) (h8_ : Nat) (p9_ : Int32) (p10_ : Int32) (p11_ : Int32) (p12_ : Int32) (p13_ : Int32) (p14_ : Int32) (p15_ : Int32) (k16_ : ClassId) (f17_ : Nat → Int32) (k18_ : ClassId) (f19_ : Nat → Int32) (hb_p6_ : 0 ≤ p6_.toInt ∧ p6_.toInt ≤ 3) (hb_p9_ : 0 ≤ p9_.toInt ∧ p9_.toInt ≤ 1) (sz : Nat) : Met l yX6_admits (.code yX6_admits cX6_admits 3 (some .boolean) :: lw_g) ({ frames := 0, cells := 0, slots := 0, locals := 0 }) (va_Pc [.ref h0_, .int p1_, .int p2_] (fun U => U.heap.size = sz ∧ va_P (dC, dI) vwCl [(h0_, .inr (6, [.long p3_, .int p4_, .int p5_, .int p6_, .ref h7_, .ref h8_, .int p9_, .int p10_, .int p11_, .int p12_, .int p13_, .int p14_, .int p15_])), (h7_, .inl (k16_, 3, .inl f17_)), (h8_, .inl (k18_, 3, .inl f19_))] U.heap ∧ va_K (dC, dI) vwCl [(k16_, .int), (k18_, .int)] U ∧ va_D (fun _ => True) [(h0_, .inr (6, [.long p3_, .int p4_, .int p5_, .int p6_, .ref h7_, .ref h8_, .int p9_, .int p10_, .int p11_, .int p12_, .int p13_, .int p14_, .int p15_])), (h7_, .inl (k16_, 3, .inl f17_)), (h8_, .inl (k18_, 3, .inl f19_))])) (va_Qi (fun (r : Int32) (_ : Unit) => 0 ≤ r.toInt ∧ r.toInt ≤ 1) (fun (_ : Unit) (t : State) => va_P (dC, dI) vwCl [(h0_, .inr (6, [.long p3_, .int p4_, .int p5_, .int p6_, .ref h7_, .ref h8_, .int p9_, .int p10_, .int p11_, .int p12_, .int p13_, .int p14_, .int p15_])), (h7_, .inl (k16_, 3, .inl f17_)), (h8_, .inl (k18_, 3, .inl f19_))] t.heap ∧ va_K (dC, dI) vwCl [(k16_, .int), (k18_, .int)] t ∧ va_D (va_A [(h0_, .inr (6, [.long p3_, .int p4_, .int p5_, .int p6_, .ref h7_, .ref h8_, .int p9_, .int p10_, .int p11_, .int p12_, .int p13_, .int p14_, .int p15_])), (h7_, .inl (k16_, 3, .inl f17_)), (h8_, .inl (k18_, 3, .inl f19_))] sz) [(h0_, .inr (6, [.long p3_, .int p4_, .int p5_, .int p6_, .ref h7_, .ref h8_, .int p9_, .int p10_, .int p11_, .int p12_, .int p13_, .int p14_, .int p15_])), (h7_, .inl (k16_, 3, .inl f17_)), (h8_, .inl (k18_, 3, .inl f19_))]) (va_A [(h0_, .inr (6, [.long p3_, .int p4_, .int p5_, .int p6_, .ref h7_, .ref h8_, .int p9_, .int p10_, .int p11_, .int p12_, .int p13_, .int p14_, .int p15_])), (h7_, .inl (k16_, 3, .inl f17_)), (h8_, .inl (k18_, 3, .inl f19_))] sz)) 0 0 (va_A [(h0_, .inr (6, [.long p3_, .int p4_, .int p5_, .int p6_, .ref h7_, .ref h8_, .int p9_, .int p10_, .int p11_, .int p12_, .int p13_, .int p14_, .int p15_])), (h7_, .inl (k16_, 3, .inl f17_)), (h8_, .inl (k18_, 3, .inl f19_))] sz) := by
  refine Met.ofW (cc := cX6_admits) (maxL := 3) (ret := (some .boolean)) (by decide) rfl ?_
  intro p e s m args below meth c s₁ B hml hv
  obtain ⟨rfl, hsz, hP, hK, hD0⟩ := hv
  have hx := B.exec
  have hb := B.bytes
  have hr := B.returns
  have hts := atoms_spec (ws := (.code yX6_admits cX6_admits 3 (some .boolean) :: lw_g)) B.pre
  have hown : s.vm.findClass RX6 = some m.cls := findClass_of_methodNamed B.named
  have hlocks := B.notSynchronized
  subst hsz
  have hD := hD0.self (sz := s.heap.size)
  generalize hAe : va_A [(h0_, .inr (6, [.long p3_, .int p4_, .int p5_, .int p6_, .ref h7_, .ref h8_, .int p9_, .int p10_, .int p11_, .int p12_, .int p13_, .int p14_, .int p15_])), (h7_, .inl (k16_, 3, .inl f17_)), (h8_, .inl (k18_, 3, .inl f19_))] s.heap.size = A at hD ⊢
  have hA : ∀ q : Nat, s.heap.size ≤ q → A q := fun q h => by rw [← hAe]; exact Or.inr h
  have hS : va_S A s.heap s.heap [] := va_S.rf
  have hP : va_P (dC, dI) vwCl [(h0_, .inr (6, [.long p3_, .int p4_, .int p5_, .int p6_, .ref h7_, .ref h8_, .int p9_, .int p10_, .int p11_, .int p12_, .int p13_, .int p14_, .int p15_])), (h7_, .inl (k16_, 3, .inl f17_)), (h8_, .inl (k18_, 3, .inl f19_))] s.heap := hP
  have hl := lv_entry ([.ref h0_, .int p1_, .int p2_]) (n := 3) (Nat.le_of_ble_eq_true rfl)
  rw [lg_entry_eq]
  generalize (lg_sl ([.ref h0_, .int p1_, .int p2_]) ++ List.replicate (3 - (lg_sl ([.ref h0_, .int p1_, .int p2_])).length) Slot.unset).toArray = ls at hl ⊢
  have hl : lv_has ls 3 [(0, .ref h0_), (1, .int p1_), (2, .int p2_)] := hl
  refine lv_iload_n hx hb dX6_admits_0 rfl (lv_at hl 1 rfl) ?_
  have kc_0 : (0 : Int32).toInt = 0 := by decide
  refine lv_if_lt (tgt := 17) hx hb dX6_admits_1 (by decide) (fun c_1 => ?_) (fun c_1 => ?_)
  · have fc_1 := lt_f c_1
    refine lv_iload_n hx hb dX6_admits_17 rfl (lv_at hl 2 rfl) ?_
    refine lv_if_ne (tgt := 25) hx hb dX6_admits_18 (by decide) (fun c_2 => ?_) (fun c_2 => ?_)
    · have fc_2 := neq_f c_2
      refine lv_iconst (v := 0) hx hb dX6_admits_25 (by decide) ?_
      have hP9 := hP.sub (ws' := [(h0_, .inr (6, [.long p3_, .int p4_, .int p5_, .int p6_, .ref h7_, .ref h8_, .int p9_, .int p10_, .int p11_, .int p12_, .int p13_, .int p14_, .int p15_])), (h7_, .inl (k16_, 3, .inl f17_)), (h8_, .inl (k18_, 3, .inl f19_))]) [0, 1, 2] rfl
      have hD9 := hD.sub (ws' := [(h0_, .inr (6, [.long p3_, .int p4_, .int p5_, .int p6_, .ref h7_, .ref h8_, .int p9_, .int p10_, .int p11_, .int p12_, .int p13_, .int p14_, .int p15_])), (h7_, .inl (k16_, 3, .inl f17_)), (h8_, .inl (k18_, 3, .inl f19_))]) [0, 1, 2] (by decide) rfl
      have hK9 := hK.sub (tys' := [(k16_, .int), (k18_, .int)]) [0, 1] rfl
      refine W.widen (k := 0) (n := 0) (Nat.le_of_ble_eq_true rfl) (Nat.le_of_ble_eq_true rfl) ?_
      exact W.zret (v := 0) hx hb hr rfl (fun t ht hW => ⟨⟨_, (), rfl, ⟨by decide, by decide⟩, by rw [ht]; exact hP9, va_K.moved hW.alike hK9, hD9⟩, hS.F ht⟩) hS.2.2 dX6_admits_26
    · have fc_2 := eq_f c_2
      refine lv_iconst (v := 1) hx hb dX6_admits_21 (by decide) ?_
      refine lv_goto (tgt := 26) hx hb dX6_admits_22 (by decide) ?_
      have hP9 := hP.sub (ws' := [(h0_, .inr (6, [.long p3_, .int p4_, .int p5_, .int p6_, .ref h7_, .ref h8_, .int p9_, .int p10_, .int p11_, .int p12_, .int p13_, .int p14_, .int p15_])), (h7_, .inl (k16_, 3, .inl f17_)), (h8_, .inl (k18_, 3, .inl f19_))]) [0, 1, 2] rfl
      have hD9 := hD.sub (ws' := [(h0_, .inr (6, [.long p3_, .int p4_, .int p5_, .int p6_, .ref h7_, .ref h8_, .int p9_, .int p10_, .int p11_, .int p12_, .int p13_, .int p14_, .int p15_])), (h7_, .inl (k16_, 3, .inl f17_)), (h8_, .inl (k18_, 3, .inl f19_))]) [0, 1, 2] (by decide) rfl
      have hK9 := hK.sub (tys' := [(k16_, .int), (k18_, .int)]) [0, 1] rfl
      refine W.widen (k := 0) (n := 0) (Nat.le_of_ble_eq_true rfl) (Nat.le_of_ble_eq_true rfl) ?_
      exact W.zret (v := 1) hx hb hr rfl (fun t ht hW => ⟨⟨_, (), rfl, ⟨by decide, by decide⟩, by rw [ht]; exact hP9, va_K.moved hW.alike hK9, hD9⟩, hS.F ht⟩) hS.2.2 dX6_admits_26
  · have fc_1 := nlt_f c_1
    refine lv_iload_n hx hb dX6_admits_4 rfl (lv_at hl 1 rfl) ?_
    refine lv_aload_n hx hb dX6_admits_5 rfl (lv_at hl 0 rfl) ?_
    refine va_get (D := (dC, dI)) (ci := 6) (v := .int p6_) (C := RX6) (T := TX6) (N := 13) hx hb hts (mc_ inX6) hown hK hP 0 rfl rfl 3 (by decide) (hts _ (List.mem_cons_of_mem _ t_562)) (fun _ h9 => h9) rfl dX6_admits_6 ?_
    refine lv_icmp_ge (tgt := 17) hx hb dX6_admits_9 (by decide) (fun c_3 => ?_) (fun c_3 => ?_)
    · have fc_3 := le_f c_3
      refine lv_iload_n hx hb dX6_admits_17 rfl (lv_at hl 2 rfl) ?_
      refine lv_if_ne (tgt := 25) hx hb dX6_admits_18 (by decide) (fun c_4 => ?_) (fun c_4 => ?_)
      · have fc_4 := neq_f c_4
        refine lv_iconst (v := 0) hx hb dX6_admits_25 (by decide) ?_
        have hP9 := hP.sub (ws' := [(h0_, .inr (6, [.long p3_, .int p4_, .int p5_, .int p6_, .ref h7_, .ref h8_, .int p9_, .int p10_, .int p11_, .int p12_, .int p13_, .int p14_, .int p15_])), (h7_, .inl (k16_, 3, .inl f17_)), (h8_, .inl (k18_, 3, .inl f19_))]) [0, 1, 2] rfl
        have hD9 := hD.sub (ws' := [(h0_, .inr (6, [.long p3_, .int p4_, .int p5_, .int p6_, .ref h7_, .ref h8_, .int p9_, .int p10_, .int p11_, .int p12_, .int p13_, .int p14_, .int p15_])), (h7_, .inl (k16_, 3, .inl f17_)), (h8_, .inl (k18_, 3, .inl f19_))]) [0, 1, 2] (by decide) rfl
        have hK9 := hK.sub (tys' := [(k16_, .int), (k18_, .int)]) [0, 1] rfl
        refine W.widen (k := 0) (n := 0) (Nat.le_of_ble_eq_true rfl) (Nat.le_of_ble_eq_true rfl) ?_
        exact W.zret (v := 0) hx hb hr rfl (fun t ht hW => ⟨⟨_, (), rfl, ⟨by decide, by decide⟩, by rw [ht]; exact hP9, va_K.moved hW.alike hK9, hD9⟩, hS.F ht⟩) hS.2.2 dX6_admits_26
      · have fc_4 := eq_f c_4
        refine lv_iconst (v := 1) hx hb dX6_admits_21 (by decide) ?_
        refine lv_goto (tgt := 26) hx hb dX6_admits_22 (by decide) ?_
        have hP9 := hP.sub (ws' := [(h0_, .inr (6, [.long p3_, .int p4_, .int p5_, .int p6_, .ref h7_, .ref h8_, .int p9_, .int p10_, .int p11_, .int p12_, .int p13_, .int p14_, .int p15_])), (h7_, .inl (k16_, 3, .inl f17_)), (h8_, .inl (k18_, 3, .inl f19_))]) [0, 1, 2] rfl
        have hD9 := hD.sub (ws' := [(h0_, .inr (6, [.long p3_, .int p4_, .int p5_, .int p6_, .ref h7_, .ref h8_, .int p9_, .int p10_, .int p11_, .int p12_, .int p13_, .int p14_, .int p15_])), (h7_, .inl (k16_, 3, .inl f17_)), (h8_, .inl (k18_, 3, .inl f19_))]) [0, 1, 2] (by decide) rfl
        have hK9 := hK.sub (tys' := [(k16_, .int), (k18_, .int)]) [0, 1] rfl
        refine W.widen (k := 0) (n := 0) (Nat.le_of_ble_eq_true rfl) (Nat.le_of_ble_eq_true rfl) ?_
        exact W.zret (v := 1) hx hb hr rfl (fun t ht hW => ⟨⟨_, (), rfl, ⟨by decide, by decide⟩, by rw [ht]; exact hP9, va_K.moved hW.alike hK9, hD9⟩, hS.F ht⟩) hS.2.2 dX6_admits_26
    · have fc_3 := nle_f c_3
      refine lv_iload_n hx hb dX6_admits_12 rfl (lv_at hl 1 rfl) ?_
      refine lv_iconst (v := 3) hx hb dX6_admits_13 (by decide) ?_
      have kc_3 : (3 : Int32).toInt = 3 := by decide
      refine lv_icmp_lt (tgt := 27) hx hb dX6_admits_14 (by decide) (fun c_5 => ?_) (fun c_5 => ?_)
      · have fc_5 := lt_f c_5
        refine lv_iload_n hx hb dX6_admits_27 rfl (lv_at hl 2 rfl) ?_
        refine lv_aload_n hx hb dX6_admits_28 rfl (lv_at hl 0 rfl) ?_
        refine va_get (D := (dC, dI)) (ci := 6) (v := .ref h7_) (C := RX6) (T := TX6) (N := 13) hx hb hts (mc_ inX6) hown hK hP 0 rfl rfl 4 (by decide) (hts _ (List.mem_cons_of_mem _ t_569)) (fun _ h9 => h9) rfl dX6_admits_29 ?_
        refine lv_iload_n hx hb dX6_admits_32 rfl (lv_at hl 1 rfl) ?_
        refine va_iald hx hb hK hP 1 0 rfl rfl (in_ok (by omega) (by omega)) dX6_admits_33 ?_
        refine lv_topi (fun y_6 ey_6 => ?_)
        refine lv_icmp_lt (tgt := 51) hx hb dX6_admits_34 (by decide) (fun c_7 => ?_) (fun c_7 => ?_)
        · have fc_7 := lt_f c_7
          refine lv_iconst (v := 0) hx hb dX6_admits_51 (by decide) ?_
          have hP9 := hP.sub (ws' := [(h0_, .inr (6, [.long p3_, .int p4_, .int p5_, .int p6_, .ref h7_, .ref h8_, .int p9_, .int p10_, .int p11_, .int p12_, .int p13_, .int p14_, .int p15_])), (h7_, .inl (k16_, 3, .inl f17_)), (h8_, .inl (k18_, 3, .inl f19_))]) [0, 1, 2] rfl
          have hD9 := hD.sub (ws' := [(h0_, .inr (6, [.long p3_, .int p4_, .int p5_, .int p6_, .ref h7_, .ref h8_, .int p9_, .int p10_, .int p11_, .int p12_, .int p13_, .int p14_, .int p15_])), (h7_, .inl (k16_, 3, .inl f17_)), (h8_, .inl (k18_, 3, .inl f19_))]) [0, 1, 2] (by decide) rfl
          have hK9 := hK.sub (tys' := [(k16_, .int), (k18_, .int)]) [0, 1] rfl
          refine W.widen (k := 0) (n := 0) (Nat.le_of_ble_eq_true rfl) (Nat.le_of_ble_eq_true rfl) ?_
          exact W.zret (v := 0) hx hb hr rfl (fun t ht hW => ⟨⟨_, (), rfl, ⟨by decide, by decide⟩, by rw [ht]; exact hP9, va_K.moved hW.alike hK9, hD9⟩, hS.F ht⟩) hS.2.2 dX6_admits_52
        · have fc_7 := nlt_f c_7
          refine lv_iload_n hx hb dX6_admits_37 rfl (lv_at hl 2 rfl) ?_
          refine lv_aload_n hx hb dX6_admits_38 rfl (lv_at hl 0 rfl) ?_
          refine va_get (D := (dC, dI)) (ci := 6) (v := .ref h8_) (C := RX6) (T := TX6) (N := 13) hx hb hts (mc_ inX6) hown hK hP 0 rfl rfl 5 (by decide) (hts _ (List.mem_cons_of_mem _ t_573)) (fun _ h9 => h9) rfl dX6_admits_39 ?_
          refine lv_iload_n hx hb dX6_admits_42 rfl (lv_at hl 1 rfl) ?_
          refine va_iald hx hb hK hP 2 1 rfl rfl (in_ok (by omega) (by omega)) dX6_admits_43 ?_
          refine lv_topi (fun y_8 ey_8 => ?_)
          refine lv_icmp_gt (tgt := 51) hx hb dX6_admits_44 (by decide) (fun c_9 => ?_) (fun c_9 => ?_)
          · have fc_9 := lt_f c_9
            refine lv_iconst (v := 0) hx hb dX6_admits_51 (by decide) ?_
            have hP9 := hP.sub (ws' := [(h0_, .inr (6, [.long p3_, .int p4_, .int p5_, .int p6_, .ref h7_, .ref h8_, .int p9_, .int p10_, .int p11_, .int p12_, .int p13_, .int p14_, .int p15_])), (h7_, .inl (k16_, 3, .inl f17_)), (h8_, .inl (k18_, 3, .inl f19_))]) [0, 1, 2] rfl
            have hD9 := hD.sub (ws' := [(h0_, .inr (6, [.long p3_, .int p4_, .int p5_, .int p6_, .ref h7_, .ref h8_, .int p9_, .int p10_, .int p11_, .int p12_, .int p13_, .int p14_, .int p15_])), (h7_, .inl (k16_, 3, .inl f17_)), (h8_, .inl (k18_, 3, .inl f19_))]) [0, 1, 2] (by decide) rfl
            have hK9 := hK.sub (tys' := [(k16_, .int), (k18_, .int)]) [0, 1] rfl
            refine W.widen (k := 0) (n := 0) (Nat.le_of_ble_eq_true rfl) (Nat.le_of_ble_eq_true rfl) ?_
            exact W.zret (v := 0) hx hb hr rfl (fun t ht hW => ⟨⟨_, (), rfl, ⟨by decide, by decide⟩, by rw [ht]; exact hP9, va_K.moved hW.alike hK9, hD9⟩, hS.F ht⟩) hS.2.2 dX6_admits_52
          · have fc_9 := nlt_f c_9
            refine lv_iconst (v := 1) hx hb dX6_admits_47 (by decide) ?_
            refine lv_goto (tgt := 52) hx hb dX6_admits_48 (by decide) ?_
            have hP9 := hP.sub (ws' := [(h0_, .inr (6, [.long p3_, .int p4_, .int p5_, .int p6_, .ref h7_, .ref h8_, .int p9_, .int p10_, .int p11_, .int p12_, .int p13_, .int p14_, .int p15_])), (h7_, .inl (k16_, 3, .inl f17_)), (h8_, .inl (k18_, 3, .inl f19_))]) [0, 1, 2] rfl
            have hD9 := hD.sub (ws' := [(h0_, .inr (6, [.long p3_, .int p4_, .int p5_, .int p6_, .ref h7_, .ref h8_, .int p9_, .int p10_, .int p11_, .int p12_, .int p13_, .int p14_, .int p15_])), (h7_, .inl (k16_, 3, .inl f17_)), (h8_, .inl (k18_, 3, .inl f19_))]) [0, 1, 2] (by decide) rfl
            have hK9 := hK.sub (tys' := [(k16_, .int), (k18_, .int)]) [0, 1] rfl
            refine W.widen (k := 0) (n := 0) (Nat.le_of_ble_eq_true rfl) (Nat.le_of_ble_eq_true rfl) ?_
            exact W.zret (v := 1) hx hb hr rfl (fun t ht hW => ⟨⟨_, (), rfl, ⟨by decide, by decide⟩, by rw [ht]; exact hP9, va_K.moved hW.alike hK9, hD9⟩, hS.F ht⟩) hS.2.2 dX6_admits_52
      · have fc_5 := nlt_f c_5
        exfalso
        omega
set_option maxHeartbeats 4000000 in
set_option maxRecDepth 100000 in
theorem s_X6_firstOf (l : Launch) (dC : Nat → ClassId) (dI : Nat → Nat → Nat) (h0_ : Nat) (p1_ : Int32) (p2_ : Int64) (p3_ : Int32) (p4_ : Int32) (p5_ : Int32) (h6_ : Nat) (h7_ : Nat) (p8_ : Int32) (p9_ : Int32) (p10_ : Int32) (p11_ : Int32) (p12_ : Int32) (p13_ : Int32) (p14_ : Int32) (k15_ : ClassId) (f16_ : Nat → Int32) (k17_ : ClassId) (f18_ : Nat → Int32) (hb_p5_ : 0 ≤ p5_.toInt ∧ p5_.toInt ≤ 3) (hb_p8_ : 0 ≤ p8_.toInt ∧ p8_.toInt ≤ 1) (sz : Nat) : Met l yX6_firstOf (.code yX6_firstOf cX6_firstOf 2 (some .int) :: lw_g) ({ frames := 0, cells := 0, slots := 0, locals := 0 }) (va_Pc [.ref h0_, .int p1_] (fun U => U.heap.size = sz ∧ va_P (dC, dI) vwCl [(h0_, .inr (6, [.long p2_, .int p3_, .int p4_, .int p5_, .ref h6_, .ref h7_, .int p8_, .int p9_, .int p10_, .int p11_, .int p12_, .int p13_, .int p14_])), (h6_, .inl (k15_, 3, .inl f16_)), (h7_, .inl (k17_, 3, .inl f18_))] U.heap ∧ va_K (dC, dI) vwCl [(k15_, .int), (k17_, .int)] U ∧ va_D (fun _ => True) [(h0_, .inr (6, [.long p2_, .int p3_, .int p4_, .int p5_, .ref h6_, .ref h7_, .int p8_, .int p9_, .int p10_, .int p11_, .int p12_, .int p13_, .int p14_])), (h6_, .inl (k15_, 3, .inl f16_)), (h7_, .inl (k17_, 3, .inl f18_))])) (va_Qi (fun (r : Int32) (_ : Unit) => True) (fun (_ : Unit) (t : State) => va_P (dC, dI) vwCl [(h0_, .inr (6, [.long p2_, .int p3_, .int p4_, .int p5_, .ref h6_, .ref h7_, .int p8_, .int p9_, .int p10_, .int p11_, .int p12_, .int p13_, .int p14_])), (h6_, .inl (k15_, 3, .inl f16_)), (h7_, .inl (k17_, 3, .inl f18_))] t.heap ∧ va_K (dC, dI) vwCl [(k15_, .int), (k17_, .int)] t ∧ va_D (va_A [(h0_, .inr (6, [.long p2_, .int p3_, .int p4_, .int p5_, .ref h6_, .ref h7_, .int p8_, .int p9_, .int p10_, .int p11_, .int p12_, .int p13_, .int p14_])), (h6_, .inl (k15_, 3, .inl f16_)), (h7_, .inl (k17_, 3, .inl f18_))] sz) [(h0_, .inr (6, [.long p2_, .int p3_, .int p4_, .int p5_, .ref h6_, .ref h7_, .int p8_, .int p9_, .int p10_, .int p11_, .int p12_, .int p13_, .int p14_])), (h6_, .inl (k15_, 3, .inl f16_)), (h7_, .inl (k17_, 3, .inl f18_))]) (va_A [(h0_, .inr (6, [.long p2_, .int p3_, .int p4_, .int p5_, .ref h6_, .ref h7_, .int p8_, .int p9_, .int p10_, .int p11_, .int p12_, .int p13_, .int p14_])), (h6_, .inl (k15_, 3, .inl f16_)), (h7_, .inl (k17_, 3, .inl f18_))] sz)) 0 0 (va_A [(h0_, .inr (6, [.long p2_, .int p3_, .int p4_, .int p5_, .ref h6_, .ref h7_, .int p8_, .int p9_, .int p10_, .int p11_, .int p12_, .int p13_, .int p14_])), (h6_, .inl (k15_, 3, .inl f16_)), (h7_, .inl (k17_, 3, .inl f18_))] sz) := by
  refine Met.ofW (cc := cX6_firstOf) (maxL := 2) (ret := (some .int)) (by decide) rfl ?_
  intro p e s m args below meth c s₁ B hml hv
  obtain ⟨rfl, hsz, hP, hK, hD0⟩ := hv
  have hx := B.exec
  have hb := B.bytes
  have hr := B.returns
  have hts := atoms_spec (ws := (.code yX6_firstOf cX6_firstOf 2 (some .int) :: lw_g)) B.pre
  have hown : s.vm.findClass RX6 = some m.cls := findClass_of_methodNamed B.named
  have hlocks := B.notSynchronized
  subst hsz
  have hD := hD0.self (sz := s.heap.size)
  generalize hAe : va_A [(h0_, .inr (6, [.long p2_, .int p3_, .int p4_, .int p5_, .ref h6_, .ref h7_, .int p8_, .int p9_, .int p10_, .int p11_, .int p12_, .int p13_, .int p14_])), (h6_, .inl (k15_, 3, .inl f16_)), (h7_, .inl (k17_, 3, .inl f18_))] s.heap.size = A at hD ⊢
  have hA : ∀ q : Nat, s.heap.size ≤ q → A q := fun q h => by rw [← hAe]; exact Or.inr h
  have hS : va_S A s.heap s.heap [] := va_S.rf
  have hP : va_P (dC, dI) vwCl [(h0_, .inr (6, [.long p2_, .int p3_, .int p4_, .int p5_, .ref h6_, .ref h7_, .int p8_, .int p9_, .int p10_, .int p11_, .int p12_, .int p13_, .int p14_])), (h6_, .inl (k15_, 3, .inl f16_)), (h7_, .inl (k17_, 3, .inl f18_))] s.heap := hP
  have hl := lv_entry ([.ref h0_, .int p1_]) (n := 2) (Nat.le_of_ble_eq_true rfl)
  rw [lg_entry_eq]
  generalize (lg_sl ([.ref h0_, .int p1_]) ++ List.replicate (2 - (lg_sl ([.ref h0_, .int p1_])).length) Slot.unset).toArray = ls at hl ⊢
  have hl : lv_has ls 2 [(0, .ref h0_), (1, .int p1_)] := hl
  refine lv_iload_n hx hb dX6_firstOf_0 rfl (lv_at hl 1 rfl) ?_
  have kc_0 : (0 : Int32).toInt = 0 := by decide
  refine lv_if_lt (tgt := 9) hx hb dX6_firstOf_1 (by decide) (fun c_1 => ?_) (fun c_1 => ?_)
  · have fc_1 := lt_f c_1
    refine lv_iconst (v := 0) hx hb dX6_firstOf_9 (by decide) ?_
    have hP9 := hP.sub (ws' := [(h0_, .inr (6, [.long p2_, .int p3_, .int p4_, .int p5_, .ref h6_, .ref h7_, .int p8_, .int p9_, .int p10_, .int p11_, .int p12_, .int p13_, .int p14_])), (h6_, .inl (k15_, 3, .inl f16_)), (h7_, .inl (k17_, 3, .inl f18_))]) [0, 1, 2] rfl
    have hD9 := hD.sub (ws' := [(h0_, .inr (6, [.long p2_, .int p3_, .int p4_, .int p5_, .ref h6_, .ref h7_, .int p8_, .int p9_, .int p10_, .int p11_, .int p12_, .int p13_, .int p14_])), (h6_, .inl (k15_, 3, .inl f16_)), (h7_, .inl (k17_, 3, .inl f18_))]) [0, 1, 2] (by decide) rfl
    have hK9 := hK.sub (tys' := [(k15_, .int), (k17_, .int)]) [0, 1] rfl
    refine W.widen (k := 0) (n := 0) (Nat.le_of_ble_eq_true rfl) (Nat.le_of_ble_eq_true rfl) ?_
    exact W.iret (v := 0) hx hb hr (fun t ht hW => ⟨⟨_, (), rfl, trivial, by rw [ht]; exact hP9, va_K.moved hW.alike hK9, hD9⟩, hS.F ht⟩) hS.2.2 dX6_firstOf_10
  · have fc_1 := nlt_f c_1
    refine lv_iload_n hx hb dX6_firstOf_4 rfl (lv_at hl 1 rfl) ?_
    refine lv_iconst (v := 3) hx hb dX6_firstOf_5 (by decide) ?_
    have kc_3 : (3 : Int32).toInt = 3 := by decide
    refine lv_icmp_lt (tgt := 11) hx hb dX6_firstOf_6 (by decide) (fun c_2 => ?_) (fun c_2 => ?_)
    · have fc_2 := lt_f c_2
      refine lv_aload_n hx hb dX6_firstOf_11 rfl (lv_at hl 0 rfl) ?_
      refine va_get (D := (dC, dI)) (ci := 6) (v := .ref h6_) (C := RX6) (T := TX6) (N := 13) hx hb hts (mc_ inX6) hown hK hP 0 rfl rfl 4 (by decide) (hts _ (List.mem_cons_of_mem _ t_569)) (fun _ h9 => h9) rfl dX6_firstOf_12 ?_
      refine lv_iload_n hx hb dX6_firstOf_15 rfl (lv_at hl 1 rfl) ?_
      refine va_iald hx hb hK hP 1 0 rfl rfl (in_ok (by omega) (by omega)) dX6_firstOf_16 ?_
      refine lv_topi (fun y_3 ey_3 => ?_)
      refine lv_if_gt (tgt := 33) hx hb dX6_firstOf_17 (by decide) (fun c_4 => ?_) (fun c_4 => ?_)
      · have fc_4 := lt_f c_4
        refine lv_aload_n hx hb dX6_firstOf_33 rfl (lv_at hl 0 rfl) ?_
        refine va_get (D := (dC, dI)) (ci := 6) (v := .ref h6_) (C := RX6) (T := TX6) (N := 13) hx hb hts (mc_ inX6) hown hK hP 0 rfl rfl 4 (by decide) (hts _ (List.mem_cons_of_mem _ t_569)) (fun _ h9 => h9) rfl dX6_firstOf_34 ?_
        refine lv_iload_n hx hb dX6_firstOf_37 rfl (lv_at hl 1 rfl) ?_
        refine va_iald hx hb hK hP 1 0 rfl rfl (in_ok (by omega) (by omega)) dX6_firstOf_38 ?_
        refine lv_topi (fun y_5 ey_5 => ?_)
        have hP9 := hP.sub (ws' := [(h0_, .inr (6, [.long p2_, .int p3_, .int p4_, .int p5_, .ref h6_, .ref h7_, .int p8_, .int p9_, .int p10_, .int p11_, .int p12_, .int p13_, .int p14_])), (h6_, .inl (k15_, 3, .inl f16_)), (h7_, .inl (k17_, 3, .inl f18_))]) [0, 1, 2] rfl
        have hD9 := hD.sub (ws' := [(h0_, .inr (6, [.long p2_, .int p3_, .int p4_, .int p5_, .ref h6_, .ref h7_, .int p8_, .int p9_, .int p10_, .int p11_, .int p12_, .int p13_, .int p14_])), (h6_, .inl (k15_, 3, .inl f16_)), (h7_, .inl (k17_, 3, .inl f18_))]) [0, 1, 2] (by decide) rfl
        have hK9 := hK.sub (tys' := [(k15_, .int), (k17_, .int)]) [0, 1] rfl
        refine W.widen (k := 0) (n := 0) (Nat.le_of_ble_eq_true rfl) (Nat.le_of_ble_eq_true rfl) ?_
        exact W.iret (v := y_5) hx hb hr (fun t ht hW => ⟨⟨_, (), rfl, trivial, by rw [ht]; exact hP9, va_K.moved hW.alike hK9, hD9⟩, hS.F ht⟩) hS.2.2 dX6_firstOf_39
      · have fc_4 := nlt_f c_4
        refine lv_aload_n hx hb dX6_firstOf_20 rfl (lv_at hl 0 rfl) ?_
        refine va_get (D := (dC, dI)) (ci := 6) (v := .ref h7_) (C := RX6) (T := TX6) (N := 13) hx hb hts (mc_ inX6) hown hK hP 0 rfl rfl 5 (by decide) (hts _ (List.mem_cons_of_mem _ t_573)) (fun _ h9 => h9) rfl dX6_firstOf_21 ?_
        refine lv_iload_n hx hb dX6_firstOf_24 rfl (lv_at hl 1 rfl) ?_
        refine va_iald hx hb hK hP 2 1 rfl rfl (in_ok (by omega) (by omega)) dX6_firstOf_25 ?_
        refine lv_topi (fun y_6 ey_6 => ?_)
        refine lv_if_lt (tgt := 33) hx hb dX6_firstOf_26 (by decide) (fun c_7 => ?_) (fun c_7 => ?_)
        · have fc_7 := lt_f c_7
          refine lv_aload_n hx hb dX6_firstOf_33 rfl (lv_at hl 0 rfl) ?_
          refine va_get (D := (dC, dI)) (ci := 6) (v := .ref h6_) (C := RX6) (T := TX6) (N := 13) hx hb hts (mc_ inX6) hown hK hP 0 rfl rfl 4 (by decide) (hts _ (List.mem_cons_of_mem _ t_569)) (fun _ h9 => h9) rfl dX6_firstOf_34 ?_
          refine lv_iload_n hx hb dX6_firstOf_37 rfl (lv_at hl 1 rfl) ?_
          refine va_iald hx hb hK hP 1 0 rfl rfl (in_ok (by omega) (by omega)) dX6_firstOf_38 ?_
          refine lv_topi (fun y_8 ey_8 => ?_)
          have hP9 := hP.sub (ws' := [(h0_, .inr (6, [.long p2_, .int p3_, .int p4_, .int p5_, .ref h6_, .ref h7_, .int p8_, .int p9_, .int p10_, .int p11_, .int p12_, .int p13_, .int p14_])), (h6_, .inl (k15_, 3, .inl f16_)), (h7_, .inl (k17_, 3, .inl f18_))]) [0, 1, 2] rfl
          have hD9 := hD.sub (ws' := [(h0_, .inr (6, [.long p2_, .int p3_, .int p4_, .int p5_, .ref h6_, .ref h7_, .int p8_, .int p9_, .int p10_, .int p11_, .int p12_, .int p13_, .int p14_])), (h6_, .inl (k15_, 3, .inl f16_)), (h7_, .inl (k17_, 3, .inl f18_))]) [0, 1, 2] (by decide) rfl
          have hK9 := hK.sub (tys' := [(k15_, .int), (k17_, .int)]) [0, 1] rfl
          refine W.widen (k := 0) (n := 0) (Nat.le_of_ble_eq_true rfl) (Nat.le_of_ble_eq_true rfl) ?_
          exact W.iret (v := y_8) hx hb hr (fun t ht hW => ⟨⟨_, (), rfl, trivial, by rw [ht]; exact hP9, va_K.moved hW.alike hK9, hD9⟩, hS.F ht⟩) hS.2.2 dX6_firstOf_39
        · have fc_7 := nlt_f c_7
          refine lv_iconst (v := 0) hx hb dX6_firstOf_29 (by decide) ?_
          refine lv_goto (tgt := 39) hx hb dX6_firstOf_30 (by decide) ?_
          have hP9 := hP.sub (ws' := [(h0_, .inr (6, [.long p2_, .int p3_, .int p4_, .int p5_, .ref h6_, .ref h7_, .int p8_, .int p9_, .int p10_, .int p11_, .int p12_, .int p13_, .int p14_])), (h6_, .inl (k15_, 3, .inl f16_)), (h7_, .inl (k17_, 3, .inl f18_))]) [0, 1, 2] rfl
          have hD9 := hD.sub (ws' := [(h0_, .inr (6, [.long p2_, .int p3_, .int p4_, .int p5_, .ref h6_, .ref h7_, .int p8_, .int p9_, .int p10_, .int p11_, .int p12_, .int p13_, .int p14_])), (h6_, .inl (k15_, 3, .inl f16_)), (h7_, .inl (k17_, 3, .inl f18_))]) [0, 1, 2] (by decide) rfl
          have hK9 := hK.sub (tys' := [(k15_, .int), (k17_, .int)]) [0, 1] rfl
          refine W.widen (k := 0) (n := 0) (Nat.le_of_ble_eq_true rfl) (Nat.le_of_ble_eq_true rfl) ?_
          exact W.iret (v := 0) hx hb hr (fun t ht hW => ⟨⟨_, (), rfl, trivial, by rw [ht]; exact hP9, va_K.moved hW.alike hK9, hD9⟩, hS.F ht⟩) hS.2.2 dX6_firstOf_39
    · have fc_2 := nlt_f c_2
      refine lv_iconst (v := 0) hx hb dX6_firstOf_9 (by decide) ?_
      have hP9 := hP.sub (ws' := [(h0_, .inr (6, [.long p2_, .int p3_, .int p4_, .int p5_, .ref h6_, .ref h7_, .int p8_, .int p9_, .int p10_, .int p11_, .int p12_, .int p13_, .int p14_])), (h6_, .inl (k15_, 3, .inl f16_)), (h7_, .inl (k17_, 3, .inl f18_))]) [0, 1, 2] rfl
      have hD9 := hD.sub (ws' := [(h0_, .inr (6, [.long p2_, .int p3_, .int p4_, .int p5_, .ref h6_, .ref h7_, .int p8_, .int p9_, .int p10_, .int p11_, .int p12_, .int p13_, .int p14_])), (h6_, .inl (k15_, 3, .inl f16_)), (h7_, .inl (k17_, 3, .inl f18_))]) [0, 1, 2] (by decide) rfl
      have hK9 := hK.sub (tys' := [(k15_, .int), (k17_, .int)]) [0, 1] rfl
      refine W.widen (k := 0) (n := 0) (Nat.le_of_ble_eq_true rfl) (Nat.le_of_ble_eq_true rfl) ?_
      exact W.iret (v := 0) hx hb hr (fun t ht hW => ⟨⟨_, (), rfl, trivial, by rw [ht]; exact hP9, va_K.moved hW.alike hK9, hD9⟩, hS.F ht⟩) hS.2.2 dX6_firstOf_10
set_option maxHeartbeats 4000000 in
set_option maxRecDepth 100000 in
theorem s_X6_numberBehind (l : Launch) (dC : Nat → ClassId) (dI : Nat → Nat → Nat) (h0_ : Nat) (p1_ : Int32) (p2_ : Int32) (p3_ : Int64) (p4_ : Int32) (p5_ : Int32) (p6_ : Int32) (h7_ : Nat) (h8_ : Nat) (p9_ : Int32) (p10_ : Int32) (p11_ : Int32) (p12_ : Int32) (p13_ : Int32) (p14_ : Int32) (p15_ : Int32) (k16_ : ClassId) (f17_ : Nat → Int32) (k18_ : ClassId) (f19_ : Nat → Int32) (hb_p6_ : 0 ≤ p6_.toInt ∧ p6_.toInt ≤ 3) (hb_p9_ : 0 ≤ p9_.toInt ∧ p9_.toInt ≤ 1) (sz : Nat) : Met l yX6_numberBehind (.code yX6_numberBehind cX6_numberBehind 3 (some .int) :: lw_g) ({ frames := 0, cells := 0, slots := 0, locals := 0 }) (va_Pc [.ref h0_, .int p1_, .int p2_] (fun U => U.heap.size = sz ∧ va_P (dC, dI) vwCl [(h0_, .inr (6, [.long p3_, .int p4_, .int p5_, .int p6_, .ref h7_, .ref h8_, .int p9_, .int p10_, .int p11_, .int p12_, .int p13_, .int p14_, .int p15_])), (h8_, .inl (k18_, 3, .inl f19_)), (h7_, .inl (k16_, 3, .inl f17_))] U.heap ∧ va_K (dC, dI) vwCl [(k18_, .int), (k16_, .int)] U ∧ va_D (fun _ => True) [(h0_, .inr (6, [.long p3_, .int p4_, .int p5_, .int p6_, .ref h7_, .ref h8_, .int p9_, .int p10_, .int p11_, .int p12_, .int p13_, .int p14_, .int p15_])), (h8_, .inl (k18_, 3, .inl f19_)), (h7_, .inl (k16_, 3, .inl f17_))])) (va_Qi (fun (r : Int32) (_ : Unit) => True) (fun (_ : Unit) (t : State) => va_P (dC, dI) vwCl [(h0_, .inr (6, [.long p3_, .int p4_, .int p5_, .int p6_, .ref h7_, .ref h8_, .int p9_, .int p10_, .int p11_, .int p12_, .int p13_, .int p14_, .int p15_])), (h8_, .inl (k18_, 3, .inl f19_)), (h7_, .inl (k16_, 3, .inl f17_))] t.heap ∧ va_K (dC, dI) vwCl [(k18_, .int), (k16_, .int)] t ∧ va_D (va_A [(h0_, .inr (6, [.long p3_, .int p4_, .int p5_, .int p6_, .ref h7_, .ref h8_, .int p9_, .int p10_, .int p11_, .int p12_, .int p13_, .int p14_, .int p15_])), (h8_, .inl (k18_, 3, .inl f19_)), (h7_, .inl (k16_, 3, .inl f17_))] sz) [(h0_, .inr (6, [.long p3_, .int p4_, .int p5_, .int p6_, .ref h7_, .ref h8_, .int p9_, .int p10_, .int p11_, .int p12_, .int p13_, .int p14_, .int p15_])), (h8_, .inl (k18_, 3, .inl f19_)), (h7_, .inl (k16_, 3, .inl f17_))]) (va_A [(h0_, .inr (6, [.long p3_, .int p4_, .int p5_, .int p6_, .ref h7_, .ref h8_, .int p9_, .int p10_, .int p11_, .int p12_, .int p13_, .int p14_, .int p15_])), (h8_, .inl (k18_, 3, .inl f19_)), (h7_, .inl (k16_, 3, .inl f17_))] sz)) 0 0 (va_A [(h0_, .inr (6, [.long p3_, .int p4_, .int p5_, .int p6_, .ref h7_, .ref h8_, .int p9_, .int p10_, .int p11_, .int p12_, .int p13_, .int p14_, .int p15_])), (h8_, .inl (k18_, 3, .inl f19_)), (h7_, .inl (k16_, 3, .inl f17_))] sz) := by
  refine Met.ofW (cc := cX6_numberBehind) (maxL := 3) (ret := (some .int)) (by decide) rfl ?_
  intro p e s m args below meth c s₁ B hml hv
  obtain ⟨rfl, hsz, hP, hK, hD0⟩ := hv
  have hx := B.exec
  have hb := B.bytes
  have hr := B.returns
  have hts := atoms_spec (ws := (.code yX6_numberBehind cX6_numberBehind 3 (some .int) :: lw_g)) B.pre
  have hown : s.vm.findClass RX6 = some m.cls := findClass_of_methodNamed B.named
  have hlocks := B.notSynchronized
  subst hsz
  have hD := hD0.self (sz := s.heap.size)
  generalize hAe : va_A [(h0_, .inr (6, [.long p3_, .int p4_, .int p5_, .int p6_, .ref h7_, .ref h8_, .int p9_, .int p10_, .int p11_, .int p12_, .int p13_, .int p14_, .int p15_])), (h8_, .inl (k18_, 3, .inl f19_)), (h7_, .inl (k16_, 3, .inl f17_))] s.heap.size = A at hD ⊢
  have hA : ∀ q : Nat, s.heap.size ≤ q → A q := fun q h => by rw [← hAe]; exact Or.inr h
  have hS : va_S A s.heap s.heap [] := va_S.rf
  have hP : va_P (dC, dI) vwCl [(h0_, .inr (6, [.long p3_, .int p4_, .int p5_, .int p6_, .ref h7_, .ref h8_, .int p9_, .int p10_, .int p11_, .int p12_, .int p13_, .int p14_, .int p15_])), (h8_, .inl (k18_, 3, .inl f19_)), (h7_, .inl (k16_, 3, .inl f17_))] s.heap := hP
  have hl := lv_entry ([.ref h0_, .int p1_, .int p2_]) (n := 3) (Nat.le_of_ble_eq_true rfl)
  rw [lg_entry_eq]
  generalize (lg_sl ([.ref h0_, .int p1_, .int p2_]) ++ List.replicate (3 - (lg_sl ([.ref h0_, .int p1_, .int p2_])).length) Slot.unset).toArray = ls at hl ⊢
  have hl : lv_has ls 3 [(0, .ref h0_), (1, .int p1_), (2, .int p2_)] := hl
  refine lv_iload_n hx hb dX6_numberBehind_0 rfl (lv_at hl 1 rfl) ?_
  have kc_0 : (0 : Int32).toInt = 0 := by decide
  refine lv_if_lt (tgt := 9) hx hb dX6_numberBehind_1 (by decide) (fun c_1 => ?_) (fun c_1 => ?_)
  · have fc_1 := lt_f c_1
    refine lv_iload_n hx hb dX6_numberBehind_9 rfl (lv_at hl 2 rfl) ?_
    have hP9 := hP.sub (ws' := [(h0_, .inr (6, [.long p3_, .int p4_, .int p5_, .int p6_, .ref h7_, .ref h8_, .int p9_, .int p10_, .int p11_, .int p12_, .int p13_, .int p14_, .int p15_])), (h8_, .inl (k18_, 3, .inl f19_)), (h7_, .inl (k16_, 3, .inl f17_))]) [0, 1, 2] rfl
    have hD9 := hD.sub (ws' := [(h0_, .inr (6, [.long p3_, .int p4_, .int p5_, .int p6_, .ref h7_, .ref h8_, .int p9_, .int p10_, .int p11_, .int p12_, .int p13_, .int p14_, .int p15_])), (h8_, .inl (k18_, 3, .inl f19_)), (h7_, .inl (k16_, 3, .inl f17_))]) [0, 1, 2] (by decide) rfl
    have hK9 := hK.sub (tys' := [(k18_, .int), (k16_, .int)]) [0, 1] rfl
    refine W.widen (k := 0) (n := 0) (Nat.le_of_ble_eq_true rfl) (Nat.le_of_ble_eq_true rfl) ?_
    exact W.iret (v := p2_) hx hb hr (fun t ht hW => ⟨⟨_, (), rfl, trivial, by rw [ht]; exact hP9, va_K.moved hW.alike hK9, hD9⟩, hS.F ht⟩) hS.2.2 dX6_numberBehind_10
  · have fc_1 := nlt_f c_1
    refine lv_iload_n hx hb dX6_numberBehind_4 rfl (lv_at hl 1 rfl) ?_
    refine lv_iconst (v := 3) hx hb dX6_numberBehind_5 (by decide) ?_
    have kc_3 : (3 : Int32).toInt = 3 := by decide
    refine lv_icmp_lt (tgt := 11) hx hb dX6_numberBehind_6 (by decide) (fun c_2 => ?_) (fun c_2 => ?_)
    · have fc_2 := lt_f c_2
      refine lv_iload_n hx hb dX6_numberBehind_11 rfl (lv_at hl 2 rfl) ?_
      refine lv_if_ge (tgt := 36) hx hb dX6_numberBehind_12 (by decide) (fun c_3 => ?_) (fun c_3 => ?_)
      · have fc_3 := le_f c_3
        refine lv_aload_n hx hb dX6_numberBehind_36 rfl (lv_at hl 0 rfl) ?_
        refine va_get (D := (dC, dI)) (ci := 6) (v := .ref h8_) (C := RX6) (T := TX6) (N := 13) hx hb hts (mc_ inX6) hown hK hP 0 rfl rfl 5 (by decide) (hts _ (List.mem_cons_of_mem _ t_573)) (fun _ h9 => h9) rfl dX6_numberBehind_37 ?_
        refine lv_iload_n hx hb dX6_numberBehind_40 rfl (lv_at hl 1 rfl) ?_
        refine va_iald hx hb hK hP 1 0 rfl rfl (in_ok (by omega) (by omega)) dX6_numberBehind_41 ?_
        refine lv_topi (fun y_4 ey_4 => ?_)
        have hP9 := hP.sub (ws' := [(h0_, .inr (6, [.long p3_, .int p4_, .int p5_, .int p6_, .ref h7_, .ref h8_, .int p9_, .int p10_, .int p11_, .int p12_, .int p13_, .int p14_, .int p15_])), (h8_, .inl (k18_, 3, .inl f19_)), (h7_, .inl (k16_, 3, .inl f17_))]) [0, 1, 2] rfl
        have hD9 := hD.sub (ws' := [(h0_, .inr (6, [.long p3_, .int p4_, .int p5_, .int p6_, .ref h7_, .ref h8_, .int p9_, .int p10_, .int p11_, .int p12_, .int p13_, .int p14_, .int p15_])), (h8_, .inl (k18_, 3, .inl f19_)), (h7_, .inl (k16_, 3, .inl f17_))]) [0, 1, 2] (by decide) rfl
        have hK9 := hK.sub (tys' := [(k18_, .int), (k16_, .int)]) [0, 1] rfl
        refine W.widen (k := 0) (n := 0) (Nat.le_of_ble_eq_true rfl) (Nat.le_of_ble_eq_true rfl) ?_
        exact W.iret (v := y_4) hx hb hr (fun t ht hW => ⟨⟨_, (), rfl, trivial, by rw [ht]; exact hP9, va_K.moved hW.alike hK9, hD9⟩, hS.F ht⟩) hS.2.2 dX6_numberBehind_42
      · have fc_3 := nle_f c_3
        refine lv_iload_n hx hb dX6_numberBehind_15 rfl (lv_at hl 2 rfl) ?_
        refine lv_aload_n hx hb dX6_numberBehind_16 rfl (lv_at hl 0 rfl) ?_
        refine va_get (D := (dC, dI)) (ci := 6) (v := .ref h7_) (C := RX6) (T := TX6) (N := 13) hx hb hts (mc_ inX6) hown hK hP 0 rfl rfl 4 (by decide) (hts _ (List.mem_cons_of_mem _ t_569)) (fun _ h9 => h9) rfl dX6_numberBehind_17 ?_
        refine lv_iload_n hx hb dX6_numberBehind_20 rfl (lv_at hl 1 rfl) ?_
        refine va_iald hx hb hK hP 2 1 rfl rfl (in_ok (by omega) (by omega)) dX6_numberBehind_21 ?_
        refine lv_topi (fun y_5 ey_5 => ?_)
        refine lv_icmp_ne (tgt := 36) hx hb dX6_numberBehind_22 (by decide) (fun c_6 => ?_) (fun c_6 => ?_)
        · have fc_6 := neq_f c_6
          refine lv_aload_n hx hb dX6_numberBehind_36 rfl (lv_at hl 0 rfl) ?_
          refine va_get (D := (dC, dI)) (ci := 6) (v := .ref h8_) (C := RX6) (T := TX6) (N := 13) hx hb hts (mc_ inX6) hown hK hP 0 rfl rfl 5 (by decide) (hts _ (List.mem_cons_of_mem _ t_573)) (fun _ h9 => h9) rfl dX6_numberBehind_37 ?_
          refine lv_iload_n hx hb dX6_numberBehind_40 rfl (lv_at hl 1 rfl) ?_
          refine va_iald hx hb hK hP 1 0 rfl rfl (in_ok (by omega) (by omega)) dX6_numberBehind_41 ?_
          refine lv_topi (fun y_7 ey_7 => ?_)
          have hP9 := hP.sub (ws' := [(h0_, .inr (6, [.long p3_, .int p4_, .int p5_, .int p6_, .ref h7_, .ref h8_, .int p9_, .int p10_, .int p11_, .int p12_, .int p13_, .int p14_, .int p15_])), (h8_, .inl (k18_, 3, .inl f19_)), (h7_, .inl (k16_, 3, .inl f17_))]) [0, 1, 2] rfl
          have hD9 := hD.sub (ws' := [(h0_, .inr (6, [.long p3_, .int p4_, .int p5_, .int p6_, .ref h7_, .ref h8_, .int p9_, .int p10_, .int p11_, .int p12_, .int p13_, .int p14_, .int p15_])), (h8_, .inl (k18_, 3, .inl f19_)), (h7_, .inl (k16_, 3, .inl f17_))]) [0, 1, 2] (by decide) rfl
          have hK9 := hK.sub (tys' := [(k18_, .int), (k16_, .int)]) [0, 1] rfl
          refine W.widen (k := 0) (n := 0) (Nat.le_of_ble_eq_true rfl) (Nat.le_of_ble_eq_true rfl) ?_
          exact W.iret (v := y_7) hx hb hr (fun t ht hW => ⟨⟨_, (), rfl, trivial, by rw [ht]; exact hP9, va_K.moved hW.alike hK9, hD9⟩, hS.F ht⟩) hS.2.2 dX6_numberBehind_42
        · have fc_6 := eq_f c_6
          refine lv_aload_n hx hb dX6_numberBehind_25 rfl (lv_at hl 0 rfl) ?_
          refine va_get (D := (dC, dI)) (ci := 6) (v := .ref h8_) (C := RX6) (T := TX6) (N := 13) hx hb hts (mc_ inX6) hown hK hP 0 rfl rfl 5 (by decide) (hts _ (List.mem_cons_of_mem _ t_573)) (fun _ h9 => h9) rfl dX6_numberBehind_26 ?_
          refine lv_iload_n hx hb dX6_numberBehind_29 rfl (lv_at hl 1 rfl) ?_
          refine va_iald hx hb hK hP 1 0 rfl rfl (in_ok (by omega) (by omega)) dX6_numberBehind_30 ?_
          refine lv_topi (fun y_8 ey_8 => ?_)
          refine lv_if_le (tgt := 36) hx hb dX6_numberBehind_31 (by decide) (fun c_9 => ?_) (fun c_9 => ?_)
          · have fc_9 := le_f c_9
            refine lv_aload_n hx hb dX6_numberBehind_36 rfl (lv_at hl 0 rfl) ?_
            refine va_get (D := (dC, dI)) (ci := 6) (v := .ref h8_) (C := RX6) (T := TX6) (N := 13) hx hb hts (mc_ inX6) hown hK hP 0 rfl rfl 5 (by decide) (hts _ (List.mem_cons_of_mem _ t_573)) (fun _ h9 => h9) rfl dX6_numberBehind_37 ?_
            refine lv_iload_n hx hb dX6_numberBehind_40 rfl (lv_at hl 1 rfl) ?_
            refine va_iald hx hb hK hP 1 0 rfl rfl (in_ok (by omega) (by omega)) dX6_numberBehind_41 ?_
            refine lv_topi (fun y_10 ey_10 => ?_)
            have hP9 := hP.sub (ws' := [(h0_, .inr (6, [.long p3_, .int p4_, .int p5_, .int p6_, .ref h7_, .ref h8_, .int p9_, .int p10_, .int p11_, .int p12_, .int p13_, .int p14_, .int p15_])), (h8_, .inl (k18_, 3, .inl f19_)), (h7_, .inl (k16_, 3, .inl f17_))]) [0, 1, 2] rfl
            have hD9 := hD.sub (ws' := [(h0_, .inr (6, [.long p3_, .int p4_, .int p5_, .int p6_, .ref h7_, .ref h8_, .int p9_, .int p10_, .int p11_, .int p12_, .int p13_, .int p14_, .int p15_])), (h8_, .inl (k18_, 3, .inl f19_)), (h7_, .inl (k16_, 3, .inl f17_))]) [0, 1, 2] (by decide) rfl
            have hK9 := hK.sub (tys' := [(k18_, .int), (k16_, .int)]) [0, 1] rfl
            refine W.widen (k := 0) (n := 0) (Nat.le_of_ble_eq_true rfl) (Nat.le_of_ble_eq_true rfl) ?_
            exact W.iret (v := y_10) hx hb hr (fun t ht hW => ⟨⟨_, (), rfl, trivial, by rw [ht]; exact hP9, va_K.moved hW.alike hK9, hD9⟩, hS.F ht⟩) hS.2.2 dX6_numberBehind_42
          · have fc_9 := nle_f c_9
            refine lv_iconst (v := 0) hx hb dX6_numberBehind_34 (by decide) ?_
            have hP9 := hP.sub (ws' := [(h0_, .inr (6, [.long p3_, .int p4_, .int p5_, .int p6_, .ref h7_, .ref h8_, .int p9_, .int p10_, .int p11_, .int p12_, .int p13_, .int p14_, .int p15_])), (h8_, .inl (k18_, 3, .inl f19_)), (h7_, .inl (k16_, 3, .inl f17_))]) [0, 1, 2] rfl
            have hD9 := hD.sub (ws' := [(h0_, .inr (6, [.long p3_, .int p4_, .int p5_, .int p6_, .ref h7_, .ref h8_, .int p9_, .int p10_, .int p11_, .int p12_, .int p13_, .int p14_, .int p15_])), (h8_, .inl (k18_, 3, .inl f19_)), (h7_, .inl (k16_, 3, .inl f17_))]) [0, 1, 2] (by decide) rfl
            have hK9 := hK.sub (tys' := [(k18_, .int), (k16_, .int)]) [0, 1] rfl
            refine W.widen (k := 0) (n := 0) (Nat.le_of_ble_eq_true rfl) (Nat.le_of_ble_eq_true rfl) ?_
            exact W.iret (v := 0) hx hb hr (fun t ht hW => ⟨⟨_, (), rfl, trivial, by rw [ht]; exact hP9, va_K.moved hW.alike hK9, hD9⟩, hS.F ht⟩) hS.2.2 dX6_numberBehind_35
    · have fc_2 := nlt_f c_2
      refine lv_iload_n hx hb dX6_numberBehind_9 rfl (lv_at hl 2 rfl) ?_
      have hP9 := hP.sub (ws' := [(h0_, .inr (6, [.long p3_, .int p4_, .int p5_, .int p6_, .ref h7_, .ref h8_, .int p9_, .int p10_, .int p11_, .int p12_, .int p13_, .int p14_, .int p15_])), (h8_, .inl (k18_, 3, .inl f19_)), (h7_, .inl (k16_, 3, .inl f17_))]) [0, 1, 2] rfl
      have hD9 := hD.sub (ws' := [(h0_, .inr (6, [.long p3_, .int p4_, .int p5_, .int p6_, .ref h7_, .ref h8_, .int p9_, .int p10_, .int p11_, .int p12_, .int p13_, .int p14_, .int p15_])), (h8_, .inl (k18_, 3, .inl f19_)), (h7_, .inl (k16_, 3, .inl f17_))]) [0, 1, 2] (by decide) rfl
      have hK9 := hK.sub (tys' := [(k18_, .int), (k16_, .int)]) [0, 1] rfl
      refine W.widen (k := 0) (n := 0) (Nat.le_of_ble_eq_true rfl) (Nat.le_of_ble_eq_true rfl) ?_
      exact W.iret (v := p2_) hx hb hr (fun t ht hW => ⟨⟨_, (), rfl, trivial, by rw [ht]; exact hP9, va_K.moved hW.alike hK9, hD9⟩, hS.F ht⟩) hS.2.2 dX6_numberBehind_10
set_option maxHeartbeats 4000000 in
set_option maxRecDepth 100000 in
theorem s_X9_beginAs (l : Launch) (dC : Nat → ClassId) (dI : Nat → Nat → Nat) (h0_ : Nat) (p1_ : Int64) (p2_ : Int64) (p3_ : Int32) (p4_ : Int32) (h5_ : Nat) (h6_ : Nat) (h7_ : Nat) (h8_ : Nat) (p9_ : Int32) (p10_ : Int32) (h11_ : Nat) (p12_ : Int32) (p13_ : Int32) (p14_ : Int32) (hb_p4_ : 0 ≤ p4_.toInt ∧ p4_.toInt ≤ 10) (hb_p9_ : 0 ≤ p9_.toInt ∧ p9_.toInt ≤ 24) (hb_p10_ : 0 ≤ p10_.toInt ∧ p10_.toInt ≤ 12) (hb_p13_ : 0 ≤ p13_.toInt ∧ p13_.toInt ≤ 8) (sz : Nat) : Met l yX9_beginAs (.code yX9_beginAs cX9_beginAs 3 none :: lw_g) ({ frames := 0, cells := 0, slots := 0, locals := 0 }) (va_Pc [.ref h0_, .long p1_] (fun U => U.heap.size = sz ∧ va_P (dC, dI) vwCl [(h0_, .inr (9, [.long p2_, .int p3_, .int p4_, .ref h5_, .ref h6_, .ref h7_, .ref h8_, .int p9_, .int p10_, .ref h11_, .int p12_, .int p13_, .int p14_]))] U.heap ∧ va_K (dC, dI) vwCl [] U ∧ va_D (fun _ => True) [(h0_, .inr (9, [.long p2_, .int p3_, .int p4_, .ref h5_, .ref h6_, .ref h7_, .ref h8_, .int p9_, .int p10_, .ref h11_, .int p12_, .int p13_, .int p14_]))])) (va_Qv (fun _ : Unit => True) (fun (_ : Unit) (t : State) => va_P (dC, dI) vwCl [(h0_, .inr (9, [.long p1_, .int (-1), .int 0, .ref h5_, .ref h6_, .ref h7_, .ref h8_, .int 0, .int 0, .ref h11_, .int 0, .int 0, .int (-1)]))] t.heap ∧ va_K (dC, dI) vwCl [] t ∧ va_D (va_A [(h0_, .inr (9, [.long p2_, .int p3_, .int p4_, .ref h5_, .ref h6_, .ref h7_, .ref h8_, .int p9_, .int p10_, .ref h11_, .int p12_, .int p13_, .int p14_]))] sz) [(h0_, .inr (9, [.long p1_, .int (-1), .int 0, .ref h5_, .ref h6_, .ref h7_, .ref h8_, .int 0, .int 0, .ref h11_, .int 0, .int 0, .int (-1)]))]) (va_A [(h0_, .inr (9, [.long p2_, .int p3_, .int p4_, .ref h5_, .ref h6_, .ref h7_, .ref h8_, .int p9_, .int p10_, .ref h11_, .int p12_, .int p13_, .int p14_]))] sz)) 0 0 (va_A [(h0_, .inr (9, [.long p2_, .int p3_, .int p4_, .ref h5_, .ref h6_, .ref h7_, .ref h8_, .int p9_, .int p10_, .ref h11_, .int p12_, .int p13_, .int p14_]))] sz) := by
  refine Met.ofW (cc := cX9_beginAs) (maxL := 3) (ret := none) (by decide) rfl ?_
  intro p e s m args below meth c s₁ B hml hv
  obtain ⟨rfl, hsz, hP, hK, hD0⟩ := hv
  have hx := B.exec
  have hb := B.bytes
  have hr := B.returns
  have hts := atoms_spec (ws := (.code yX9_beginAs cX9_beginAs 3 none :: lw_g)) B.pre
  have hown : s.vm.findClass RX9 = some m.cls := findClass_of_methodNamed B.named
  have hlocks := B.notSynchronized
  subst hsz
  have hD := hD0.self (sz := s.heap.size)
  generalize hAe : va_A [(h0_, .inr (9, [.long p2_, .int p3_, .int p4_, .ref h5_, .ref h6_, .ref h7_, .ref h8_, .int p9_, .int p10_, .ref h11_, .int p12_, .int p13_, .int p14_]))] s.heap.size = A at hD ⊢
  have hA : ∀ q : Nat, s.heap.size ≤ q → A q := fun q h => by rw [← hAe]; exact Or.inr h
  have hS : va_S A s.heap s.heap [] := va_S.rf
  have hP : va_P (dC, dI) vwCl [(h0_, .inr (9, [.long p2_, .int p3_, .int p4_, .ref h5_, .ref h6_, .ref h7_, .ref h8_, .int p9_, .int p10_, .ref h11_, .int p12_, .int p13_, .int p14_]))] s.heap := hP
  have hl := lv_entry ([.ref h0_, .long p1_]) (n := 3) (Nat.le_of_ble_eq_true rfl)
  rw [lg_entry_eq]
  generalize (lg_sl ([.ref h0_, .long p1_]) ++ List.replicate (3 - (lg_sl ([.ref h0_, .long p1_])).length) Slot.unset).toArray = ls at hl ⊢
  have hl : lv_has ls 3 [(0, .ref h0_), (1, .long p1_)] := hl
  refine lv_aload_n hx hb dX9_beginAs_0 rfl (lv_at hl 0 rfl) ?_
  refine lv_lload_n hx hb dX9_beginAs_1 rfl (lv_at hl 1 rfl) ?_
  refine va_put (D := (dC, dI)) (ci := 9) (v := .long p1_) (ty := tyX9 0) (C := RX9) (T := TX9) (N := 13) hx hb hts (mc_ inX9) tyX9 tyX9_ok nmX9 hown hK hP hD hS 0 rfl rfl 0 (by decide) (hts _ (List.mem_cons_of_mem _ t_478)) (fun _ h9 => h9) rfl (by decide +kernel) rfl rfl (Nat.le_of_ble_eq_true rfl) dX9_beginAs_2 (fun H locs hP hD hS => ?_)
  have hP : va_P (dC, dI) vwCl [(h0_, .inr (9, [.long p1_, .int p3_, .int p4_, .ref h5_, .ref h6_, .ref h7_, .ref h8_, .int p9_, .int p10_, .ref h11_, .int p12_, .int p13_, .int p14_]))] H := hP
  have hD : va_D A [(h0_, .inr (9, [.long p1_, .int p3_, .int p4_, .ref h5_, .ref h6_, .ref h7_, .ref h8_, .int p9_, .int p10_, .ref h11_, .int p12_, .int p13_, .int p14_]))] := hD
  refine lv_aload_n hx hb dX9_beginAs_5 rfl (lv_at hl 0 rfl) ?_
  refine lv_iconst (v := (-1)) hx hb dX9_beginAs_6 (by decide) ?_
  refine va_put (D := (dC, dI)) (ci := 9) (v := .int (-1)) (ty := tyX9 1) (C := RX9) (T := TX9) (N := 13) hx hb hts (mc_ inX9) tyX9 tyX9_ok nmX9 hown hK hP hD hS 0 rfl rfl 1 (by decide) (hts _ (List.mem_cons_of_mem _ t_480)) (fun _ h9 => h9) rfl (by decide +kernel) rfl rfl (Nat.le_of_ble_eq_true rfl) dX9_beginAs_7 (fun H locs hP hD hS => ?_)
  have hP : va_P (dC, dI) vwCl [(h0_, .inr (9, [.long p1_, .int (-1), .int p4_, .ref h5_, .ref h6_, .ref h7_, .ref h8_, .int p9_, .int p10_, .ref h11_, .int p12_, .int p13_, .int p14_]))] H := hP
  have hD : va_D A [(h0_, .inr (9, [.long p1_, .int (-1), .int p4_, .ref h5_, .ref h6_, .ref h7_, .ref h8_, .int p9_, .int p10_, .ref h11_, .int p12_, .int p13_, .int p14_]))] := hD
  refine lv_aload_n hx hb dX9_beginAs_10 rfl (lv_at hl 0 rfl) ?_
  refine lv_iconst (v := 0) hx hb dX9_beginAs_11 (by decide) ?_
  refine va_put (D := (dC, dI)) (ci := 9) (v := .int 0) (ty := tyX9 2) (C := RX9) (T := TX9) (N := 13) hx hb hts (mc_ inX9) tyX9 tyX9_ok nmX9 hown hK hP hD hS 0 rfl rfl 2 (by decide) (hts _ (List.mem_cons_of_mem _ t_485)) (fun _ h9 => h9) rfl (by decide +kernel) rfl rfl (Nat.le_of_ble_eq_true rfl) dX9_beginAs_12 (fun H locs hP hD hS => ?_)
  have hP : va_P (dC, dI) vwCl [(h0_, .inr (9, [.long p1_, .int (-1), .int 0, .ref h5_, .ref h6_, .ref h7_, .ref h8_, .int p9_, .int p10_, .ref h11_, .int p12_, .int p13_, .int p14_]))] H := hP
  have hD : va_D A [(h0_, .inr (9, [.long p1_, .int (-1), .int 0, .ref h5_, .ref h6_, .ref h7_, .ref h8_, .int p9_, .int p10_, .ref h11_, .int p12_, .int p13_, .int p14_]))] := hD
  refine lv_aload_n hx hb dX9_beginAs_15 rfl (lv_at hl 0 rfl) ?_
  refine lv_iconst (v := 0) hx hb dX9_beginAs_16 (by decide) ?_
  refine va_put (D := (dC, dI)) (ci := 9) (v := .int 0) (ty := tyX9 7) (C := RX9) (T := TX9) (N := 13) hx hb hts (mc_ inX9) tyX9 tyX9_ok nmX9 hown hK hP hD hS 0 rfl rfl 7 (by decide) (hts _ (List.mem_cons_of_mem _ t_493)) (fun _ h9 => h9) rfl (by decide +kernel) rfl rfl (Nat.le_of_ble_eq_true rfl) dX9_beginAs_17 (fun H locs hP hD hS => ?_)
  have hP : va_P (dC, dI) vwCl [(h0_, .inr (9, [.long p1_, .int (-1), .int 0, .ref h5_, .ref h6_, .ref h7_, .ref h8_, .int 0, .int p10_, .ref h11_, .int p12_, .int p13_, .int p14_]))] H := hP
  have hD : va_D A [(h0_, .inr (9, [.long p1_, .int (-1), .int 0, .ref h5_, .ref h6_, .ref h7_, .ref h8_, .int 0, .int p10_, .ref h11_, .int p12_, .int p13_, .int p14_]))] := hD
  refine lv_aload_n hx hb dX9_beginAs_20 rfl (lv_at hl 0 rfl) ?_
  refine lv_iconst (v := 0) hx hb dX9_beginAs_21 (by decide) ?_
  refine va_put (D := (dC, dI)) (ci := 9) (v := .int 0) (ty := tyX9 8) (C := RX9) (T := TX9) (N := 13) hx hb hts (mc_ inX9) tyX9 tyX9_ok nmX9 hown hK hP hD hS 0 rfl rfl 8 (by decide) (hts _ (List.mem_cons_of_mem _ t_497)) (fun _ h9 => h9) rfl (by decide +kernel) rfl rfl (Nat.le_of_ble_eq_true rfl) dX9_beginAs_22 (fun H locs hP hD hS => ?_)
  have hP : va_P (dC, dI) vwCl [(h0_, .inr (9, [.long p1_, .int (-1), .int 0, .ref h5_, .ref h6_, .ref h7_, .ref h8_, .int 0, .int 0, .ref h11_, .int p12_, .int p13_, .int p14_]))] H := hP
  have hD : va_D A [(h0_, .inr (9, [.long p1_, .int (-1), .int 0, .ref h5_, .ref h6_, .ref h7_, .ref h8_, .int 0, .int 0, .ref h11_, .int p12_, .int p13_, .int p14_]))] := hD
  refine lv_aload_n hx hb dX9_beginAs_25 rfl (lv_at hl 0 rfl) ?_
  refine lv_iconst (v := 0) hx hb dX9_beginAs_26 (by decide) ?_
  refine va_put (D := (dC, dI)) (ci := 9) (v := .int 0) (ty := tyX9 10) (C := RX9) (T := TX9) (N := 13) hx hb hts (mc_ inX9) tyX9 tyX9_ok nmX9 hown hK hP hD hS 0 rfl rfl 10 (by decide) (hts _ (List.mem_cons_of_mem _ t_511)) (fun _ h9 => h9) rfl (by decide +kernel) rfl rfl (Nat.le_of_ble_eq_true rfl) dX9_beginAs_27 (fun H locs hP hD hS => ?_)
  have hP : va_P (dC, dI) vwCl [(h0_, .inr (9, [.long p1_, .int (-1), .int 0, .ref h5_, .ref h6_, .ref h7_, .ref h8_, .int 0, .int 0, .ref h11_, .int 0, .int p13_, .int p14_]))] H := hP
  have hD : va_D A [(h0_, .inr (9, [.long p1_, .int (-1), .int 0, .ref h5_, .ref h6_, .ref h7_, .ref h8_, .int 0, .int 0, .ref h11_, .int 0, .int p13_, .int p14_]))] := hD
  refine lv_aload_n hx hb dX9_beginAs_30 rfl (lv_at hl 0 rfl) ?_
  refine lv_iconst (v := 0) hx hb dX9_beginAs_31 (by decide) ?_
  refine va_put (D := (dC, dI)) (ci := 9) (v := .int 0) (ty := tyX9 11) (C := RX9) (T := TX9) (N := 13) hx hb hts (mc_ inX9) tyX9 tyX9_ok nmX9 hown hK hP hD hS 0 rfl rfl 11 (by decide) (hts _ (List.mem_cons_of_mem _ t_514)) (fun _ h9 => h9) rfl (by decide +kernel) rfl rfl (Nat.le_of_ble_eq_true rfl) dX9_beginAs_32 (fun H locs hP hD hS => ?_)
  have hP : va_P (dC, dI) vwCl [(h0_, .inr (9, [.long p1_, .int (-1), .int 0, .ref h5_, .ref h6_, .ref h7_, .ref h8_, .int 0, .int 0, .ref h11_, .int 0, .int 0, .int p14_]))] H := hP
  have hD : va_D A [(h0_, .inr (9, [.long p1_, .int (-1), .int 0, .ref h5_, .ref h6_, .ref h7_, .ref h8_, .int 0, .int 0, .ref h11_, .int 0, .int 0, .int p14_]))] := hD
  refine lv_aload_n hx hb dX9_beginAs_35 rfl (lv_at hl 0 rfl) ?_
  refine lv_iconst (v := (-1)) hx hb dX9_beginAs_36 (by decide) ?_
  refine va_put (D := (dC, dI)) (ci := 9) (v := .int (-1)) (ty := tyX9 12) (C := RX9) (T := TX9) (N := 13) hx hb hts (mc_ inX9) tyX9 tyX9_ok nmX9 hown hK hP hD hS 0 rfl rfl 12 (by decide) (hts _ (List.mem_cons_of_mem _ t_518)) (fun _ h9 => h9) rfl (by decide +kernel) rfl rfl (Nat.le_of_ble_eq_true rfl) dX9_beginAs_37 (fun H locs hP hD hS => ?_)
  have hP : va_P (dC, dI) vwCl [(h0_, .inr (9, [.long p1_, .int (-1), .int 0, .ref h5_, .ref h6_, .ref h7_, .ref h8_, .int 0, .int 0, .ref h11_, .int 0, .int 0, .int (-1)]))] H := hP
  have hD : va_D A [(h0_, .inr (9, [.long p1_, .int (-1), .int 0, .ref h5_, .ref h6_, .ref h7_, .ref h8_, .int 0, .int 0, .ref h11_, .int 0, .int 0, .int (-1)]))] := hD
  have hP9 := hP.sub (ws' := [(h0_, .inr (9, [.long p1_, .int (-1), .int 0, .ref h5_, .ref h6_, .ref h7_, .ref h8_, .int 0, .int 0, .ref h11_, .int 0, .int 0, .int (-1)]))]) [0] rfl
  have hD9 := hD.sub (ws' := [(h0_, .inr (9, [.long p1_, .int (-1), .int 0, .ref h5_, .ref h6_, .ref h7_, .ref h8_, .int 0, .int 0, .ref h11_, .int 0, .int 0, .int (-1)]))]) [0] (by decide) rfl
  have hK9 := hK.sub (tys' := []) [] rfl
  refine W.widen (k := 0) (n := 0) (Nat.le_of_ble_eq_true rfl) (Nat.le_of_ble_eq_true rfl) ?_
  exact W.vret hx hb hr (fun t ht hW => ⟨⟨(), rfl, trivial, by rw [ht]; exact hP9, va_K.moved hW.alike hK9, hD9⟩, hS.F ht⟩) hS.2.2 dX9_beginAs_40
set_option maxHeartbeats 4000000 in
set_option maxRecDepth 100000 in
theorem s_X9_isRow (l : Launch) (dC : Nat → ClassId) (dI : Nat → Nat → Nat) (h0_ : Nat) (p1_ : Int32) (p2_ : Int64) (p3_ : Int32) (p4_ : Int32) (h5_ : Nat) (h6_ : Nat) (h7_ : Nat) (h8_ : Nat) (p9_ : Int32) (p10_ : Int32) (h11_ : Nat) (p12_ : Int32) (p13_ : Int32) (p14_ : Int32) (k15_ : ClassId) (f16_ : Nat → Int32) (hb_p4_ : 0 ≤ p4_.toInt ∧ p4_.toInt ≤ 10) (hb_p9_ : 0 ≤ p9_.toInt ∧ p9_.toInt ≤ 24) (hb_p10_ : 0 ≤ p10_.toInt ∧ p10_.toInt ≤ 12) (hb_p13_ : 0 ≤ p13_.toInt ∧ p13_.toInt ≤ 8) (sz : Nat) : Met l yX9_isRow (.code yX9_isRow cX9_isRow 2 (some .boolean) :: lw_g) ({ frames := 0, cells := 0, slots := 0, locals := 0 }) (va_Pc [.ref h0_, .int p1_] (fun U => U.heap.size = sz ∧ va_P (dC, dI) vwCl [(h0_, .inr (9, [.long p2_, .int p3_, .int p4_, .ref h5_, .ref h6_, .ref h7_, .ref h8_, .int p9_, .int p10_, .ref h11_, .int p12_, .int p13_, .int p14_])), (h7_, .inl (k15_, 10, .inl f16_))] U.heap ∧ va_K (dC, dI) vwCl [(k15_, .int)] U ∧ va_D (fun _ => True) [(h0_, .inr (9, [.long p2_, .int p3_, .int p4_, .ref h5_, .ref h6_, .ref h7_, .ref h8_, .int p9_, .int p10_, .ref h11_, .int p12_, .int p13_, .int p14_])), (h7_, .inl (k15_, 10, .inl f16_))])) (va_Qi (fun (r : Int32) (_ : Unit) => 0 ≤ r.toInt ∧ r.toInt ≤ 1) (fun (_ : Unit) (t : State) => va_P (dC, dI) vwCl [(h0_, .inr (9, [.long p2_, .int p3_, .int p4_, .ref h5_, .ref h6_, .ref h7_, .ref h8_, .int p9_, .int p10_, .ref h11_, .int p12_, .int p13_, .int p14_])), (h7_, .inl (k15_, 10, .inl f16_))] t.heap ∧ va_K (dC, dI) vwCl [(k15_, .int)] t ∧ va_D (va_A [(h0_, .inr (9, [.long p2_, .int p3_, .int p4_, .ref h5_, .ref h6_, .ref h7_, .ref h8_, .int p9_, .int p10_, .ref h11_, .int p12_, .int p13_, .int p14_])), (h7_, .inl (k15_, 10, .inl f16_))] sz) [(h0_, .inr (9, [.long p2_, .int p3_, .int p4_, .ref h5_, .ref h6_, .ref h7_, .ref h8_, .int p9_, .int p10_, .ref h11_, .int p12_, .int p13_, .int p14_])), (h7_, .inl (k15_, 10, .inl f16_))]) (va_A [(h0_, .inr (9, [.long p2_, .int p3_, .int p4_, .ref h5_, .ref h6_, .ref h7_, .ref h8_, .int p9_, .int p10_, .ref h11_, .int p12_, .int p13_, .int p14_])), (h7_, .inl (k15_, 10, .inl f16_))] sz)) 0 0 (va_A [(h0_, .inr (9, [.long p2_, .int p3_, .int p4_, .ref h5_, .ref h6_, .ref h7_, .ref h8_, .int p9_, .int p10_, .ref h11_, .int p12_, .int p13_, .int p14_])), (h7_, .inl (k15_, 10, .inl f16_))] sz) := by
  refine Met.ofW (cc := cX9_isRow) (maxL := 2) (ret := (some .boolean)) (by decide) rfl ?_
  intro p e s m args below meth c s₁ B hml hv
  obtain ⟨rfl, hsz, hP, hK, hD0⟩ := hv
  have hx := B.exec
  have hb := B.bytes
  have hr := B.returns
  have hts := atoms_spec (ws := (.code yX9_isRow cX9_isRow 2 (some .boolean) :: lw_g)) B.pre
  have hown : s.vm.findClass RX9 = some m.cls := findClass_of_methodNamed B.named
  have hlocks := B.notSynchronized
  subst hsz
  have hD := hD0.self (sz := s.heap.size)
  generalize hAe : va_A [(h0_, .inr (9, [.long p2_, .int p3_, .int p4_, .ref h5_, .ref h6_, .ref h7_, .ref h8_, .int p9_, .int p10_, .ref h11_, .int p12_, .int p13_, .int p14_])), (h7_, .inl (k15_, 10, .inl f16_))] s.heap.size = A at hD ⊢
  have hA : ∀ q : Nat, s.heap.size ≤ q → A q := fun q h => by rw [← hAe]; exact Or.inr h
  have hS : va_S A s.heap s.heap [] := va_S.rf
  have hP : va_P (dC, dI) vwCl [(h0_, .inr (9, [.long p2_, .int p3_, .int p4_, .ref h5_, .ref h6_, .ref h7_, .ref h8_, .int p9_, .int p10_, .ref h11_, .int p12_, .int p13_, .int p14_])), (h7_, .inl (k15_, 10, .inl f16_))] s.heap := hP
  have hl := lv_entry ([.ref h0_, .int p1_]) (n := 2) (Nat.le_of_ble_eq_true rfl)
  rw [lg_entry_eq]
  generalize (lg_sl ([.ref h0_, .int p1_]) ++ List.replicate (2 - (lg_sl ([.ref h0_, .int p1_])).length) Slot.unset).toArray = ls at hl ⊢
  have hl : lv_has ls 2 [(0, .ref h0_), (1, .int p1_)] := hl
  refine lv_iload_n hx hb dX9_isRow_0 rfl (lv_at hl 1 rfl) ?_
  have kc_0 : (0 : Int32).toInt = 0 := by decide
  refine lv_if_lt (tgt := 25) hx hb dX9_isRow_1 (by decide) (fun c_1 => ?_) (fun c_1 => ?_)
  · have fc_1 := lt_f c_1
    refine lv_iconst (v := 0) hx hb dX9_isRow_25 (by decide) ?_
    have hP9 := hP.sub (ws' := [(h0_, .inr (9, [.long p2_, .int p3_, .int p4_, .ref h5_, .ref h6_, .ref h7_, .ref h8_, .int p9_, .int p10_, .ref h11_, .int p12_, .int p13_, .int p14_])), (h7_, .inl (k15_, 10, .inl f16_))]) [0, 1] rfl
    have hD9 := hD.sub (ws' := [(h0_, .inr (9, [.long p2_, .int p3_, .int p4_, .ref h5_, .ref h6_, .ref h7_, .ref h8_, .int p9_, .int p10_, .ref h11_, .int p12_, .int p13_, .int p14_])), (h7_, .inl (k15_, 10, .inl f16_))]) [0, 1] (by decide) rfl
    have hK9 := hK.sub (tys' := [(k15_, .int)]) [0] rfl
    refine W.widen (k := 0) (n := 0) (Nat.le_of_ble_eq_true rfl) (Nat.le_of_ble_eq_true rfl) ?_
    exact W.zret (v := 0) hx hb hr rfl (fun t ht hW => ⟨⟨_, (), rfl, ⟨by decide, by decide⟩, by rw [ht]; exact hP9, va_K.moved hW.alike hK9, hD9⟩, hS.F ht⟩) hS.2.2 dX9_isRow_26
  · have fc_1 := nlt_f c_1
    refine lv_iload_n hx hb dX9_isRow_4 rfl (lv_at hl 1 rfl) ?_
    refine lv_aload_n hx hb dX9_isRow_5 rfl (lv_at hl 0 rfl) ?_
    refine va_get (D := (dC, dI)) (ci := 9) (v := .int p4_) (C := RX9) (T := TX9) (N := 13) hx hb hts (mc_ inX9) hown hK hP 0 rfl rfl 2 (by decide) (hts _ (List.mem_cons_of_mem _ t_485)) (fun _ h9 => h9) rfl dX9_isRow_6 ?_
    refine lv_icmp_ge (tgt := 25) hx hb dX9_isRow_9 (by decide) (fun c_2 => ?_) (fun c_2 => ?_)
    · have fc_2 := le_f c_2
      refine lv_iconst (v := 0) hx hb dX9_isRow_25 (by decide) ?_
      have hP9 := hP.sub (ws' := [(h0_, .inr (9, [.long p2_, .int p3_, .int p4_, .ref h5_, .ref h6_, .ref h7_, .ref h8_, .int p9_, .int p10_, .ref h11_, .int p12_, .int p13_, .int p14_])), (h7_, .inl (k15_, 10, .inl f16_))]) [0, 1] rfl
      have hD9 := hD.sub (ws' := [(h0_, .inr (9, [.long p2_, .int p3_, .int p4_, .ref h5_, .ref h6_, .ref h7_, .ref h8_, .int p9_, .int p10_, .ref h11_, .int p12_, .int p13_, .int p14_])), (h7_, .inl (k15_, 10, .inl f16_))]) [0, 1] (by decide) rfl
      have hK9 := hK.sub (tys' := [(k15_, .int)]) [0] rfl
      refine W.widen (k := 0) (n := 0) (Nat.le_of_ble_eq_true rfl) (Nat.le_of_ble_eq_true rfl) ?_
      exact W.zret (v := 0) hx hb hr rfl (fun t ht hW => ⟨⟨_, (), rfl, ⟨by decide, by decide⟩, by rw [ht]; exact hP9, va_K.moved hW.alike hK9, hD9⟩, hS.F ht⟩) hS.2.2 dX9_isRow_26
    · have fc_2 := nle_f c_2
      refine lv_aload_n hx hb dX9_isRow_12 rfl (lv_at hl 0 rfl) ?_
      refine va_get (D := (dC, dI)) (ci := 9) (v := .ref h7_) (C := RX9) (T := TX9) (N := 13) hx hb hts (mc_ inX9) hown hK hP 0 rfl rfl 5 (by decide) (hts _ (List.mem_cons_of_mem _ t_490)) (fun _ h9 => h9) rfl dX9_isRow_13 ?_
      refine lv_iload_n hx hb dX9_isRow_16 rfl (lv_at hl 1 rfl) ?_
      refine va_iald hx hb hK hP 1 0 rfl rfl (in_ok (by omega) (by omega)) dX9_isRow_17 ?_
      refine lv_topi (fun y_3 ey_3 => ?_)
      refine lv_if_le (tgt := 25) hx hb dX9_isRow_18 (by decide) (fun c_4 => ?_) (fun c_4 => ?_)
      · have fc_4 := le_f c_4
        refine lv_iconst (v := 0) hx hb dX9_isRow_25 (by decide) ?_
        have hP9 := hP.sub (ws' := [(h0_, .inr (9, [.long p2_, .int p3_, .int p4_, .ref h5_, .ref h6_, .ref h7_, .ref h8_, .int p9_, .int p10_, .ref h11_, .int p12_, .int p13_, .int p14_])), (h7_, .inl (k15_, 10, .inl f16_))]) [0, 1] rfl
        have hD9 := hD.sub (ws' := [(h0_, .inr (9, [.long p2_, .int p3_, .int p4_, .ref h5_, .ref h6_, .ref h7_, .ref h8_, .int p9_, .int p10_, .ref h11_, .int p12_, .int p13_, .int p14_])), (h7_, .inl (k15_, 10, .inl f16_))]) [0, 1] (by decide) rfl
        have hK9 := hK.sub (tys' := [(k15_, .int)]) [0] rfl
        refine W.widen (k := 0) (n := 0) (Nat.le_of_ble_eq_true rfl) (Nat.le_of_ble_eq_true rfl) ?_
        exact W.zret (v := 0) hx hb hr rfl (fun t ht hW => ⟨⟨_, (), rfl, ⟨by decide, by decide⟩, by rw [ht]; exact hP9, va_K.moved hW.alike hK9, hD9⟩, hS.F ht⟩) hS.2.2 dX9_isRow_26
      · have fc_4 := nle_f c_4
        refine lv_iconst (v := 1) hx hb dX9_isRow_21 (by decide) ?_
        refine lv_goto (tgt := 26) hx hb dX9_isRow_22 (by decide) ?_
        have hP9 := hP.sub (ws' := [(h0_, .inr (9, [.long p2_, .int p3_, .int p4_, .ref h5_, .ref h6_, .ref h7_, .ref h8_, .int p9_, .int p10_, .ref h11_, .int p12_, .int p13_, .int p14_])), (h7_, .inl (k15_, 10, .inl f16_))]) [0, 1] rfl
        have hD9 := hD.sub (ws' := [(h0_, .inr (9, [.long p2_, .int p3_, .int p4_, .ref h5_, .ref h6_, .ref h7_, .ref h8_, .int p9_, .int p10_, .ref h11_, .int p12_, .int p13_, .int p14_])), (h7_, .inl (k15_, 10, .inl f16_))]) [0, 1] (by decide) rfl
        have hK9 := hK.sub (tys' := [(k15_, .int)]) [0] rfl
        refine W.widen (k := 0) (n := 0) (Nat.le_of_ble_eq_true rfl) (Nat.le_of_ble_eq_true rfl) ?_
        exact W.zret (v := 1) hx hb hr rfl (fun t ht hW => ⟨⟨_, (), rfl, ⟨by decide, by decide⟩, by rw [ht]; exact hP9, va_K.moved hW.alike hK9, hD9⟩, hS.F ht⟩) hS.2.2 dX9_isRow_26
set_option maxHeartbeats 4000000 in
set_option maxRecDepth 100000 in
theorem s_X9_spanOf (l : Launch) (dC : Nat → ClassId) (dI : Nat → Nat → Nat) (h0_ : Nat) (p1_ : Int32) (p2_ : Int64) (p3_ : Int32) (p4_ : Int32) (h5_ : Nat) (h6_ : Nat) (h7_ : Nat) (h8_ : Nat) (p9_ : Int32) (p10_ : Int32) (h11_ : Nat) (p12_ : Int32) (p13_ : Int32) (p14_ : Int32) (k15_ : ClassId) (f16_ : Nat → Int32) (k17_ : ClassId) (f18_ : Nat → Int32) (hb_p4_ : 0 ≤ p4_.toInt ∧ p4_.toInt ≤ 10) (hb_p9_ : 0 ≤ p9_.toInt ∧ p9_.toInt ≤ 24) (hb_p10_ : 0 ≤ p10_.toInt ∧ p10_.toInt ≤ 12) (hb_p13_ : 0 ≤ p13_.toInt ∧ p13_.toInt ≤ 8) (sz : Nat) : Met l yX9_spanOf (.code yX9_spanOf cX9_spanOf 2 (some .int) :: lw_g) ({ frames := 0, cells := 0, slots := 0, locals := 0 }) (va_Pc [.ref h0_, .int p1_] (fun U => U.heap.size = sz ∧ va_P (dC, dI) vwCl [(h0_, .inr (9, [.long p2_, .int p3_, .int p4_, .ref h5_, .ref h6_, .ref h7_, .ref h8_, .int p9_, .int p10_, .ref h11_, .int p12_, .int p13_, .int p14_])), (h6_, .inl (k15_, 10, .inl f16_)), (h7_, .inl (k17_, 10, .inl f18_))] U.heap ∧ va_K (dC, dI) vwCl [(k15_, .int), (k17_, .int)] U ∧ va_D (fun _ => True) [(h0_, .inr (9, [.long p2_, .int p3_, .int p4_, .ref h5_, .ref h6_, .ref h7_, .ref h8_, .int p9_, .int p10_, .ref h11_, .int p12_, .int p13_, .int p14_])), (h6_, .inl (k15_, 10, .inl f16_)), (h7_, .inl (k17_, 10, .inl f18_))])) (va_Qi (fun (r : Int32) (_ : Unit) => True) (fun (_ : Unit) (t : State) => va_P (dC, dI) vwCl [(h0_, .inr (9, [.long p2_, .int p3_, .int p4_, .ref h5_, .ref h6_, .ref h7_, .ref h8_, .int p9_, .int p10_, .ref h11_, .int p12_, .int p13_, .int p14_])), (h6_, .inl (k15_, 10, .inl f16_)), (h7_, .inl (k17_, 10, .inl f18_))] t.heap ∧ va_K (dC, dI) vwCl [(k15_, .int), (k17_, .int)] t ∧ va_D (va_A [(h0_, .inr (9, [.long p2_, .int p3_, .int p4_, .ref h5_, .ref h6_, .ref h7_, .ref h8_, .int p9_, .int p10_, .ref h11_, .int p12_, .int p13_, .int p14_])), (h6_, .inl (k15_, 10, .inl f16_)), (h7_, .inl (k17_, 10, .inl f18_))] sz) [(h0_, .inr (9, [.long p2_, .int p3_, .int p4_, .ref h5_, .ref h6_, .ref h7_, .ref h8_, .int p9_, .int p10_, .ref h11_, .int p12_, .int p13_, .int p14_])), (h6_, .inl (k15_, 10, .inl f16_)), (h7_, .inl (k17_, 10, .inl f18_))]) (va_A [(h0_, .inr (9, [.long p2_, .int p3_, .int p4_, .ref h5_, .ref h6_, .ref h7_, .ref h8_, .int p9_, .int p10_, .ref h11_, .int p12_, .int p13_, .int p14_])), (h6_, .inl (k15_, 10, .inl f16_)), (h7_, .inl (k17_, 10, .inl f18_))] sz)) 0 0 (va_A [(h0_, .inr (9, [.long p2_, .int p3_, .int p4_, .ref h5_, .ref h6_, .ref h7_, .ref h8_, .int p9_, .int p10_, .ref h11_, .int p12_, .int p13_, .int p14_])), (h6_, .inl (k15_, 10, .inl f16_)), (h7_, .inl (k17_, 10, .inl f18_))] sz) := by
  refine Met.ofW (cc := cX9_spanOf) (maxL := 2) (ret := (some .int)) (by decide) rfl ?_
  intro p e s m args below meth c s₁ B hml hv
  obtain ⟨rfl, hsz, hP, hK, hD0⟩ := hv
  have hx := B.exec
  have hb := B.bytes
  have hr := B.returns
  have hts := atoms_spec (ws := (.code yX9_spanOf cX9_spanOf 2 (some .int) :: lw_g)) B.pre
  have hown : s.vm.findClass RX9 = some m.cls := findClass_of_methodNamed B.named
  have hlocks := B.notSynchronized
  subst hsz
  have hD := hD0.self (sz := s.heap.size)
  generalize hAe : va_A [(h0_, .inr (9, [.long p2_, .int p3_, .int p4_, .ref h5_, .ref h6_, .ref h7_, .ref h8_, .int p9_, .int p10_, .ref h11_, .int p12_, .int p13_, .int p14_])), (h6_, .inl (k15_, 10, .inl f16_)), (h7_, .inl (k17_, 10, .inl f18_))] s.heap.size = A at hD ⊢
  have hA : ∀ q : Nat, s.heap.size ≤ q → A q := fun q h => by rw [← hAe]; exact Or.inr h
  have hS : va_S A s.heap s.heap [] := va_S.rf
  have hP : va_P (dC, dI) vwCl [(h0_, .inr (9, [.long p2_, .int p3_, .int p4_, .ref h5_, .ref h6_, .ref h7_, .ref h8_, .int p9_, .int p10_, .ref h11_, .int p12_, .int p13_, .int p14_])), (h6_, .inl (k15_, 10, .inl f16_)), (h7_, .inl (k17_, 10, .inl f18_))] s.heap := hP
  have hl := lv_entry ([.ref h0_, .int p1_]) (n := 2) (Nat.le_of_ble_eq_true rfl)
  rw [lg_entry_eq]
  generalize (lg_sl ([.ref h0_, .int p1_]) ++ List.replicate (2 - (lg_sl ([.ref h0_, .int p1_])).length) Slot.unset).toArray = ls at hl ⊢
  have hl : lv_has ls 2 [(0, .ref h0_), (1, .int p1_)] := hl
  refine lv_iload_n hx hb dX9_spanOf_0 rfl (lv_at hl 1 rfl) ?_
  have kc_0 : (0 : Int32).toInt = 0 := by decide
  refine lv_if_lt (tgt := 31) hx hb dX9_spanOf_1 (by decide) (fun c_1 => ?_) (fun c_1 => ?_)
  · have fc_1 := lt_f c_1
    refine lv_iconst (v := 0) hx hb dX9_spanOf_31 (by decide) ?_
    have hP9 := hP.sub (ws' := [(h0_, .inr (9, [.long p2_, .int p3_, .int p4_, .ref h5_, .ref h6_, .ref h7_, .ref h8_, .int p9_, .int p10_, .ref h11_, .int p12_, .int p13_, .int p14_])), (h6_, .inl (k15_, 10, .inl f16_)), (h7_, .inl (k17_, 10, .inl f18_))]) [0, 1, 2] rfl
    have hD9 := hD.sub (ws' := [(h0_, .inr (9, [.long p2_, .int p3_, .int p4_, .ref h5_, .ref h6_, .ref h7_, .ref h8_, .int p9_, .int p10_, .ref h11_, .int p12_, .int p13_, .int p14_])), (h6_, .inl (k15_, 10, .inl f16_)), (h7_, .inl (k17_, 10, .inl f18_))]) [0, 1, 2] (by decide) rfl
    have hK9 := hK.sub (tys' := [(k15_, .int), (k17_, .int)]) [0, 1] rfl
    refine W.widen (k := 0) (n := 0) (Nat.le_of_ble_eq_true rfl) (Nat.le_of_ble_eq_true rfl) ?_
    exact W.iret (v := 0) hx hb hr (fun t ht hW => ⟨⟨_, (), rfl, trivial, by rw [ht]; exact hP9, va_K.moved hW.alike hK9, hD9⟩, hS.F ht⟩) hS.2.2 dX9_spanOf_32
  · have fc_1 := nlt_f c_1
    refine lv_iload_n hx hb dX9_spanOf_4 rfl (lv_at hl 1 rfl) ?_
    refine lv_aload_n hx hb dX9_spanOf_5 rfl (lv_at hl 0 rfl) ?_
    refine va_get (D := (dC, dI)) (ci := 9) (v := .int p4_) (C := RX9) (T := TX9) (N := 13) hx hb hts (mc_ inX9) hown hK hP 0 rfl rfl 2 (by decide) (hts _ (List.mem_cons_of_mem _ t_485)) (fun _ h9 => h9) rfl dX9_spanOf_6 ?_
    refine lv_icmp_ge (tgt := 31) hx hb dX9_spanOf_9 (by decide) (fun c_2 => ?_) (fun c_2 => ?_)
    · have fc_2 := le_f c_2
      refine lv_iconst (v := 0) hx hb dX9_spanOf_31 (by decide) ?_
      have hP9 := hP.sub (ws' := [(h0_, .inr (9, [.long p2_, .int p3_, .int p4_, .ref h5_, .ref h6_, .ref h7_, .ref h8_, .int p9_, .int p10_, .ref h11_, .int p12_, .int p13_, .int p14_])), (h6_, .inl (k15_, 10, .inl f16_)), (h7_, .inl (k17_, 10, .inl f18_))]) [0, 1, 2] rfl
      have hD9 := hD.sub (ws' := [(h0_, .inr (9, [.long p2_, .int p3_, .int p4_, .ref h5_, .ref h6_, .ref h7_, .ref h8_, .int p9_, .int p10_, .ref h11_, .int p12_, .int p13_, .int p14_])), (h6_, .inl (k15_, 10, .inl f16_)), (h7_, .inl (k17_, 10, .inl f18_))]) [0, 1, 2] (by decide) rfl
      have hK9 := hK.sub (tys' := [(k15_, .int), (k17_, .int)]) [0, 1] rfl
      refine W.widen (k := 0) (n := 0) (Nat.le_of_ble_eq_true rfl) (Nat.le_of_ble_eq_true rfl) ?_
      exact W.iret (v := 0) hx hb hr (fun t ht hW => ⟨⟨_, (), rfl, trivial, by rw [ht]; exact hP9, va_K.moved hW.alike hK9, hD9⟩, hS.F ht⟩) hS.2.2 dX9_spanOf_32
    · have fc_2 := nle_f c_2
      refine lv_aload_n hx hb dX9_spanOf_12 rfl (lv_at hl 0 rfl) ?_
      refine va_get (D := (dC, dI)) (ci := 9) (v := .ref h6_) (C := RX9) (T := TX9) (N := 13) hx hb hts (mc_ inX9) hown hK hP 0 rfl rfl 4 (by decide) (hts _ (List.mem_cons_of_mem _ t_489)) (fun _ h9 => h9) rfl dX9_spanOf_13 ?_
      refine lv_iload_n hx hb dX9_spanOf_16 rfl (lv_at hl 1 rfl) ?_
      refine va_iald hx hb hK hP 1 0 rfl rfl (in_ok (by omega) (by omega)) dX9_spanOf_17 ?_
      refine lv_topi (fun y_3 ey_3 => ?_)
      refine lv_bipush (v := 16) hx hb dX9_spanOf_18 (by decide) ?_
      refine lv_imul hx hb dX9_spanOf_20 ?_
      refine lv_topi (fun y_4 ey_4 => ?_)
      refine lv_aload_n hx hb dX9_spanOf_21 rfl (lv_at hl 0 rfl) ?_
      refine va_get (D := (dC, dI)) (ci := 9) (v := .ref h7_) (C := RX9) (T := TX9) (N := 13) hx hb hts (mc_ inX9) hown hK hP 0 rfl rfl 5 (by decide) (hts _ (List.mem_cons_of_mem _ t_490)) (fun _ h9 => h9) rfl dX9_spanOf_22 ?_
      refine lv_iload_n hx hb dX9_spanOf_25 rfl (lv_at hl 1 rfl) ?_
      refine va_iald hx hb hK hP 2 1 rfl rfl (in_ok (by omega) (by omega)) dX9_spanOf_26 ?_
      refine lv_topi (fun y_5 ey_5 => ?_)
      refine lv_iadd hx hb dX9_spanOf_27 ?_
      refine lv_topi (fun y_6 ey_6 => ?_)
      refine lv_goto (tgt := 32) hx hb dX9_spanOf_28 (by decide) ?_
      have hP9 := hP.sub (ws' := [(h0_, .inr (9, [.long p2_, .int p3_, .int p4_, .ref h5_, .ref h6_, .ref h7_, .ref h8_, .int p9_, .int p10_, .ref h11_, .int p12_, .int p13_, .int p14_])), (h6_, .inl (k15_, 10, .inl f16_)), (h7_, .inl (k17_, 10, .inl f18_))]) [0, 1, 2] rfl
      have hD9 := hD.sub (ws' := [(h0_, .inr (9, [.long p2_, .int p3_, .int p4_, .ref h5_, .ref h6_, .ref h7_, .ref h8_, .int p9_, .int p10_, .ref h11_, .int p12_, .int p13_, .int p14_])), (h6_, .inl (k15_, 10, .inl f16_)), (h7_, .inl (k17_, 10, .inl f18_))]) [0, 1, 2] (by decide) rfl
      have hK9 := hK.sub (tys' := [(k15_, .int), (k17_, .int)]) [0, 1] rfl
      refine W.widen (k := 0) (n := 0) (Nat.le_of_ble_eq_true rfl) (Nat.le_of_ble_eq_true rfl) ?_
      exact W.iret (v := y_6) hx hb hr (fun t ht hW => ⟨⟨_, (), rfl, trivial, by rw [ht]; exact hP9, va_K.moved hW.alike hK9, hD9⟩, hS.F ht⟩) hS.2.2 dX9_spanOf_32
set_option maxHeartbeats 4000000 in
set_option maxRecDepth 100000 in
theorem s_X1_readyToAsk (l : Launch) (dC : Nat → ClassId) (dI : Nat → Nat → Nat) (h0_ : Nat) (p1_ : Int32) (p2_ : Int32) (h3_ : Nat) (h4_ : Nat) (h5_ : Nat) (h6_ : Nat) (h7_ : Nat) (p8_ : Int32) (p9_ : Int32) (h10_ : Nat) (p11_ : Int32) (h12_ : Nat) (h13_ : Nat) (p14_ : Int32) (p15_ : Int32) (p16_ : Int32) (p17_ : Int32) (p18_ : Int32) (p19_ : Int32) (p20_ : Int64) (hb_p8_ : 0 ≤ p8_.toInt ∧ p8_.toInt ≤ 1) (hb_p11_ : 0 ≤ p11_.toInt ∧ p11_.toInt ≤ 700) (hb_p14_ : 0 ≤ p14_.toInt ∧ p14_.toInt ≤ 20) (sz : Nat) : Met l yX1_readyToAsk (.code yX1_readyToAsk cX1_readyToAsk 3 none :: lw_g) ({ frames := 0, cells := 0, slots := 0, locals := 0 }) (va_Pc [.ref h0_, .int p1_, .int p2_] (fun U => U.heap.size = sz ∧ va_P (dC, dI) vwCl [(h0_, .inr (1, [.ref h3_, .ref h4_, .ref h5_, .ref h6_, .ref h7_, .int p8_, .int p9_, .ref h10_, .int p11_, .ref h12_, .ref h13_, .int p14_, .int p15_, .int p16_, .int p17_, .int p18_, .int p19_, .long p20_]))] U.heap ∧ va_K (dC, dI) vwCl [] U ∧ va_D (fun _ => True) [(h0_, .inr (1, [.ref h3_, .ref h4_, .ref h5_, .ref h6_, .ref h7_, .int p8_, .int p9_, .ref h10_, .int p11_, .ref h12_, .ref h13_, .int p14_, .int p15_, .int p16_, .int p17_, .int p18_, .int p19_, .long p20_]))])) (va_Qv (fun _ : Unit => True) (fun (_ : Unit) (t : State) => va_P (dC, dI) vwCl [(h0_, .inr (1, [.ref h3_, .ref h4_, .ref h5_, .ref h6_, .ref h7_, .int 1, .int p2_, .ref h10_, .int p11_, .ref h12_, .ref h13_, .int p14_, .int 0, .int p1_, .int p17_, .int p18_, .int p19_, .long p20_]))] t.heap ∧ va_K (dC, dI) vwCl [] t ∧ va_D (va_A [(h0_, .inr (1, [.ref h3_, .ref h4_, .ref h5_, .ref h6_, .ref h7_, .int p8_, .int p9_, .ref h10_, .int p11_, .ref h12_, .ref h13_, .int p14_, .int p15_, .int p16_, .int p17_, .int p18_, .int p19_, .long p20_]))] sz) [(h0_, .inr (1, [.ref h3_, .ref h4_, .ref h5_, .ref h6_, .ref h7_, .int 1, .int p2_, .ref h10_, .int p11_, .ref h12_, .ref h13_, .int p14_, .int 0, .int p1_, .int p17_, .int p18_, .int p19_, .long p20_]))]) (va_A [(h0_, .inr (1, [.ref h3_, .ref h4_, .ref h5_, .ref h6_, .ref h7_, .int p8_, .int p9_, .ref h10_, .int p11_, .ref h12_, .ref h13_, .int p14_, .int p15_, .int p16_, .int p17_, .int p18_, .int p19_, .long p20_]))] sz)) 0 0 (va_A [(h0_, .inr (1, [.ref h3_, .ref h4_, .ref h5_, .ref h6_, .ref h7_, .int p8_, .int p9_, .ref h10_, .int p11_, .ref h12_, .ref h13_, .int p14_, .int p15_, .int p16_, .int p17_, .int p18_, .int p19_, .long p20_]))] sz) := by
  refine Met.ofW (cc := cX1_readyToAsk) (maxL := 3) (ret := none) (by decide) rfl ?_
  intro p e s m args below meth c s₁ B hml hv
  obtain ⟨rfl, hsz, hP, hK, hD0⟩ := hv
  have hx := B.exec
  have hb := B.bytes
  have hr := B.returns
  have hts := atoms_spec (ws := (.code yX1_readyToAsk cX1_readyToAsk 3 none :: lw_g)) B.pre
  have hown : s.vm.findClass RX1 = some m.cls := findClass_of_methodNamed B.named
  have hlocks := B.notSynchronized
  subst hsz
  have hD := hD0.self (sz := s.heap.size)
  generalize hAe : va_A [(h0_, .inr (1, [.ref h3_, .ref h4_, .ref h5_, .ref h6_, .ref h7_, .int p8_, .int p9_, .ref h10_, .int p11_, .ref h12_, .ref h13_, .int p14_, .int p15_, .int p16_, .int p17_, .int p18_, .int p19_, .long p20_]))] s.heap.size = A at hD ⊢
  have hA : ∀ q : Nat, s.heap.size ≤ q → A q := fun q h => by rw [← hAe]; exact Or.inr h
  have hS : va_S A s.heap s.heap [] := va_S.rf
  have hP : va_P (dC, dI) vwCl [(h0_, .inr (1, [.ref h3_, .ref h4_, .ref h5_, .ref h6_, .ref h7_, .int p8_, .int p9_, .ref h10_, .int p11_, .ref h12_, .ref h13_, .int p14_, .int p15_, .int p16_, .int p17_, .int p18_, .int p19_, .long p20_]))] s.heap := hP
  have hl := lv_entry ([.ref h0_, .int p1_, .int p2_]) (n := 3) (Nat.le_of_ble_eq_true rfl)
  rw [lg_entry_eq]
  generalize (lg_sl ([.ref h0_, .int p1_, .int p2_]) ++ List.replicate (3 - (lg_sl ([.ref h0_, .int p1_, .int p2_])).length) Slot.unset).toArray = ls at hl ⊢
  have hl : lv_has ls 3 [(0, .ref h0_), (1, .int p1_), (2, .int p2_)] := hl
  refine lv_aload_n hx hb dX1_readyToAsk_0 rfl (lv_at hl 0 rfl) ?_
  refine lv_iconst (v := 1) hx hb dX1_readyToAsk_1 (by decide) ?_
  refine va_put (D := (dC, dI)) (ci := 1) (v := .int 1) (ty := tyX1 5) (C := RX1) (T := TX1) (N := 18) hx hb hts (mc_ inX1) tyX1 tyX1_ok nmX1 hown hK hP hD hS 0 rfl rfl 5 (by decide) (hts _ (List.mem_cons_of_mem _ t_740)) (fun _ h9 => h9) rfl (by decide +kernel) rfl rfl (Nat.le_of_ble_eq_true rfl) dX1_readyToAsk_2 (fun H locs hP hD hS => ?_)
  have hP : va_P (dC, dI) vwCl [(h0_, .inr (1, [.ref h3_, .ref h4_, .ref h5_, .ref h6_, .ref h7_, .int 1, .int p9_, .ref h10_, .int p11_, .ref h12_, .ref h13_, .int p14_, .int p15_, .int p16_, .int p17_, .int p18_, .int p19_, .long p20_]))] H := hP
  have hD : va_D A [(h0_, .inr (1, [.ref h3_, .ref h4_, .ref h5_, .ref h6_, .ref h7_, .int 1, .int p9_, .ref h10_, .int p11_, .ref h12_, .ref h13_, .int p14_, .int p15_, .int p16_, .int p17_, .int p18_, .int p19_, .long p20_]))] := hD
  refine lv_aload_n hx hb dX1_readyToAsk_5 rfl (lv_at hl 0 rfl) ?_
  refine lv_iload_n hx hb dX1_readyToAsk_6 rfl (lv_at hl 2 rfl) ?_
  refine va_put (D := (dC, dI)) (ci := 1) (v := .int p2_) (ty := tyX1 6) (C := RX1) (T := TX1) (N := 18) hx hb hts (mc_ inX1) tyX1 tyX1_ok nmX1 hown hK hP hD hS 0 rfl rfl 6 (by decide) (hts _ (List.mem_cons_of_mem _ t_741)) (fun _ h9 => h9) rfl (by decide +kernel) rfl rfl (Nat.le_of_ble_eq_true rfl) dX1_readyToAsk_7 (fun H locs hP hD hS => ?_)
  have hP : va_P (dC, dI) vwCl [(h0_, .inr (1, [.ref h3_, .ref h4_, .ref h5_, .ref h6_, .ref h7_, .int 1, .int p2_, .ref h10_, .int p11_, .ref h12_, .ref h13_, .int p14_, .int p15_, .int p16_, .int p17_, .int p18_, .int p19_, .long p20_]))] H := hP
  have hD : va_D A [(h0_, .inr (1, [.ref h3_, .ref h4_, .ref h5_, .ref h6_, .ref h7_, .int 1, .int p2_, .ref h10_, .int p11_, .ref h12_, .ref h13_, .int p14_, .int p15_, .int p16_, .int p17_, .int p18_, .int p19_, .long p20_]))] := hD
  refine lv_aload_n hx hb dX1_readyToAsk_10 rfl (lv_at hl 0 rfl) ?_
  refine lv_iconst (v := 0) hx hb dX1_readyToAsk_11 (by decide) ?_
  refine va_put (D := (dC, dI)) (ci := 1) (v := .int 0) (ty := tyX1 12) (C := RX1) (T := TX1) (N := 18) hx hb hts (mc_ inX1) tyX1 tyX1_ok nmX1 hown hK hP hD hS 0 rfl rfl 12 (by decide) (hts _ (List.mem_cons_of_mem _ t_747)) (fun _ h9 => h9) rfl (by decide +kernel) rfl rfl (Nat.le_of_ble_eq_true rfl) dX1_readyToAsk_12 (fun H locs hP hD hS => ?_)
  have hP : va_P (dC, dI) vwCl [(h0_, .inr (1, [.ref h3_, .ref h4_, .ref h5_, .ref h6_, .ref h7_, .int 1, .int p2_, .ref h10_, .int p11_, .ref h12_, .ref h13_, .int p14_, .int 0, .int p16_, .int p17_, .int p18_, .int p19_, .long p20_]))] H := hP
  have hD : va_D A [(h0_, .inr (1, [.ref h3_, .ref h4_, .ref h5_, .ref h6_, .ref h7_, .int 1, .int p2_, .ref h10_, .int p11_, .ref h12_, .ref h13_, .int p14_, .int 0, .int p16_, .int p17_, .int p18_, .int p19_, .long p20_]))] := hD
  refine lv_aload_n hx hb dX1_readyToAsk_15 rfl (lv_at hl 0 rfl) ?_
  refine lv_iload_n hx hb dX1_readyToAsk_16 rfl (lv_at hl 1 rfl) ?_
  refine va_put (D := (dC, dI)) (ci := 1) (v := .int p1_) (ty := tyX1 13) (C := RX1) (T := TX1) (N := 18) hx hb hts (mc_ inX1) tyX1 tyX1_ok nmX1 hown hK hP hD hS 0 rfl rfl 13 (by decide) (hts _ (List.mem_cons_of_mem _ t_748)) (fun _ h9 => h9) rfl (by decide +kernel) rfl rfl (Nat.le_of_ble_eq_true rfl) dX1_readyToAsk_17 (fun H locs hP hD hS => ?_)
  have hP : va_P (dC, dI) vwCl [(h0_, .inr (1, [.ref h3_, .ref h4_, .ref h5_, .ref h6_, .ref h7_, .int 1, .int p2_, .ref h10_, .int p11_, .ref h12_, .ref h13_, .int p14_, .int 0, .int p1_, .int p17_, .int p18_, .int p19_, .long p20_]))] H := hP
  have hD : va_D A [(h0_, .inr (1, [.ref h3_, .ref h4_, .ref h5_, .ref h6_, .ref h7_, .int 1, .int p2_, .ref h10_, .int p11_, .ref h12_, .ref h13_, .int p14_, .int 0, .int p1_, .int p17_, .int p18_, .int p19_, .long p20_]))] := hD
  have hP9 := hP.sub (ws' := [(h0_, .inr (1, [.ref h3_, .ref h4_, .ref h5_, .ref h6_, .ref h7_, .int 1, .int p2_, .ref h10_, .int p11_, .ref h12_, .ref h13_, .int p14_, .int 0, .int p1_, .int p17_, .int p18_, .int p19_, .long p20_]))]) [0] rfl
  have hD9 := hD.sub (ws' := [(h0_, .inr (1, [.ref h3_, .ref h4_, .ref h5_, .ref h6_, .ref h7_, .int 1, .int p2_, .ref h10_, .int p11_, .ref h12_, .ref h13_, .int p14_, .int 0, .int p1_, .int p17_, .int p18_, .int p19_, .long p20_]))]) [0] (by decide) rfl
  have hK9 := hK.sub (tys' := []) [] rfl
  refine W.widen (k := 0) (n := 0) (Nat.le_of_ble_eq_true rfl) (Nat.le_of_ble_eq_true rfl) ?_
  exact W.vret hx hb hr (fun t ht hW => ⟨⟨(), rfl, trivial, by rw [ht]; exact hP9, va_K.moved hW.alike hK9, hD9⟩, hS.F ht⟩) hS.2.2 dX1_readyToAsk_20
set_option maxHeartbeats 4000000 in
set_option maxRecDepth 100000 in
theorem s_X1_push (l : Launch) (dC : Nat → ClassId) (dI : Nat → Nat → Nat) (h0_ : Nat) (p1_ : Int32) (h2_ : Nat) (h3_ : Nat) (h4_ : Nat) (h5_ : Nat) (h6_ : Nat) (p7_ : Int32) (p8_ : Int32) (h9_ : Nat) (p10_ : Int32) (h11_ : Nat) (h12_ : Nat) (p13_ : Int32) (p14_ : Int32) (p15_ : Int32) (p16_ : Int32) (p17_ : Int32) (p18_ : Int32) (p19_ : Int64) (k20_ : ClassId) (f21_ : Nat → Int32) (hb_p7_ : 0 ≤ p7_.toInt ∧ p7_.toInt ≤ 1) (hb_p10_ : 0 ≤ p10_.toInt ∧ p10_.toInt ≤ 700) (hb_p13_ : 0 ≤ p13_.toInt ∧ p13_.toInt ≤ 20) (sz : Nat) : Met l yX1_push (.code yX1_push cX1_push 2 none :: lw_g) ({ frames := 0, cells := 0, slots := 0, locals := 0 }) (va_Pc [.ref h0_, .int p1_] (fun U => U.heap.size = sz ∧ va_P (dC, dI) vwCl [(h0_, .inr (1, [.ref h2_, .ref h3_, .ref h4_, .ref h5_, .ref h6_, .int p7_, .int p8_, .ref h9_, .int p10_, .ref h11_, .ref h12_, .int p13_, .int p14_, .int p15_, .int p16_, .int p17_, .int p18_, .long p19_])), (h9_, .inl (k20_, 700, .inl f21_))] U.heap ∧ va_K (dC, dI) vwCl [(k20_, .int)] U ∧ va_D (fun _ => True) [(h0_, .inr (1, [.ref h2_, .ref h3_, .ref h4_, .ref h5_, .ref h6_, .int p7_, .int p8_, .ref h9_, .int p10_, .ref h11_, .ref h12_, .int p13_, .int p14_, .int p15_, .int p16_, .int p17_, .int p18_, .long p19_])), (h9_, .inl (k20_, 700, .inl f21_))])) (va_Qv (fun _ : Unit => True) (fun (_ : Unit) (t : State) => ∃ z0 : Int32, ∃ z1 : Nat → Int32, (0 ≤ z0.toInt ∧ z0.toInt ≤ 700) ∧ va_P (dC, dI) vwCl [(h0_, .inr (1, [.ref h2_, .ref h3_, .ref h4_, .ref h5_, .ref h6_, .int p7_, .int p8_, .ref h9_, .int z0, .ref h11_, .ref h12_, .int p13_, .int p14_, .int p15_, .int p16_, .int p17_, .int p18_, .long p19_])), (h9_, .inl (k20_, 700, .inl z1))] t.heap ∧ va_K (dC, dI) vwCl [(k20_, .int)] t ∧ va_D (va_A [(h0_, .inr (1, [.ref h2_, .ref h3_, .ref h4_, .ref h5_, .ref h6_, .int p7_, .int p8_, .ref h9_, .int p10_, .ref h11_, .ref h12_, .int p13_, .int p14_, .int p15_, .int p16_, .int p17_, .int p18_, .long p19_])), (h9_, .inl (k20_, 700, .inl f21_))] sz) [(h0_, .inr (1, [.ref h2_, .ref h3_, .ref h4_, .ref h5_, .ref h6_, .int p7_, .int p8_, .ref h9_, .int z0, .ref h11_, .ref h12_, .int p13_, .int p14_, .int p15_, .int p16_, .int p17_, .int p18_, .long p19_])), (h9_, .inl (k20_, 700, .inl z1))]) (va_A [(h0_, .inr (1, [.ref h2_, .ref h3_, .ref h4_, .ref h5_, .ref h6_, .int p7_, .int p8_, .ref h9_, .int p10_, .ref h11_, .ref h12_, .int p13_, .int p14_, .int p15_, .int p16_, .int p17_, .int p18_, .long p19_])), (h9_, .inl (k20_, 700, .inl f21_))] sz)) 0 0 (va_A [(h0_, .inr (1, [.ref h2_, .ref h3_, .ref h4_, .ref h5_, .ref h6_, .int p7_, .int p8_, .ref h9_, .int p10_, .ref h11_, .ref h12_, .int p13_, .int p14_, .int p15_, .int p16_, .int p17_, .int p18_, .long p19_])), (h9_, .inl (k20_, 700, .inl f21_))] sz) := by
  refine Met.ofW (cc := cX1_push) (maxL := 2) (ret := none) (by decide) rfl ?_
  intro p e s m args below meth c s₁ B hml hv
  obtain ⟨rfl, hsz, hP, hK, hD0⟩ := hv
  have hx := B.exec
  have hb := B.bytes
  have hr := B.returns
  have hts := atoms_spec (ws := (.code yX1_push cX1_push 2 none :: lw_g)) B.pre
  have hown : s.vm.findClass RX1 = some m.cls := findClass_of_methodNamed B.named
  have hlocks := B.notSynchronized
  subst hsz
  have hD := hD0.self (sz := s.heap.size)
  generalize hAe : va_A [(h0_, .inr (1, [.ref h2_, .ref h3_, .ref h4_, .ref h5_, .ref h6_, .int p7_, .int p8_, .ref h9_, .int p10_, .ref h11_, .ref h12_, .int p13_, .int p14_, .int p15_, .int p16_, .int p17_, .int p18_, .long p19_])), (h9_, .inl (k20_, 700, .inl f21_))] s.heap.size = A at hD ⊢
  have hA : ∀ q : Nat, s.heap.size ≤ q → A q := fun q h => by rw [← hAe]; exact Or.inr h
  have hS : va_S A s.heap s.heap [] := va_S.rf
  have hP : va_P (dC, dI) vwCl [(h0_, .inr (1, [.ref h2_, .ref h3_, .ref h4_, .ref h5_, .ref h6_, .int p7_, .int p8_, .ref h9_, .int p10_, .ref h11_, .ref h12_, .int p13_, .int p14_, .int p15_, .int p16_, .int p17_, .int p18_, .long p19_])), (h9_, .inl (k20_, 700, .inl f21_))] s.heap := hP
  have hl := lv_entry ([.ref h0_, .int p1_]) (n := 2) (Nat.le_of_ble_eq_true rfl)
  rw [lg_entry_eq]
  generalize (lg_sl ([.ref h0_, .int p1_]) ++ List.replicate (2 - (lg_sl ([.ref h0_, .int p1_])).length) Slot.unset).toArray = ls at hl ⊢
  have hl : lv_has ls 2 [(0, .ref h0_), (1, .int p1_)] := hl
  refine lv_aload_n hx hb dX1_push_0 rfl (lv_at hl 0 rfl) ?_
  refine va_get (D := (dC, dI)) (ci := 1) (v := .int p10_) (C := RX1) (T := TX1) (N := 18) hx hb hts (mc_ inX1) hown hK hP 0 rfl rfl 8 (by decide) (hts _ (List.mem_cons_of_mem _ t_743)) (fun _ h9 => h9) rfl dX1_push_1 ?_
  refine lv_sipush (v := 700) hx hb dX1_push_4 (by decide) ?_
  have kc_700 : (700 : Int32).toInt = 700 := by decide
  refine lv_icmp_ge (tgt := 30) hx hb dX1_push_7 (by decide) (fun c_1 => ?_) (fun c_1 => ?_)
  · have fc_1 := le_f c_1
    have hP9 := hP.sub (ws' := [(h0_, .inr (1, [.ref h2_, .ref h3_, .ref h4_, .ref h5_, .ref h6_, .int p7_, .int p8_, .ref h9_, .int p10_, .ref h11_, .ref h12_, .int p13_, .int p14_, .int p15_, .int p16_, .int p17_, .int p18_, .long p19_])), (h9_, .inl (k20_, 700, .inl f21_))]) [0, 1] rfl
    have hD9 := hD.sub (ws' := [(h0_, .inr (1, [.ref h2_, .ref h3_, .ref h4_, .ref h5_, .ref h6_, .int p7_, .int p8_, .ref h9_, .int p10_, .ref h11_, .ref h12_, .int p13_, .int p14_, .int p15_, .int p16_, .int p17_, .int p18_, .long p19_])), (h9_, .inl (k20_, 700, .inl f21_))]) [0, 1] (by decide) rfl
    have hK9 := hK.sub (tys' := [(k20_, .int)]) [0] rfl
    refine W.widen (k := 0) (n := 0) (Nat.le_of_ble_eq_true rfl) (Nat.le_of_ble_eq_true rfl) ?_
    exact W.vret hx hb hr (fun t ht hW => ⟨⟨(), rfl, trivial, p10_, f21_, ⟨by omega, by omega⟩, by rw [ht]; exact hP9, va_K.moved hW.alike hK9, hD9⟩, hS.F ht⟩) hS.2.2 dX1_push_30
  · have fc_1 := nle_f c_1
    refine lv_aload_n hx hb dX1_push_10 rfl (lv_at hl 0 rfl) ?_
    refine va_get (D := (dC, dI)) (ci := 1) (v := .ref h9_) (C := RX1) (T := TX1) (N := 18) hx hb hts (mc_ inX1) hown hK hP 0 rfl rfl 7 (by decide) (hts _ (List.mem_cons_of_mem _ t_742)) (fun _ h9 => h9) rfl dX1_push_11 ?_
    refine lv_aload_n hx hb dX1_push_14 rfl (lv_at hl 0 rfl) ?_
    refine va_get (D := (dC, dI)) (ci := 1) (v := .int p10_) (C := RX1) (T := TX1) (N := 18) hx hb hts (mc_ inX1) hown hK hP 0 rfl rfl 8 (by decide) (hts _ (List.mem_cons_of_mem _ t_743)) (fun _ h9 => h9) rfl dX1_push_15 ?_
    refine lv_iload_n hx hb dX1_push_18 rfl (lv_at hl 1 rfl) ?_
    refine va_iast hx hb hK hP hD hS 1 0 rfl rfl (in_ok (by omega) (by omega)) dX1_push_19 (fun H locs hP hD hS => ?_)
    have hP : va_P (dC, dI) vwCl [(h0_, .inr (1, [.ref h2_, .ref h3_, .ref h4_, .ref h5_, .ref h6_, .int p7_, .int p8_, .ref h9_, .int p10_, .ref h11_, .ref h12_, .int p13_, .int p14_, .int p15_, .int p16_, .int p17_, .int p18_, .long p19_])), (h9_, .inl (k20_, 700, .inl (upd f21_ (p10_ : Int32).toNatClampNeg p1_)))] H := hP
    have hD : va_D A [(h0_, .inr (1, [.ref h2_, .ref h3_, .ref h4_, .ref h5_, .ref h6_, .int p7_, .int p8_, .ref h9_, .int p10_, .ref h11_, .ref h12_, .int p13_, .int p14_, .int p15_, .int p16_, .int p17_, .int p18_, .long p19_])), (h9_, .inl (k20_, 700, .inl (upd f21_ (p10_ : Int32).toNatClampNeg p1_)))] := hD
    generalize (upd f21_ (p10_ : Int32).toNatClampNeg p1_) = f_2 at hP hD
    refine lv_aload_n hx hb dX1_push_20 rfl (lv_at hl 0 rfl) ?_
    refine lv_dup hx hb dX1_push_21 rfl ?_
    refine va_get (D := (dC, dI)) (ci := 1) (v := .int p10_) (C := RX1) (T := TX1) (N := 18) hx hb hts (mc_ inX1) hown hK hP 0 rfl rfl 8 (by decide) (hts _ (List.mem_cons_of_mem _ t_743)) (fun _ h9 => h9) rfl dX1_push_22 ?_
    refine lv_iconst (v := 1) hx hb dX1_push_25 (by decide) ?_
    have kc_1 : (1 : Int32).toInt = 1 := by decide
    refine lv_iadd hx hb dX1_push_26 ?_
    refine lv_topi (fun y_3 ey_3 => ?_)
    have ty_3 : y_3.toInt = p10_.toInt + (1 : Int32).toInt := by rw [ey_3]; exact add_ok (by omega) (by omega)
    have b_4 : 1 ≤ y_3.toInt ∧ y_3.toInt ≤ 700 := by omega
    refine va_put (D := (dC, dI)) (ci := 1) (v := .int y_3) (ty := tyX1 8) (C := RX1) (T := TX1) (N := 18) hx hb hts (mc_ inX1) tyX1 tyX1_ok nmX1 hown hK hP hD hS 0 rfl rfl 8 (by decide) (hts _ (List.mem_cons_of_mem _ t_743)) (fun _ h9 => h9) rfl (by decide +kernel) rfl rfl (Nat.le_of_ble_eq_true rfl) dX1_push_27 (fun H locs hP hD hS => ?_)
    have hP : va_P (dC, dI) vwCl [(h0_, .inr (1, [.ref h2_, .ref h3_, .ref h4_, .ref h5_, .ref h6_, .int p7_, .int p8_, .ref h9_, .int y_3, .ref h11_, .ref h12_, .int p13_, .int p14_, .int p15_, .int p16_, .int p17_, .int p18_, .long p19_])), (h9_, .inl (k20_, 700, .inl f_2))] H := hP
    have hD : va_D A [(h0_, .inr (1, [.ref h2_, .ref h3_, .ref h4_, .ref h5_, .ref h6_, .int p7_, .int p8_, .ref h9_, .int y_3, .ref h11_, .ref h12_, .int p13_, .int p14_, .int p15_, .int p16_, .int p17_, .int p18_, .long p19_])), (h9_, .inl (k20_, 700, .inl f_2))] := hD
    have hP9 := hP.sub (ws' := [(h0_, .inr (1, [.ref h2_, .ref h3_, .ref h4_, .ref h5_, .ref h6_, .int p7_, .int p8_, .ref h9_, .int y_3, .ref h11_, .ref h12_, .int p13_, .int p14_, .int p15_, .int p16_, .int p17_, .int p18_, .long p19_])), (h9_, .inl (k20_, 700, .inl f_2))]) [0, 1] rfl
    have hD9 := hD.sub (ws' := [(h0_, .inr (1, [.ref h2_, .ref h3_, .ref h4_, .ref h5_, .ref h6_, .int p7_, .int p8_, .ref h9_, .int y_3, .ref h11_, .ref h12_, .int p13_, .int p14_, .int p15_, .int p16_, .int p17_, .int p18_, .long p19_])), (h9_, .inl (k20_, 700, .inl f_2))]) [0, 1] (by decide) rfl
    have hK9 := hK.sub (tys' := [(k20_, .int)]) [0] rfl
    refine W.widen (k := 0) (n := 0) (Nat.le_of_ble_eq_true rfl) (Nat.le_of_ble_eq_true rfl) ?_
    exact W.vret hx hb hr (fun t ht hW => ⟨⟨(), rfl, trivial, y_3, f_2, ⟨by omega, by omega⟩, by rw [ht]; exact hP9, va_K.moved hW.alike hK9, hD9⟩, hS.F ht⟩) hS.2.2 dX1_push_30
set_option maxHeartbeats 4000000 in
set_option maxRecDepth 100000 in
theorem s_X1_pop (l : Launch) (dC : Nat → ClassId) (dI : Nat → Nat → Nat) (h0_ : Nat) (h1_ : Nat) (h2_ : Nat) (h3_ : Nat) (h4_ : Nat) (h5_ : Nat) (p6_ : Int32) (p7_ : Int32) (h8_ : Nat) (p9_ : Int32) (h10_ : Nat) (h11_ : Nat) (p12_ : Int32) (p13_ : Int32) (p14_ : Int32) (p15_ : Int32) (p16_ : Int32) (p17_ : Int32) (p18_ : Int64) (k19_ : ClassId) (f20_ : Nat → Int32) (hb_p6_ : 0 ≤ p6_.toInt ∧ p6_.toInt ≤ 1) (hb_p9_ : 0 ≤ p9_.toInt ∧ p9_.toInt ≤ 700) (hb_p12_ : 0 ≤ p12_.toInt ∧ p12_.toInt ≤ 20) (sz : Nat) : Met l yX1_pop (.code yX1_pop cX1_pop 1 (some .int) :: lw_g) ({ frames := 0, cells := 0, slots := 0, locals := 0 }) (va_Pc [.ref h0_] (fun U => U.heap.size = sz ∧ va_P (dC, dI) vwCl [(h0_, .inr (1, [.ref h1_, .ref h2_, .ref h3_, .ref h4_, .ref h5_, .int p6_, .int p7_, .ref h8_, .int p9_, .ref h10_, .ref h11_, .int p12_, .int p13_, .int p14_, .int p15_, .int p16_, .int p17_, .long p18_])), (h8_, .inl (k19_, 700, .inl f20_))] U.heap ∧ va_K (dC, dI) vwCl [(k19_, .int)] U ∧ va_D (fun _ => True) [(h0_, .inr (1, [.ref h1_, .ref h2_, .ref h3_, .ref h4_, .ref h5_, .int p6_, .int p7_, .ref h8_, .int p9_, .ref h10_, .ref h11_, .int p12_, .int p13_, .int p14_, .int p15_, .int p16_, .int p17_, .long p18_])), (h8_, .inl (k19_, 700, .inl f20_))])) (va_Qi (fun (r : Int32) (_ : Unit) => True) (fun (_ : Unit) (t : State) => ∃ z0 : Int32, (0 ≤ z0.toInt ∧ z0.toInt ≤ 700) ∧ va_P (dC, dI) vwCl [(h0_, .inr (1, [.ref h1_, .ref h2_, .ref h3_, .ref h4_, .ref h5_, .int p6_, .int p7_, .ref h8_, .int z0, .ref h10_, .ref h11_, .int p12_, .int p13_, .int p14_, .int p15_, .int p16_, .int p17_, .long p18_])), (h8_, .inl (k19_, 700, .inl f20_))] t.heap ∧ va_K (dC, dI) vwCl [(k19_, .int)] t ∧ va_D (va_A [(h0_, .inr (1, [.ref h1_, .ref h2_, .ref h3_, .ref h4_, .ref h5_, .int p6_, .int p7_, .ref h8_, .int p9_, .ref h10_, .ref h11_, .int p12_, .int p13_, .int p14_, .int p15_, .int p16_, .int p17_, .long p18_])), (h8_, .inl (k19_, 700, .inl f20_))] sz) [(h0_, .inr (1, [.ref h1_, .ref h2_, .ref h3_, .ref h4_, .ref h5_, .int p6_, .int p7_, .ref h8_, .int z0, .ref h10_, .ref h11_, .int p12_, .int p13_, .int p14_, .int p15_, .int p16_, .int p17_, .long p18_])), (h8_, .inl (k19_, 700, .inl f20_))]) (va_A [(h0_, .inr (1, [.ref h1_, .ref h2_, .ref h3_, .ref h4_, .ref h5_, .int p6_, .int p7_, .ref h8_, .int p9_, .ref h10_, .ref h11_, .int p12_, .int p13_, .int p14_, .int p15_, .int p16_, .int p17_, .long p18_])), (h8_, .inl (k19_, 700, .inl f20_))] sz)) 0 0 (va_A [(h0_, .inr (1, [.ref h1_, .ref h2_, .ref h3_, .ref h4_, .ref h5_, .int p6_, .int p7_, .ref h8_, .int p9_, .ref h10_, .ref h11_, .int p12_, .int p13_, .int p14_, .int p15_, .int p16_, .int p17_, .long p18_])), (h8_, .inl (k19_, 700, .inl f20_))] sz) := by
  refine Met.ofW (cc := cX1_pop) (maxL := 1) (ret := (some .int)) (by decide) rfl ?_
  intro p e s m args below meth c s₁ B hml hv
  obtain ⟨rfl, hsz, hP, hK, hD0⟩ := hv
  have hx := B.exec
  have hb := B.bytes
  have hr := B.returns
  have hts := atoms_spec (ws := (.code yX1_pop cX1_pop 1 (some .int) :: lw_g)) B.pre
  have hown : s.vm.findClass RX1 = some m.cls := findClass_of_methodNamed B.named
  have hlocks := B.notSynchronized
  subst hsz
  have hD := hD0.self (sz := s.heap.size)
  generalize hAe : va_A [(h0_, .inr (1, [.ref h1_, .ref h2_, .ref h3_, .ref h4_, .ref h5_, .int p6_, .int p7_, .ref h8_, .int p9_, .ref h10_, .ref h11_, .int p12_, .int p13_, .int p14_, .int p15_, .int p16_, .int p17_, .long p18_])), (h8_, .inl (k19_, 700, .inl f20_))] s.heap.size = A at hD ⊢
  have hA : ∀ q : Nat, s.heap.size ≤ q → A q := fun q h => by rw [← hAe]; exact Or.inr h
  have hS : va_S A s.heap s.heap [] := va_S.rf
  have hP : va_P (dC, dI) vwCl [(h0_, .inr (1, [.ref h1_, .ref h2_, .ref h3_, .ref h4_, .ref h5_, .int p6_, .int p7_, .ref h8_, .int p9_, .ref h10_, .ref h11_, .int p12_, .int p13_, .int p14_, .int p15_, .int p16_, .int p17_, .long p18_])), (h8_, .inl (k19_, 700, .inl f20_))] s.heap := hP
  have hl := lv_entry ([.ref h0_]) (n := 1) (Nat.le_of_ble_eq_true rfl)
  rw [lg_entry_eq]
  generalize (lg_sl ([.ref h0_]) ++ List.replicate (1 - (lg_sl ([.ref h0_])).length) Slot.unset).toArray = ls at hl ⊢
  have hl : lv_has ls 1 [(0, .ref h0_)] := hl
  refine lv_aload_n hx hb dX1_pop_0 rfl (lv_at hl 0 rfl) ?_
  refine va_get (D := (dC, dI)) (ci := 1) (v := .int p9_) (C := RX1) (T := TX1) (N := 18) hx hb hts (mc_ inX1) hown hK hP 0 rfl rfl 8 (by decide) (hts _ (List.mem_cons_of_mem _ t_743)) (fun _ h9 => h9) rfl dX1_pop_1 ?_
  have kc_0 : (0 : Int32).toInt = 0 := by decide
  refine lv_if_ne (tgt := 9) hx hb dX1_pop_4 (by decide) (fun c_1 => ?_) (fun c_1 => ?_)
  · have fc_1 := neq_f c_1
    refine lv_aload_n hx hb dX1_pop_9 rfl (lv_at hl 0 rfl) ?_
    refine lv_dup hx hb dX1_pop_10 rfl ?_
    refine va_get (D := (dC, dI)) (ci := 1) (v := .int p9_) (C := RX1) (T := TX1) (N := 18) hx hb hts (mc_ inX1) hown hK hP 0 rfl rfl 8 (by decide) (hts _ (List.mem_cons_of_mem _ t_743)) (fun _ h9 => h9) rfl dX1_pop_11 ?_
    refine lv_iconst (v := 1) hx hb dX1_pop_14 (by decide) ?_
    have kc_1 : (1 : Int32).toInt = 1 := by decide
    refine lv_isub hx hb dX1_pop_15 ?_
    refine lv_topi (fun y_2 ey_2 => ?_)
    have ty_2 : y_2.toInt = p9_.toInt - (1 : Int32).toInt := by rw [ey_2]; exact sub_ok (by omega) (by omega)
    have b_3 : 0 ≤ y_2.toInt ∧ y_2.toInt ≤ 699 := by omega
    refine va_put (D := (dC, dI)) (ci := 1) (v := .int y_2) (ty := tyX1 8) (C := RX1) (T := TX1) (N := 18) hx hb hts (mc_ inX1) tyX1 tyX1_ok nmX1 hown hK hP hD hS 0 rfl rfl 8 (by decide) (hts _ (List.mem_cons_of_mem _ t_743)) (fun _ h9 => h9) rfl (by decide +kernel) rfl rfl (Nat.le_of_ble_eq_true rfl) dX1_pop_16 (fun H locs hP hD hS => ?_)
    have hP : va_P (dC, dI) vwCl [(h0_, .inr (1, [.ref h1_, .ref h2_, .ref h3_, .ref h4_, .ref h5_, .int p6_, .int p7_, .ref h8_, .int y_2, .ref h10_, .ref h11_, .int p12_, .int p13_, .int p14_, .int p15_, .int p16_, .int p17_, .long p18_])), (h8_, .inl (k19_, 700, .inl f20_))] H := hP
    have hD : va_D A [(h0_, .inr (1, [.ref h1_, .ref h2_, .ref h3_, .ref h4_, .ref h5_, .int p6_, .int p7_, .ref h8_, .int y_2, .ref h10_, .ref h11_, .int p12_, .int p13_, .int p14_, .int p15_, .int p16_, .int p17_, .long p18_])), (h8_, .inl (k19_, 700, .inl f20_))] := hD
    refine lv_aload_n hx hb dX1_pop_19 rfl (lv_at hl 0 rfl) ?_
    refine va_get (D := (dC, dI)) (ci := 1) (v := .ref h8_) (C := RX1) (T := TX1) (N := 18) hx hb hts (mc_ inX1) hown hK hP 0 rfl rfl 7 (by decide) (hts _ (List.mem_cons_of_mem _ t_742)) (fun _ h9 => h9) rfl dX1_pop_20 ?_
    refine lv_aload_n hx hb dX1_pop_23 rfl (lv_at hl 0 rfl) ?_
    refine va_get (D := (dC, dI)) (ci := 1) (v := .int y_2) (C := RX1) (T := TX1) (N := 18) hx hb hts (mc_ inX1) hown hK hP 0 rfl rfl 8 (by decide) (hts _ (List.mem_cons_of_mem _ t_743)) (fun _ h9 => h9) rfl dX1_pop_24 ?_
    refine va_iald hx hb hK hP 1 0 rfl rfl (in_ok (by omega) (by omega)) dX1_pop_27 ?_
    refine lv_topi (fun y_4 ey_4 => ?_)
    have hP9 := hP.sub (ws' := [(h0_, .inr (1, [.ref h1_, .ref h2_, .ref h3_, .ref h4_, .ref h5_, .int p6_, .int p7_, .ref h8_, .int y_2, .ref h10_, .ref h11_, .int p12_, .int p13_, .int p14_, .int p15_, .int p16_, .int p17_, .long p18_])), (h8_, .inl (k19_, 700, .inl f20_))]) [0, 1] rfl
    have hD9 := hD.sub (ws' := [(h0_, .inr (1, [.ref h1_, .ref h2_, .ref h3_, .ref h4_, .ref h5_, .int p6_, .int p7_, .ref h8_, .int y_2, .ref h10_, .ref h11_, .int p12_, .int p13_, .int p14_, .int p15_, .int p16_, .int p17_, .long p18_])), (h8_, .inl (k19_, 700, .inl f20_))]) [0, 1] (by decide) rfl
    have hK9 := hK.sub (tys' := [(k19_, .int)]) [0] rfl
    refine W.widen (k := 0) (n := 0) (Nat.le_of_ble_eq_true rfl) (Nat.le_of_ble_eq_true rfl) ?_
    exact W.iret (v := y_4) hx hb hr (fun t ht hW => ⟨⟨_, (), rfl, trivial, y_2, ⟨by omega, by omega⟩, by rw [ht]; exact hP9, va_K.moved hW.alike hK9, hD9⟩, hS.F ht⟩) hS.2.2 dX1_pop_28
  · have fc_1 := eq_f c_1
    refine lv_iconst (v := 0) hx hb dX1_pop_7 (by decide) ?_
    have hP9 := hP.sub (ws' := [(h0_, .inr (1, [.ref h1_, .ref h2_, .ref h3_, .ref h4_, .ref h5_, .int p6_, .int p7_, .ref h8_, .int p9_, .ref h10_, .ref h11_, .int p12_, .int p13_, .int p14_, .int p15_, .int p16_, .int p17_, .long p18_])), (h8_, .inl (k19_, 700, .inl f20_))]) [0, 1] rfl
    have hD9 := hD.sub (ws' := [(h0_, .inr (1, [.ref h1_, .ref h2_, .ref h3_, .ref h4_, .ref h5_, .int p6_, .int p7_, .ref h8_, .int p9_, .ref h10_, .ref h11_, .int p12_, .int p13_, .int p14_, .int p15_, .int p16_, .int p17_, .long p18_])), (h8_, .inl (k19_, 700, .inl f20_))]) [0, 1] (by decide) rfl
    have hK9 := hK.sub (tys' := [(k19_, .int)]) [0] rfl
    refine W.widen (k := 0) (n := 0) (Nat.le_of_ble_eq_true rfl) (Nat.le_of_ble_eq_true rfl) ?_
    exact W.iret (v := 0) hx hb hr (fun t ht hW => ⟨⟨_, (), rfl, trivial, p9_, ⟨by omega, by omega⟩, by rw [ht]; exact hP9, va_K.moved hW.alike hK9, hD9⟩, hS.F ht⟩) hS.2.2 dX1_pop_8
