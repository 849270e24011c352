theorem strP_el : ∀ i, i < 4 → ∀ j, j < lenP.getD i 0 → Cond.eq (.elem (.field (tmP i) "java/lang/String" "value" "[B") (.int (Int32.ofNat j))) (.int ((bytP.getD i []).getD j 0)) ∈ flatC (Jvm.Cond.and given_1 narrow_1) := fun i hi j hj => by
  match i, hi, hj with
  | 0, _, hj => exact strS_el 0 (by decide) j hj
  | 1, _, hj => exact strS_el 1 (by decide) j hj
  | 2, _, hj => exact strP_e2 j hj
  | 3, _, hj =>
    have h3 : j < 112 := hj
    by_cases k1 : j < 28
    · exact strP_e3a j k1
    by_cases k2 : j < 56
    · have h := strP_e3b (j - 28) (by omega)
      rw [show j - 28 + 28 = j by omega] at h
      exact h
    by_cases k3 : j < 84
    · have h := strP_e3c (j - 56) (by omega)
      rw [show j - 56 + 56 = j by omega] at h
      exact h
    · have h := strP_e3d (j - 84) (by omega)
      rw [show j - 84 + 84 = j by omega] at h
      exact h
  | n + 4, h, _ => exact absurd h (by omega)
theorem law_ap {args : Array Value} {s : State} {A : Nat → Prop} (hts : ∀ w ∈ lw_tbl, w.before args s = true) (hgv : (Jvm.Cond.and given_1 narrow_1).before args s = true) (hnA : ∀ a : Nat, a < s.heap.size → ¬ A a) : ∃ adK adV : Nat → Nat, ap_ adK adV A s s.heap := by
  have hs := flat_of_before _ hgv
  obtain ⟨adK, adV, hS, hT⟩ := vk_Sof (args := args) (s := s) (N := 4) (tm := tmP) (len := lenP) (byt := bytP) (A := A) (by decide)
    (fun i hi => hs _ (show Cond.exactly (tmP i) "java/lang/String" ∈ flatC (Jvm.Cond.and given_1 narrow_1) from (by decide +kernel : ∀ i, i < 4 → Cond.exactly (tmP i) "java/lang/String" ∈ flatC (Jvm.Cond.and given_1 narrow_1)) i hi))
    (fun i hi => hs _ ((by decide +kernel : ∀ i, i < 4 → Cond.eq (.field (tmP i) "java/lang/String" "coder" "B") (.int 0) ∈ flatC (Jvm.Cond.and given_1 narrow_1)) i hi))
    (fun i hi => hs _ ((by decide +kernel : ∀ i, i < 4 → Cond.arrayOf (.field (tmP i) "java/lang/String" "value" "[B") .byte ∈ flatC (Jvm.Cond.and given_1 narrow_1)) i hi))
    (fun i hi => hs _ ((by decide +kernel : ∀ i, i < 4 → Cond.eq (.length (.field (tmP i) "java/lang/String" "value" "[B")) (.int (Int32.ofNat (lenP.getD i 0))) ∈ flatC (Jvm.Cond.and given_1 narrow_1)) i hi))
    (fun i hi j hj => hs _ (strP_el i hi j hj))
    (fun i j hi hj hij => by
      rcases (by decide +kernel : ∀ i, i < 4 → ∀ j, j < 4 → i ≠ j → (Cond.not (Cond.eq (tmP i) (tmP j)) ∈ flatC (Jvm.Cond.and given_1 narrow_1) ∨ Cond.not (Cond.eq (tmP j) (tmP i)) ∈ flatC (Jvm.Cond.and given_1 narrow_1))) i hi j hj hij with h | h
      · exact Or.inl (hs _ h)
      · exact Or.inr (hs _ h)) hnA
  refine ⟨adK, adV, ⟨⟨vk_R.of (hts _ (List.mem_of_getElem? (i := 1024) (by decide +kernel))) (hT 2 (by decide)), vk_R.of (hts _ (List.mem_of_getElem? (i := 2378) (by decide +kernel))) (hT 3 (by decide)), va_Nw.of rfl (hts _ (List.mem_of_getElem? (i := 1838) (by decide +kernel)))⟩, hS, va_Zof (hts _ (List.mem_of_getElem? (i := 241) (by decide +kernel))) (hts _ (List.mem_of_getElem? (i := 185) (by decide +kernel))) (va_eqi (hs _ (by decide +kernel))) hnA, va_Zqof (hts _ (List.mem_of_getElem? (i := 257) (by decide +kernel))) (hts _ (List.mem_of_getElem? (i := 187) (by decide +kernel))) (hs _ (by decide +kernel)) hnA⟩⟩
