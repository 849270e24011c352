def tmS (i : Nat) : Term := if i = 0 then .string RX8 33 else .string RX8 39
theorem strS_el : ∀ i, i < 2 → ∀ j, j < lenS.getD i 0 → Cond.eq (.elem (.field (tmS i) "java/lang/String" "value" "[B") (.int (Int32.ofNat j))) (.int ((bytS.getD i []).getD j 0)) ∈ flatC (Jvm.Cond.and given_1 narrow_1) := by decide +kernel
theorem law_amb {args : Array Value} {s : State} {A : Nat → Prop} (hts : ∀ w ∈ lw_tbl, w.before args s = true) (hgv : (Jvm.Cond.and given_1 narrow_1).before args s = true) (hnA : ∀ a : Nat, a < s.heap.size → ¬ A a) : ∃ adK adV : Nat → Nat, am_ adK adV A s s.heap := by
  have hs := flat_of_before _ hgv
  obtain ⟨adK, adV, hS, hT⟩ := vk_Sof (args := args) (s := s) (N := 2) (tm := tmS) (len := lenS) (byt := bytS) (A := A) (by decide)
    (fun i hi => hs _ (show Cond.exactly (tmS i) "java/lang/String" ∈ flatC (Jvm.Cond.and given_1 narrow_1) from (by decide +kernel : ∀ i, i < 2 → Cond.exactly (tmS i) "java/lang/String" ∈ flatC (Jvm.Cond.and given_1 narrow_1)) i hi))
    (fun i hi => hs _ ((by decide +kernel : ∀ i, i < 2 → Cond.eq (.field (tmS i) "java/lang/String" "coder" "B") (.int 0) ∈ flatC (Jvm.Cond.and given_1 narrow_1)) i hi))
    (fun i hi => hs _ ((by decide +kernel : ∀ i, i < 2 → Cond.arrayOf (.field (tmS i) "java/lang/String" "value" "[B") .byte ∈ flatC (Jvm.Cond.and given_1 narrow_1)) i hi))
    (fun i hi => hs _ ((by decide +kernel : ∀ i, i < 2 → Cond.eq (.length (.field (tmS i) "java/lang/String" "value" "[B")) (.int (Int32.ofNat (lenS.getD i 0))) ∈ flatC (Jvm.Cond.and given_1 narrow_1)) i hi))
    (fun i hi j hj => hs _ (strS_el i hi j hj))
    (fun i j hi hj hij => by
      rcases (by decide +kernel : ∀ i, i < 2 → ∀ j, j < 2 → i ≠ j → (Cond.not (Cond.eq (tmS i) (tmS j)) ∈ flatC (Jvm.Cond.and given_1 narrow_1) ∨ Cond.not (Cond.eq (tmS j) (tmS i)) ∈ flatC (Jvm.Cond.and given_1 narrow_1))) i hi j hj hij with h | h
      · exact Or.inl (hs _ h)
      · exact Or.inr (hs _ h)) hnA
  refine ⟨adK, adV, ⟨⟨va_AO.of (C := RX9) (hts _ (List.mem_of_getElem? (i := 472) (by decide +kernel))), va_AO.of (C := RX6) (hts _ (List.mem_of_getElem? (i := 549) (by decide +kernel))), va_AOA.of (hts _ (List.mem_of_getElem? (i := 800) (by decide +kernel))), va_Nw.of rfl (hts _ (List.mem_of_getElem? (i := 1902) (by decide +kernel)))⟩, ⟨vk_R.of (hts _ (List.mem_of_getElem? (i := 227) (by decide +kernel))) (hT 0 (by decide)), vk_R.of (hts _ (List.mem_of_getElem? (i := 284) (by decide +kernel))) (hT 1 (by decide))⟩, hS, va_Zof (hts _ (List.mem_of_getElem? (i := 241) (by decide +kernel))) (hts _ (List.mem_of_getElem? (i := 185) (by decide +kernel))) (va_eqi (hs _ (by decide +kernel))) hnA, va_Zqof (hts _ (List.mem_of_getElem? (i := 257) (by decide +kernel))) (hts _ (List.mem_of_getElem? (i := 187) (by decide +kernel))) (hs _ (by decide +kernel)) hnA, va_Zqof (hts _ (List.mem_of_getElem? (i := 1863) (by decide +kernel))) (hts _ (List.mem_of_getElem? (i := 199) (by decide +kernel))) (hs _ (by decide +kernel)) hnA, va_Zqof (hts _ (List.mem_of_getElem? (i := 1865) (by decide +kernel))) (hts _ (List.mem_of_getElem? (i := 199) (by decide +kernel))) (hs _ (by decide +kernel)) hnA⟩⟩
def tmP (i : Nat) : Term := if i = 0 then .string RX8 33 else if i = 1 then .string RX8 39 else if i = 2 then .string RX8 93 else .string RX14 109
theorem strP_el : ∀ i, i < 4 → ∀ j, j < lenP.getD i 0 → Cond.eq (.elem (.field (tmP i) "java/lang/String" "value" "[B") (.int (Int32.ofNat j))) (.int ((bytP.getD i []).getD j 0)) ∈ flatC (Jvm.Cond.and given_1 narrow_1) := by decide +kernel
theorem law_ap {args : Array Value} {s : State} {A : Nat → Prop} (hts : ∀ w ∈ lw_tbl, w.before args s = true) (hgv : (Jvm.Cond.and given_1 narrow_1).before args s = true) (hnA : ∀ a : Nat, a < s.heap.size → ¬ A a) : ∃ adK adV : Nat → Nat, ap_ adK adV A s s.heap := by
  have hs := flat_of_before _ hgv
  obtain ⟨adK, adV, hS, hT⟩ := vk_Sof (args := args) (s := s) (N := 4) (tm := tmP) (len := lenP) (byt := bytP) (A := A) (by decide)
    (fun i hi => hs _ (show Cond.exactly (tmP i) "java/lang/String" ∈ flatC (Jvm.Cond.and given_1 narrow_1) from (by decide +kernel : ∀ i, i < 4 → Cond.exactly (tmP i) "java/lang/String" ∈ flatC (Jvm.Cond.and given_1 narrow_1)) i hi))
    (fun i hi => hs _ ((by decide +kernel : ∀ i, i < 4 → Cond.eq (.field (tmP i) "java/lang/String" "coder" "B") (.int 0) ∈ flatC (Jvm.Cond.and given_1 narrow_1)) i hi))
    (fun i hi => hs _ ((by decide +kernel : ∀ i, i < 4 → Cond.arrayOf (.field (tmP i) "java/lang/String" "value" "[B") .byte ∈ flatC (Jvm.Cond.and given_1 narrow_1)) i hi))
    (fun i hi => hs _ ((by decide +kernel : ∀ i, i < 4 → Cond.eq (.length (.field (tmP i) "java/lang/String" "value" "[B")) (.int (Int32.ofNat (lenP.getD i 0))) ∈ flatC (Jvm.Cond.and given_1 narrow_1)) i hi))
    (fun i hi j hj => hs _ (strP_el i hi j hj))
    (fun i j hi hj hij => by
      rcases (by decide +kernel : ∀ i, i < 4 → ∀ j, j < 4 → i ≠ j → (Cond.not (Cond.eq (tmP i) (tmP j)) ∈ flatC (Jvm.Cond.and given_1 narrow_1) ∨ Cond.not (Cond.eq (tmP j) (tmP i)) ∈ flatC (Jvm.Cond.and given_1 narrow_1))) i hi j hj hij with h | h
      · exact Or.inl (hs _ h)
      · exact Or.inr (hs _ h)) hnA
  refine ⟨adK, adV, ⟨⟨vk_R.of (hts _ (List.mem_of_getElem? (i := 1024) (by decide +kernel))) (hT 2 (by decide)), vk_R.of (hts _ (List.mem_of_getElem? (i := 2378) (by decide +kernel))) (hT 3 (by decide)), va_Nw.of rfl (hts _ (List.mem_of_getElem? (i := 1838) (by decide +kernel)))⟩, hS, va_Zof (hts _ (List.mem_of_getElem? (i := 241) (by decide +kernel))) (hts _ (List.mem_of_getElem? (i := 185) (by decide +kernel))) (va_eqi (hs _ (by decide +kernel))) hnA, va_Zqof (hts _ (List.mem_of_getElem? (i := 257) (by decide +kernel))) (hts _ (List.mem_of_getElem? (i := 187) (by decide +kernel))) (hs _ (by decide +kernel)) hnA⟩⟩
