section KIH
variable {V V1 : PV} {δ : Nat → Nat} {k m o h : Nat} {x y z had : Int32}
/-- a member more, m, of class o: some place of the class holds it now -/
theorem KI.has (hK : KI V δ o) (hm : (V.n 27).toInt = (m : Int)) (hi : ∀ j, j ≠ 14 → j ≠ 15 → V1.i j = V.i j) (hl : ∀ j, V1.l j = V.l j) (hz : ∀ j, j ≠ 27 → V1.n j = V.n j) (h27 : (V1.n 27).toInt = (m : Int) + 1) (h110 : m + 1 ≤ 110)
    (h14 : ∀ c : Nat, c ≠ o → ∀ k : Nat, (k : Int) < (V.i 15 c).toInt → V1.i 14 (12 * c + k) = V.i 14 (12 * c + k)) (h15 : ∀ c, c ≠ o → V1.i 15 c = V.i 15 c) (hf : ∀ a b, fnd V o a b → fnd V1 o a b)
    (hs : ∀ k : Nat, (k : Int) < (V1.i 15 o).toInt → (V1.i 14 (12 * o + k)).toNatClampNeg = m ∨ ∃ j : Nat, (j : Int) < (V.i 15 o).toInt ∧ V1.i 14 (12 * o + k) = V.i 14 (12 * o + j))
    (hc : (m : Int) + 1 ≤ 12 * (o : Int) + (cMc V1 o (V1.i 15 o).toNatClampNeg : Int)) (hmc : (V.i 18 m).toNatClampNeg = o) (hmk : (V.i 22 m).toInt = 0) (hmb : (V.i 23 m).toInt = -1)
    (hpr : ∀ k : Nat, (k : Int) < (V.i 19 m).toInt → (V.i 20 (3 * m + k)).toInt ≤ (V.i 21 (3 * m + k)).toInt) : KI V1 δ o := by
  obtain ⟨⟨w1, w2, w3, w4, w5, w6, w7, w8⟩, x1, x2, x3⟩ := hK
  have ho : (o : Int) < (V.n 0).toInt := by omega
  have hf0 : ∀ (c : Nat) (a b : Int64), c ≠ o → (fnd V1 c a b ↔ fnd V c a b) := fun c a b hc => by
    unfold fnd
    rw [h15 c hc, hl, hl]
    constructor
    · rintro ⟨k, q1, q2, q3⟩
      rw [h14 c hc k q1] at q2 q3
      exact ⟨k, q1, q2, q3⟩
    · rintro ⟨k, q1, q2, q3⟩
      refine ⟨k, q1, ?_, ?_⟩
      · rw [h14 c hc k q1]
        exact q2
      · rw [h14 c hc k q1]
        exact q3
  have hf1 : ∀ (c : Nat) (a b : Int64), fnd V c a b → fnd V1 c a b := fun c a b q => by
    by_cases hco : c = o
    · rw [hco] at q ⊢
      exact hf a b q
    · exact (hf0 c a b hco).mpr q
  have hII : ∀ c d : Nat, d ≤ c → c ≤ o → II V c d → II V1 c d := fun c d hdc hco q => by
    refine ⟨by rw [hi 4 (by decide) (by decide)]; exact q.1, fun a b q2 => ?_⟩
    by_cases hdo : d = o
    · have : c = o := by omega
      rw [this]
      rw [hdo] at q2
      exact q2
    · exact hf1 c a b (q.2 a b ((hf0 d a b hdo).mp q2))
  have hE : ∀ z h d, EV V z h d → EV V1 z h d := fun z h d q => by
    unfold EV at q ⊢
    rw [hi 51 (by decide) (by decide), hi 54 (by decide) (by decide), hz 57 (by decide)]
    exact q
  have hT : ∀ z b m, TS V δ z b m → TS V1 δ z b m := fun z b m q => by
    unfold TS at q ⊢
    rw [hi 42 (by decide) (by decide), hz 46 (by decide)]
    exact q
  have hv : ∀ v d, varOK V v d → varOK V1 v d := fun v d q => by
    unfold varOK at q ⊢
    rw [hi 4 (by decide) (by decide)]
    exact q
  refine ⟨⟨fun n h => ?_, fun s h => ?_, fun c h => ?_, fun m' h => ?_, by rw [hz 57 (by decide)]; exact w5, by rw [hz 46 (by decide)]; exact w6, by omega, by rw [hz 0 (by decide)]; exact w8⟩, fun c h k hk => ?_, by rw [h27]; exact hc, by rw [hz 0 (by decide)]; exact x3⟩
  · rw [hz 57 (by decide)] at h
    obtain ⟨a1, a2, a3, a4, a5, a6, a7, a8, a9, a10, a11⟩ := w1 n h
    unfold nodeOK
    rw [hi 51 (by decide) (by decide), hi 54 (by decide) (by decide), hi 47 (by decide) (by decide), hi 50 (by decide) (by decide), hi 48 (by decide) (by decide), hi 52 (by decide) (by decide), hi 53 (by decide) (by decide), hi 3 (by decide) (by decide), hi 49 (by decide) (by decide), hl, hl, hz 0 (by decide)]
    exact ⟨a1, a2, a3, fun q => ⟨hv _ _ (a4 q).1, (a4 q).2.imp id (hE _ _ _)⟩, fun q => ⟨(a5 q).1, fun k hk => hE _ _ _ ((a5 q).2 k hk)⟩, fun q => hf1 _ _ _ (a6 q), fun q => ⟨(a7 q).1, hf1 _ _ _ (a7 q).2⟩, fun q => ⟨hE _ _ _ (a8 q).1, (a8 q).2⟩, a9, fun q => hE _ _ _ (a10 q), fun q => hE _ _ _ (a11 q)⟩
  · rw [hz 46 (by decide)] at h
    obtain ⟨a1, a2, a3, a4, a5, a6, a7, a8, a9, a10⟩ := w2 s h
    unfold stOK
    rw [hi 34 (by decide) (by decide), hi 35 (by decide) (by decide), hi 36 (by decide) (by decide), hi 37 (by decide) (by decide), hi 38 (by decide) (by decide), hi 39 (by decide) (by decide), hi 40 (by decide) (by decide), hi 41 (by decide) (by decide), hi 42 (by decide) (by decide), hi 18 (by decide) (by decide), hi 47 (by decide) (by decide)]
    exact ⟨a1, a2, by omega, hT _ _ _ a4, a5, fun q => ⟨hv _ _ (a6 q).1, (a6 q).2.imp id (hE _ _ _)⟩, fun q => hE _ _ _ (a7 q), fun q => hT _ _ _ (a8 q), fun q => hT _ _ _ (a9 q), fun q => ⟨hE _ _ _ (a10 q).1, (a10 q).2⟩⟩
  · rw [hz 0 (by decide)] at h
    obtain ⟨a1, a2, a3, a4⟩ := w3 c h
    unfold claOK
    rw [hi 3 (by decide) (by decide), hi 18 (by decide) (by decide), hi 4 (by decide) (by decide), hi 9 (by decide) (by decide), hi 8 (by decide) (by decide), hi 13 (by decide) (by decide), hi 11 (by decide) (by decide)]
    refine ⟨a1.imp id (fun q => ⟨q.1, q.2.1, hII _ _ ?_ (by omega) q.2.2⟩), fun k hk => ?_, a3, fun k hk => hE _ _ _ (a4 k hk)⟩
    · have := tnZ q.1
      omega
    · by_cases hco : c = o
      · subst hco
        rcases hs k hk with q | ⟨j, q1, q2⟩
        · rw [q, hmc]
          exact ⟨by omega, II.rf⟩
        · rw [q2]
          have q3 := a2 j q1
          exact ⟨by omega, hII _ _ (x1 c h j q1) (Nat.le_refl _) q3.2⟩
      · rw [h15 c hco] at hk
        rw [h14 c hco k hk]
        have q3 := a2 k hk
        exact ⟨by omega, hII _ _ (x1 c h k hk) (by omega) q3.2⟩
  · rw [h27] at h
    unfold memOK
    rw [hi 18 (by decide) (by decide), hi 23 (by decide) (by decide), hi 22 (by decide) (by decide), hi 28 (by decide) (by decide), hi 29 (by decide) (by decide), hi 19 (by decide) (by decide), hi 20 (by decide) (by decide), hi 21 (by decide) (by decide), hz 0 (by decide)]
    by_cases hmm : m' = m
    · subst hmm
      exact ⟨by rw [hmc]; exact ho, Or.inl hmb, fun k hk => by omega, hpr⟩
    · obtain ⟨a1, a2, a3, a4⟩ := w4 m' (by omega)
      exact ⟨a1, hT _ _ _ a2, fun k hk => ⟨fun q => hE _ _ _ ((a3 k hk).1 q), fun q => ((a3 k hk).2 q).imp id (hE _ _ _)⟩, a4⟩
  · rw [hz 0 (by decide)] at h
    rw [hi 18 (by decide) (by decide)]
    by_cases hco : c = o
    · subst hco
      rcases hs k hk with q | ⟨j, q1, q2⟩
      · rw [q, hmc]
        exact Nat.le_refl _
      · rw [q2]
        exact x1 c h j q1
    · rw [h15 c hco] at hk
      rw [h14 c hco k hk]
      exact x1 c h k hk
/-- a new name: a place more -/
theorem KI.addA (hK : KI V δ o) (hb : ∀ c, c < 9 → (V.i 15 c).toInt ≤ 12) (ho : o < 8) (hh : (V.i 15 o).toInt = (h : Int)) (h12 : h < 12) (hm : (V.n 27).toInt = (m : Int)) (hz : z.toInt = (m : Int) + 1) (hx : x.toNatClampNeg = m) (hk : k = 12 * o + h) (hy : y.toInt = (h : Int) + 1)
    (hmc : (V.i 18 m).toNatClampNeg = o) (hmk : (V.i 22 m).toInt = 0) (hmb : (V.i 23 m).toInt = -1) (hpr : ∀ k : Nat, (k : Int) < (V.i 19 m).toInt → (V.i 20 (3 * m + k)).toInt ≤ (V.i 21 (3 * m + k)).toInt) : KI (((V.un 27 z).ui 14 k x).ui 15 o y) δ o := by
  have x2 := hK.2.2.1
  have hn0 := hK.2.2.2
  have e14 : ∀ j, (((V.un 27 z).ui 14 k x).ui 15 o y).i 14 j = (V.ui 14 k x).i 14 j := fun j => ui_ne (Or.inl (by decide))
  have e15 : (((V.un 27 z).ui 14 k x).ui 15 o y).i 15 o = y := ui_same
  have ey : y.toNatClampNeg = h + 1 := by
    have := tnZ (i := y) (by omega)
    omega
  have eh : (V.i 15 o).toNatClampNeg = h := by
    have := tnZ (i := V.i 15 o) (by omega)
    omega
  have es : ∀ j : Nat, j < h → (((V.un 27 z).ui 14 k x).ui 15 o y).i 14 (12 * o + j) = V.i 14 (12 * o + j) := fun j hj => (e14 _).trans (ui_ne (Or.inr (by omega)))
  have el : (((V.un 27 z).ui 14 k x).ui 15 o y).i 14 (12 * o + h) = x := by rw [e14, ← hk, ui_same]
  have hc : cMc (((V.un 27 z).ui 14 k x).ui 15 o y) o (h + 1) = cMc V o h + 1 := by
    show cMc _ o h + (if _ then 1 else 0) = _
    rw [cMc_cg (V := V) (fun j hj => by rw [es j hj]; rfl), el, hx]
    rw [if_pos (show ((((V.un 27 z).ui 14 k x).ui 15 o y).i 18 m).toNatClampNeg = o from hmc)]
  have hcl := cMc_le (V := V) (c := o) (k := h)
  refine hK.has hm (fun j q r => (ui_row r).trans (ui_row q)) (fun _ => rfl) (fun j q => un_ne q) (by show ((V.un 27 z).n 27).toInt = _; rw [un_same]; exact hz) (by rw [eh] at x2; omega) (fun c hco k' hk' => ?_) (fun c hco => ui_ne (Or.inr hco)) (fun a b q => ?_) (fun k' hk' => ?_) ?_ hmc hmk hmb hpr
  · refine (e14 _).trans (ui_ne (Or.inr ?_))
    by_cases h9 : c < 9
    · have := hb c h9
      omega
    · omega
  · obtain ⟨j, q1, q2, q3⟩ := q
    refine ⟨j, by rw [e15]; omega, ?_, ?_⟩
    · rw [es j (by omega)]
      exact q2
    · rw [es j (by omega)]
      exact q3
  · rw [e15] at hk'
    by_cases hkh : k' = h
    · exact Or.inl (by rw [hkh, el, hx])
    · exact Or.inr ⟨k', by omega, es k' (by omega)⟩
  · rw [e15, ey, hc]
    rw [eh] at x2
    omega
/-- places of had hold m now, up to the place b -/
def repl (V V1 : PV) (o b m : Nat) (had : Int32) : Prop := (∀ j, j ≠ 14 → V1.i j = V.i j) ∧ (∀ j, V1.l j = V.l j) ∧ (∀ j, V1.n j = V.n j) ∧ ∀ j : Nat, (12 * o ≤ j ∧ j < b ∧ V.i 14 j = had → (V1.i 14 j).toNatClampNeg = m) ∧ (¬ (12 * o ≤ j ∧ j < b ∧ V.i 14 j = had) → V1.i 14 j = V.i 14 j)
theorem repl.zero : repl V V o (12 * o) m had := ⟨fun _ _ => rfl, fun _ => rfl, fun _ => rfl, fun j => ⟨fun q => by omega, fun _ => rfl⟩⟩
theorem repl.yes {b : Nat} (hR : repl V V1 o b m had) (h0 : 12 * o ≤ b) (he : V1.i 14 b = had) (hx : x.toNatClampNeg = m) : repl V (V1.ui 14 b x) o (b + 1) m had := by
  obtain ⟨r1, r2, r3, r4⟩ := hR
  have hb : V.i 14 b = had := by rw [← (r4 b).2 (fun q => by omega)]; exact he
  refine ⟨fun j q => (ui_row q).trans (r1 j q), r2, r3, fun j => ?_⟩
  by_cases hj : j = b
  · subst hj
    rw [ui_same]
    exact ⟨fun _ => hx, fun q => absurd ⟨h0, by omega, hb⟩ q⟩
  · rw [ui_ne (Or.inr hj)]
    exact ⟨fun q => (r4 j).1 ⟨q.1, by omega, q.2.2⟩, fun q => (r4 j).2 (fun q2 => q ⟨q2.1, by omega, q2.2.2⟩)⟩
theorem repl.no {b : Nat} (hR : repl V V1 o b m had) (h0 : 12 * o ≤ b) (he : V1.i 14 b ≠ had) : repl V V1 o (b + 1) m had := by
  obtain ⟨r1, r2, r3, r4⟩ := hR
  refine ⟨r1, r2, r3, fun j => ⟨fun q => (r4 j).1 ⟨q.1, ?_, q.2.2⟩, fun q => (r4 j).2 (fun q2 => q ⟨q2.1, by omega, q2.2.2⟩)⟩⟩
  by_cases hj : j = b
  · subst hj
    rw [(r4 j).2 (fun q => by omega)] at he
    exact absurd q.2.2 he
  · omega
theorem repl_c {b : Nat} (hR : repl V V1 o b m had) (hb : 12 * o + k ≤ b) (hmc : (V.i 18 m).toNatClampNeg = o) (hhc : (V.i 18 had.toNatClampNeg).toNatClampNeg ≠ o) : cMc V o k ≤ cMc V1 o k ∧ ((∃ j, j < k ∧ V.i 14 (12 * o + j) = had) → cMc V o k + 1 ≤ cMc V1 o k) := by
  obtain ⟨r1, r2, r3, r4⟩ := hR
  have i18 := r1 18 (by decide)
  induction k with
  | zero => exact ⟨Nat.le_refl _, fun ⟨j, h1, _⟩ => by omega⟩
  | succ k ih =>
    obtain ⟨g1, g2⟩ := ih (by omega)
    show cMc V o k + (if _ then 1 else 0) ≤ cMc V1 o k + (if _ then 1 else 0) ∧ (_ → cMc V o k + (if _ then 1 else 0) + 1 ≤ cMc V1 o k + (if _ then 1 else 0))
    by_cases hk : V.i 14 (12 * o + k) = had
    · have e1 := (r4 (12 * o + k)).1 ⟨by omega, by omega, hk⟩
      rw [if_neg (show ¬ (V.i 18 (V.i 14 (12 * o + k)).toNatClampNeg).toNatClampNeg = o by rw [hk]; exact hhc), if_pos (show (V1.i 18 (V1.i 14 (12 * o + k)).toNatClampNeg).toNatClampNeg = o by rw [e1, i18]; exact hmc)]
      exact ⟨by omega, fun _ => by omega⟩
    · have e1 := (r4 (12 * o + k)).2 (fun q => hk q.2.2)
      rw [e1, i18]
      refine ⟨by split <;> omega, fun ⟨j, h1, h2⟩ => ?_⟩
      have hjk : j ≠ k := fun q => hk (by rw [← q]; exact h2)
      have := g2 ⟨j, by omega, h2⟩
      split <;> omega
/-- a name that the class has from above: the places of had -/
theorem KI.addB {b : Nat} (hK : KI V δ o) (hb9 : ∀ c, c < 9 → (V.i 15 c).toInt ≤ 12) (ho : o < 8) (hh : (V.i 15 o).toInt = (h : Int)) (hb : b = 12 * o + h) (hm : (V.n 27).toInt = (m : Int)) (hz : z.toInt = (m : Int) + 1) (hR : repl (V.un 27 z) V1 o b m had)
    (hfd : ∃ j, j < h ∧ V.i 14 (12 * o + j) = had) (hna : V.l 16 had.toNatClampNeg = V.l 16 m) (hnb : V.l 17 had.toNatClampNeg = V.l 17 m) (hhc : (V.i 18 had.toNatClampNeg).toNatClampNeg ≠ o)
    (hmc : (V.i 18 m).toNatClampNeg = o) (hmk : (V.i 22 m).toInt = 0) (hmb : (V.i 23 m).toInt = -1) (hpr : ∀ k : Nat, (k : Int) < (V.i 19 m).toInt → (V.i 20 (3 * m + k)).toInt ≤ (V.i 21 (3 * m + k)).toInt) : KI V1 δ o := by
  have x2 := hK.2.2.1
  have eh : (V.i 15 o).toNatClampNeg = h := by
    have := tnZ (i := V.i 15 o) (by omega)
    omega
  have hc := (repl_c (V := V.un 27 z) (k := h) hR (by omega) hmc hhc).2 hfd
  have hc1 : cMc (V.un 27 z) o h = cMc V o h := cMc_cg (fun _ _ => rfl)
  rw [hc1] at hc
  obtain ⟨r1, r2, r3, r4⟩ := hR
  have hcl := cMc_le (V := V1) (c := o) (k := h)
  have h12 := hb9 o (by omega)
  have e15 : V1.i 15 = V.i 15 := r1 15 (by decide)
  rw [eh] at x2
  refine hK.has hm (fun j q _ => r1 j q) r2 (fun j q => (r3 j).trans (un_ne q)) (by rw [r3 27, un_same]; exact hz) (by omega) (fun c hco k' hk' => ?_) (fun c _ => by rw [e15]) (fun a b' q => ?_) (fun k' hk' => ?_) ?_ hmc hmk hmb hpr
  · refine (r4 _).2 (fun q => ?_)
    by_cases h9 : c < 9
    · have := hb9 c h9
      omega
    · omega
  · obtain ⟨j, q1, q2, q3⟩ := q
    by_cases hj : V.i 14 (12 * o + j) = had
    · have e1 := (r4 (12 * o + j)).1 ⟨by omega, by omega, hj⟩
      refine ⟨j, by rw [e15]; exact q1, ?_, ?_⟩
      · rw [e1, r2]
        show V.l 16 m = a
        rw [← hna, ← hj]
        exact q2
      · rw [e1, r2]
        show V.l 17 m = b'
        rw [← hnb, ← hj]
        exact q3
    · have e1 := (r4 (12 * o + j)).2 (fun q => hj q.2.2)
      refine ⟨j, by rw [e15]; exact q1, ?_, ?_⟩
      · rw [e1, r2]
        exact q2
      · rw [e1, r2]
        exact q3
  · rw [e15] at hk'
    by_cases hj : V.i 14 (12 * o + k') = had
    · exact Or.inl ((r4 (12 * o + k')).1 ⟨by omega, by omega, hj⟩)
    · exact Or.inr ⟨k', hk', (r4 (12 * o + k')).2 (fun q => hj q.2.2)⟩
  · rw [e15, eh]
    omega
end KIH
