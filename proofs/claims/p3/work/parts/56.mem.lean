section KIM
variable {V V1 : PV} {δ : Nat → Nat} {k m j o : Nat} {x y : Int32} {w : Int64}
/-- a member that isn't counted yet: what is written for it -/
theorem KI.new_ (hK : KI V δ o) (hj : j = 19 ∨ j = 18 ∨ j = 22 ∨ j = 23) (hm : (V.n 27).toInt ≤ (m : Int)) : KI (V.ui j m x) δ o := by
  obtain ⟨⟨w1, w2, w3, w4, w5, w6, w7, w8⟩, x1, x2, x3⟩ := hK
  have hn : ∀ j', j' ≠ j → (V.ui j m x).i j' = V.i j' := fun j' q => ui_row q
  have he : ∀ j' m' : Nat, (m' : Int) < (V.n 27).toInt → (V.ui j m x).i j' m' = V.i j' m' := fun j' m' q => ui_ne (Or.inr (by omega))
  have h14 : (V.ui j m x).i 14 = V.i 14 := hn 14 (by omega)
  have h15 : (V.ui j m x).i 15 = V.i 15 := hn 15 (by omega)
  have hII : ∀ c d, II (V.ui j m x) c d ↔ II V c d := fun c d => by
    unfold II fnd
    rw [hn 4 (by omega), h14, h15]
    exact Iff.rfl
  have hE : ∀ z h d, EV (V.ui j m x) z h d ↔ EV V z h d := fun z h d => by
    unfold EV
    rw [hn 51 (by omega), hn 54 (by omega)]
    exact Iff.rfl
  have hT : ∀ z b q, TS (V.ui j m x) δ z b q ↔ TS V δ z b q := fun z b q => by
    unfold TS
    rw [hn 42 (by omega)]
    exact Iff.rfl
  refine ⟨⟨fun n h => (no_cg (nrm_ui (by rcases hj with rfl | rfl | rfl | rfl <;> decide))).mpr (w1 n h), fun s h => ?_, fun c h => ?_, fun m' h => ?_, w5, w6, w7, w8⟩, fun c h k' hk' => ?_, ?_, x3⟩
  · obtain ⟨a1, a2, a3, a4, a5, a6, a7, a8, a9, a10⟩ := w2 s h
    unfold stOK varOK
    rw [hn 34 (by omega), hn 35 (by omega), hn 36 (by omega), hn 37 (by omega), hn 38 (by omega), hn 39 (by omega), hn 40 (by omega), hn 41 (by omega), hn 42 (by omega), hn 47 (by omega), hn 4 (by omega), he 18 _ a3]
    exact ⟨a1, a2, a3, (hT _ _ _).mpr a4, a5, fun q => ⟨(a6 q).1, (a6 q).2.imp id (hE _ _ _).mpr⟩, fun q => (hE _ _ _).mpr (a7 q), fun q => (hT _ _ _).mpr (a8 q), fun q => (hT _ _ _).mpr (a9 q), fun q => ⟨(hE _ _ _).mpr (a10 q).1, (a10 q).2⟩⟩
  · obtain ⟨a1, a2, a3, a4⟩ := w3 c h
    unfold claOK
    rw [hn 3 (by omega), h15, h14, hn 4 (by omega), hn 9 (by omega), hn 8 (by omega), hn 13 (by omega), hn 11 (by omega)]
    exact ⟨a1.imp id (fun q => ⟨q.1, q.2.1, (hII _ _).mpr q.2.2⟩), fun k hk => ⟨(a2 k hk).1, by rw [he 18 _ (a2 k hk).1]; exact (hII _ _).mpr (a2 k hk).2⟩, a3, fun k hk => (hE _ _ _).mpr (a4 k hk)⟩
  · have h : (m' : Int) < (V.n 27).toInt := h
    obtain ⟨a1, a2, a3, a4⟩ := w4 m' h
    unfold memOK
    rw [he 18 m' h, he 23 m' h, he 22 m' h, he 19 m' h, hn 28 (by omega), hn 29 (by omega), hn 20 (by omega), hn 21 (by omega)]
    exact ⟨a1, (hT _ _ _).mpr a2, fun k hk => ⟨fun q => (hE _ _ _).mpr ((a3 k hk).1 q), fun q => ((a3 k hk).2 q).imp id (hE _ _ _).mpr⟩, a4⟩
  · rw [h15] at hk'
    rw [h14, he 18 _ ((w3 c h).2.1 k' hk').1]
    exact x1 c h k' hk'
  · have x3' : (o : Int) < (V.n 0).toInt := by omega
    rw [h15]
    by_cases h0 : (V.i 15 o).toInt < 0
    · have hz : (V.i 15 o).toNatClampNeg = 0 := by
        have h9 : (V.i 15 o).toNatClampNeg = (V.i 15 o).toInt.toNat := rfl
        omega
      rw [hz] at x2 ⊢
      exact x2
    · have t0 := tnZ (i := V.i 15 o) (by omega)
      rw [cMc_cg (V := V) (fun j' hj' => by rw [h14, he 18 _ ((w3 o x3').2.1 j' (by omega)).1])]
      exact x2
theorem KI.par (hK : KI V δ o) (hj : j = 20 ∨ j = 21) (hb : ∀ m, m < 110 → (V.i 19 m).toInt ≤ 3) (hk : 3 * (V.n 27).toInt ≤ (k : Int)) : KI (V.ui j k x) δ o := by
  obtain ⟨⟨w1, w2, w3, w4, w5, w6, w7, w8⟩, x1, x2, x3⟩ := hK
  have hn : ∀ j', j' ≠ j → (V.ui j k x).i j' = V.i j' := fun j' q => ui_row q
  refine ⟨⟨fun n h => (no_cg (nrm_ui (by rcases hj with rfl | rfl <;> decide))).mpr (w1 n h), fun s h => (st_cg (nrm_ui (by rcases hj with rfl | rfl <;> decide))).mpr (w2 s h), fun c h => (cl_cg (nrm_ui (by rcases hj with rfl | rfl <;> decide))).mpr (w3 c h), fun m h => ?_, w5, w6, w7, w8⟩, fun c h k' hk' => ?_, ?_, x3⟩
  · have h : (m : Int) < (V.n 27).toInt := h
    obtain ⟨a1, a2, a3, a4⟩ := w4 m h
    have h9 := hb m (by omega)
    unfold memOK TS EV
    rw [hn 18 (by omega), hn 23 (by omega), hn 42 (by omega), hn 22 (by omega), hn 51 (by omega), hn 54 (by omega), hn 19 (by omega), hn 28 (by omega), hn 29 (by omega)]
    refine ⟨a1, a2, a3, fun k' hk' => ?_⟩
    rw [show (V.ui j k x).i 20 (3 * m + k') = V.i 20 (3 * m + k') from ui_ne (Or.inr (by omega)), show (V.ui j k x).i 21 (3 * m + k') = V.i 21 (3 * m + k') from ui_ne (Or.inr (by omega))]
    exact a4 k' hk'
  · rw [hn 15 (by omega)] at hk'
    rw [hn 18 (by omega), hn 14 (by omega)]
    exact x1 c h k' hk'
  · rw [hn 15 (by omega), cMc_ui (by omega) (by omega)]
    exact x2
/-- the names of a member that isn't counted yet -/
theorem KI.nam (hK : KI V δ o) (hj : j = 16 ∨ j = 17) (hm : (V.n 27).toInt ≤ (m : Int)) : KI (V.ul j m w) δ o := by
  obtain ⟨⟨w1, w2, w3, w4, w5, w6, w7, w8⟩, x1, x2, x3⟩ := hK
  have hl : ∀ j', j' ≠ j → (V.ul j m w).l j' = V.l j' := fun j' q => ul_row q
  have hf : ∀ (c : Nat) (a b : Int64), (c : Int) < (V.n 0).toInt → (fnd (V.ul j m w) c a b ↔ fnd V c a b) := fun c a b hc => by
    unfold fnd
    constructor
    · rintro ⟨k, h1, h2, h3⟩
      have h4 := ((w3 c hc).2.1 k h1).1
      refine ⟨k, h1, ?_, ?_⟩
      · rw [← h2]
        exact (ul_ne (Or.inr (by show (V.i 14 (12 * c + k)).toNatClampNeg ≠ m; omega))).symm
      · rw [← h3]
        exact (ul_ne (Or.inr (by show (V.i 14 (12 * c + k)).toNatClampNeg ≠ m; omega))).symm
    · rintro ⟨k, h1, h2, h3⟩
      have h4 := ((w3 c hc).2.1 k h1).1
      refine ⟨k, h1, ?_, ?_⟩
      · rw [← h2]
        exact ul_ne (Or.inr (by show (V.i 14 (12 * c + k)).toNatClampNeg ≠ m; omega))
      · rw [← h3]
        exact ul_ne (Or.inr (by show (V.i 14 (12 * c + k)).toNatClampNeg ≠ m; omega))
  have hII : ∀ c d : Nat, (c : Int) < (V.n 0).toInt → (d : Int) < (V.n 0).toInt → II V c d → II (V.ul j m w) c d := fun c d hc hd h => ⟨h.1, fun a b q => (hf c a b hc).mpr (h.2 a b ((hf d a b hd).mp q))⟩
  refine ⟨⟨fun n h => ?_, w2, fun c h => ?_, w4, w5, w6, w7, w8⟩, x1, ?_, x3⟩
  · obtain ⟨a1, a2, a3, a4, a5, a6, a7, a8, a9, a10, a11⟩ := w1 n h
    unfold nodeOK
    rw [hl 55 (by omega), hl 56 (by omega)]
    refine ⟨a1, a2, a3, a4, a5, fun q => (hf _ _ _ a3).mpr (a6 q), fun q => ⟨(a7 q).1, (hf _ _ _ ?_).mpr (a7 q).2⟩, a8, a9, a10, a11⟩
    have h0 := (a7 q).1
    have t0 := tnZ h0
    show (((V.i 3 (V.i 54 n).toNatClampNeg).toNatClampNeg : Nat) : Int) < (V.n 0).toInt
    have h0 : 0 ≤ (V.i 3 (V.i 54 n).toNatClampNeg).toInt := h0
    have t0 := tnZ h0
    rcases (w3 _ a3).1 with h1 | ⟨h1, h2, -⟩
    · omega
    · omega
  · have h : (c : Int) < (V.n 0).toInt := h
    obtain ⟨a1, a2, a3, a4⟩ := w3 c h
    refine ⟨a1.imp id (fun q => ⟨q.1, q.2.1, hII _ _ h ?_ q.2.2⟩), fun k hk => ⟨(a2 k hk).1, hII _ _ h ?_ (a2 k hk).2⟩, a3, a4⟩
    · show (((V.i 3 c).toNatClampNeg : Nat) : Int) < (V.n 0).toInt
      have h1 : 0 ≤ (V.i 3 c).toInt := q.1
      have h2 : (V.i 3 c).toInt < (c : Int) := q.2.1
      have := tnZ h1
      omega
    · show (((V.i 18 (V.i 14 (12 * c + k)).toNatClampNeg).toNatClampNeg : Nat) : Int) < (V.n 0).toInt
      have := x1 c h k hk
      omega
  · have e : cMc (V.ul j m w) o (V.i 15 o).toNatClampNeg = cMc V o (V.i 15 o).toNatClampNeg := cMc_cg (fun _ _ => rfl)
    show (V.n 27).toInt ≤ 12 * (o : Int) + ((cMc (V.ul j m w) o (V.i 15 o).toNatClampNeg : Nat) : Int)
    rw [e]
    exact x2
end KIM
/-- a parameter more of member m -/
def prP (V V1 : PV) (m : Nat) (pa : Int32) : Prop := (V1.i 19 m).toInt = pa.toInt + 1 ∧ (∀ k : Nat, (k : Int) < (V1.i 19 m).toInt → (V1.i 20 (3 * m + k)).toInt ≤ (V1.i 21 (3 * m + k)).toInt) ∧ (∀ j, V1.n j = V.n j) ∧ (∀ j, j ≠ 19 → j ≠ 20 → j ≠ 21 → V1.i j = V.i j) ∧ (∀ j, V1.l j = V.l j)
theorem prP.of {V : PV} {m k : Nat} {pa z r v : Int32} (hlh : ∀ k : Nat, (k : Int) < pa.toInt → (V.i 20 (3 * m + k)).toInt ≤ (V.i 21 (3 * m + k)).toInt) (h0 : 0 ≤ pa.toInt) (hz : z.toInt = pa.toInt + 1) (hk : k = 3 * m + pa.toNatClampNeg) (h : r.toInt ≤ v.toInt) : prP V (((V.ui 20 k r).ui 21 k v).ui 19 m z) m pa := by
  have t0 := tnZ h0
  refine ⟨by rw [ui_same]; exact hz, fun k' hk' => ?_, fun _ => rfl, fun j q r t => ?_, fun _ => rfl⟩
  · rw [ui_same] at hk'
    rw [show (((V.ui 20 k r).ui 21 k v).ui 19 m z).i 20 (3 * m + k') = (V.ui 20 k r).i 20 (3 * m + k') from rfl, show (((V.ui 20 k r).ui 21 k v).ui 19 m z).i 21 (3 * m + k') = ((V.ui 20 k r).ui 21 k v).i 21 (3 * m + k') from rfl]
    by_cases hkk : (k' : Int) < pa.toInt
    · rw [ui_ne (Or.inr (by omega)), ui_ne (Or.inr (by omega))]
      exact hlh k' hkk
    · have e : 3 * m + k' = k := by omega
      rw [e, ui_same, ui_same]
      exact h
  · rw [ui_row q, ui_row t, ui_row r]
