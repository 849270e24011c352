section HMS
variable {V V1 V2 : PV} {δ : Nat → Nat} {m o k h : Nat} {a b : Int64} {x y z w t0 u0 at0 had : Int32}
/-- a member's head is written at m, that isn't counted yet -/
def HM (V V1 : PV) (m o : Nat) (a b : Int64) : Prop := (V.n 27).toInt = (m : Int) ∧ (∀ j, V1.n j = V.n j) ∧ (∀ i, i ≠ m → V1.l 16 i = V.l 16 i ∧ V1.l 17 i = V.l 17 i ∧ V1.i 18 i = V.i 18 i) ∧ V1.l 16 m = a ∧ V1.l 17 m = b ∧ V1.i 14 = V.i 14 ∧ V1.i 15 = V.i 15 ∧ (V1.i 18 m).toNatClampNeg = o ∧ (V1.i 22 m).toInt = 0 ∧ (V1.i 23 m).toInt = -1 ∧ ∀ k : Nat, (k : Int) < (V1.i 19 m).toInt → (V1.i 20 (3 * m + k)).toInt ≤ (V1.i 21 (3 * m + k)).toInt
theorem HM.head (hm : (V.n 27).toInt = (m : Int)) (hx : x.toNatClampNeg = o) (hy : y.toInt = 0) (hz : z.toInt = 0) (hw : w.toInt = -1) : HM V ((((((((V.ul 16 m a).ul 17 m b).ui 18 m x).ui 19 m y).ui 22 m z).ui 24 m t0).ui 23 m w).ui 25 m at0) m o a b := by
  have e : ∀ {W : PV} {j i j2 i2 : Nat} {v : Int32}, j2 ≠ j ∨ i2 ≠ i → (W.ui j i v).i j2 i2 = W.i j2 i2 := fun q => ui_ne q
  have l6 : ∀ i, ((V.ul 16 m a).ul 17 m b).l 16 i = (V.ul 16 m a).l 16 i := fun i => ul_ne (Or.inl (by decide))
  refine ⟨hm, fun j => rfl, fun i hi => ⟨?_, ?_, ?_⟩, ?_, ?_, ?_, ?_, ?_, ?_, ?_, fun k hk => ?_⟩
  · exact (l6 i).trans (ul_ne (Or.inr hi))
  · exact (show ((V.ul 16 m a).ul 17 m b).l 17 i = (V.ul 16 m a).l 17 i from ul_ne (Or.inr hi)).trans (ul_ne (Or.inl (by decide)))
  · rw [e (Or.inl (by decide)), e (Or.inl (by decide)), e (Or.inl (by decide)), e (Or.inl (by decide)), e (Or.inl (by decide)), e (Or.inr hi)]
    rfl
  · exact (l6 m).trans ul_same
  · exact (show ((V.ul 16 m a).ul 17 m b).l 17 m = b from ul_same)
  · rw [ui_row (by decide), ui_row (by decide), ui_row (by decide), ui_row (by decide), ui_row (by decide), ui_row (by decide)]
    rfl
  · rw [ui_row (by decide), ui_row (by decide), ui_row (by decide), ui_row (by decide), ui_row (by decide), ui_row (by decide)]
    rfl
  · rw [e (Or.inl (by decide)), e (Or.inl (by decide)), e (Or.inl (by decide)), e (Or.inl (by decide)), e (Or.inl (by decide)), ui_same]
    exact hx
  · rw [e (Or.inl (by decide)), e (Or.inl (by decide)), e (Or.inl (by decide)), ui_same]
    exact hz
  · rw [e (Or.inl (by decide)), ui_same]
    exact hw
  · rw [e (Or.inl (by decide)), e (Or.inl (by decide)), e (Or.inl (by decide)), e (Or.inl (by decide)), ui_same] at hk
    omega
theorem HM.pa0 {t1 : Int32} : y = ((((((((V.ul 16 m a).ul 17 m b).ui 18 m x).ui 19 m y).ui 22 m z).ui 24 m t0).ui 23 m w).ui 25 m t1).i 19 m := by
  rw [ui_ne (Or.inl (by decide)), ui_ne (Or.inl (by decide)), ui_ne (Or.inl (by decide)), ui_ne (Or.inl (by decide)), ui_same]
theorem HM.par {pa : Int32} (hH : HM V V1 m o a b) (hp : prP V1 V2 m pa) : HM V V2 m o a b := by
  obtain ⟨h1, h2, h3, h4, h5, h6, h7, h8, h9, h10, h11⟩ := hH
  obtain ⟨p1, p2, p3, p4, p5⟩ := hp
  unfold HM
  rw [p4 18 (by decide) (by decide) (by decide), p4 22 (by decide) (by decide) (by decide), p4 23 (by decide) (by decide) (by decide), p4 14 (by decide) (by decide) (by decide), p4 15 (by decide) (by decide) (by decide), p5 16, p5 17]
  exact ⟨h1, fun j => (p3 j).trans (h2 j), h3, h4, h5, h6, h7, h8, h9, h10, p2⟩
theorem HM.addA (hH : HM V V1 m o a b) (hK : KI V1 δ o) (hb : ∀ c, c < 9 → (V1.i 15 c).toInt ≤ 12) (ho : o < 8) (hh : (V1.i 15 o).toInt = (h : Int)) (h12 : h < 12) (hz : z.toInt = (m : Int) + 1) (hx : x.toNatClampNeg = m) (hk : k = 12 * o + h) (hy : y.toInt = (h : Int) + 1) : KI (((V1.un 27 z).ui 14 k x).ui 15 o y) δ o := by
  obtain ⟨h1, h2, h3, h4, h5, h6, h7, h8, h9, h10, h11⟩ := hH
  exact KI.addA hK hb ho hh h12 (by rw [h2]; exact h1) hz hx hk hy h8 h9 h10 h11
theorem HM.addB {c : Nat} (hH : HM V V1 m o a b) (hK : KI V1 δ o) (hb : ∀ c, c < 9 → (V1.i 15 c).toInt ≤ 12) (ho : o < 8) (hh : (V1.i 15 o).toInt = (h : Int)) (hc : c = 12 * o + h) (hz : z.toInt = (m : Int) + 1) (hR : repl (V1.un 27 z) V2 o c m had) (hF : fndR V o a b had) (hd : had.toNatClampNeg ≠ m) (hcl : (V.i 18 had.toNatClampNeg).toNatClampNeg ≠ o) : KI V2 δ o := by
  obtain ⟨h1, h2, h3, h4, h5, h6, h7, h8, h9, h10, h11⟩ := hH
  obtain ⟨j, f1, f2, f3, f4⟩ := hF
  have q := h3 _ hd
  refine KI.addB hK hb ho hh hc (by rw [h2]; exact h1) hz hR ⟨j, ?_, ?_⟩ ?_ ?_ ?_ h8 h9 h10 h11
  · rw [h7] at hh
    omega
  · rw [h6]
    exact f2.symm
  · rw [q.1, f3, h4]
  · rw [q.2.1, f4, h5]
  · rw [q.2.2]
    exact hcl
end HMS
section NRG
variable {s : State} {H : Heap} {locs : List Loc} {D : va_G} {tys : List (ClassId × FieldType)} {L : List Nat} {kd : Nat → Nat} {f0 f : Nat → va_E} {md : List (Nat × Nat)} {ma : List Nat} {fx : List Fct} {q : Nat} {V : PV}
theorem isV.nrg (h : isV f q V) (g : G3 D L kd tys s f0 md ma f H locs fx) (hq : q ∈ L) (hk : kd q = 12) {j : Nat} {lo hi : Int} (hj : jN j = true) (hF : (FS 12)[j]? = some ((0, lo, hi) : rS)) : bd lo hi (V.n j) := by
  have h1 := g.2.2.2.1 q hq
  rw [hk] at h1
  unfold okE at h1
  rw [if_pos (by decide)] at h1
  obtain ⟨fs, e1, e2, e3⟩ := h1
  obtain ⟨b, e4, e5⟩ := e3 j _ hF
  have h2 := h.2.2 j hj
  unfold fV at h2
  rw [e1] at h2
  have h3 : Value.int b = Value.int (V.n j) := e4.symm.trans h2
  cases h3
  exact e5
end NRG
