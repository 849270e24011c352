section INH
variable {V V1 : PV} {δ : Nat → Nat} {o c a b a' b' h i i' : Nat} {x y z w y5 m1 t0 : Int32} {u v : Int64}
theorem KC_n : KC (nKI V) δ o ↔ KC V δ o := Iff.rfl
theorem nKI_i {j : Nat} (hh : mk [3, 4, 8, 9, 11, 13, 14, 15, 18, 19, 20, 21, 22, 23, 28, 29, 34, 35, 36, 37, 38, 39, 40, 41, 42, 47, 48, 49, 50, 51, 52, 53, 54] j = true → V1.i j = V.i j) : (nKI V1).i j = (nKI V).i j := by
  funext k
  show (if mk [3, 4, 8, 9, 11, 13, 14, 15, 18, 19, 20, 21, 22, 23, 28, 29, 34, 35, 36, 37, 38, 39, 40, 41, 42, 47, 48, 49, 50, 51, 52, 53, 54] j then V1.i j k else 0) = (if mk [3, 4, 8, 9, 11, 13, 14, 15, 18, 19, 20, 21, 22, 23, 28, 29, 34, 35, 36, 37, 38, 39, 40, 41, 42, 47, 48, 49, 50, 51, 52, 53, 54] j then V.i j k else 0)
  by_cases q : mk [3, 4, 8, 9, 11, 13, 14, 15, 18, 19, 20, 21, 22, 23, 28, 29, 34, 35, 36, 37, 38, 39, 40, 41, 42, 47, 48, 49, 50, 51, 52, 53, 54] j = true
  · rw [if_pos q, if_pos q, hh q]
  · rw [if_neg q, if_neg q]
/-- as KC.cg; the rows 5 and 10 are asked by nothing -/
theorem KC.cgx (hK : KC V δ o) (hi : ∀ j, j ≠ 3 → j ≠ 4 → j ≠ 5 → j ≠ 8 → j ≠ 9 → j ≠ 10 → j ≠ 11 → j ≠ 13 → j ≠ 14 → j ≠ 15 → V1.i j = V.i j) (hl : ∀ j, j = 16 ∨ j = 17 ∨ j = 55 ∨ j = 56 → V1.l j = V.l j) (hn : ∀ j, V1.n j = V.n j)
    (h1 : ∀ j c, (j = 3 ∨ j = 4 ∨ j = 13 ∨ j = 15) → c < o → V1.i j c = V.i j c) (h14 : ∀ c k, c < o → k < 12 → V1.i 14 (12 * c + k) = V.i 14 (12 * c + k)) (h8 : ∀ j c v, (j = 8 ∨ j = 9) → c < o → v < 10 → V1.i j (10 * c + v) = V.i j (10 * c + v)) (h11 : ∀ c k, c < o → k < 8 → V1.i 11 (8 * c + k) = V.i 11 (8 * c + k))
    (b15 : ∀ c, c < 9 → (V.i 15 c).toInt ≤ 12) (b4 : ∀ c, c < 9 → (V.i 4 c).toInt ≤ 10) (b13 : ∀ c, c < 9 → (V.i 13 c).toInt ≤ 8) : KC V1 δ o := by
  refine KC_n.mp ((KC_n.mpr hK).cg (V1 := nKI V1) (fun j q3 q4 q8 q9 q11 q13 q14 q15 => nKI_i (fun q => hi j q3 q4 ?_ q8 q9 ?_ q11 q13 q14 q15)) (fun j q => ?_) (fun j => ?_) (fun j c q hc => ?_) (fun c k hc hk => h14 c k hc hk) (fun j c v q hc hv => ?_) (fun c k hc hk => h11 c k hc hk) b15 b4 b13)
  · rintro rfl
    exact absurd q (by decide)
  · rintro rfl
    exact absurd q (by decide)
  · rcases q with rfl | rfl | rfl | rfl
    · exact funext fun k => congrFun (hl 16 (by decide)) k
    · exact funext fun k => congrFun (hl 17 (by decide)) k
    · exact funext fun k => congrFun (hl 55 (by decide)) k
    · exact funext fun k => congrFun (hl 56 (by decide)) k
  · show (if mk [0, 27, 46, 57] j then V1.n j else 0) = (if mk [0, 27, 46, 57] j then V.n j else 0)
    rw [hn]
  · rcases q with rfl | rfl | rfl | rfl
    · exact h1 3 c (by decide) hc
    · exact h1 4 c (by decide) hc
    · exact h1 13 c (by decide) hc
    · exact h1 15 c (by decide) hc
  · rcases q with rfl | rfl
    · exact h8 8 c v (by decide) hc hv
    · exact h8 9 c v (by decide) hc hv
/-- the head of class o is written -/
theorem KC.head (hK : KC V δ o) (b15 : ∀ c, c < 9 → (V.i 15 c).toInt ≤ 12) (b4 : ∀ c, c < 9 → (V.i 4 c).toInt ≤ 10) (b13 : ∀ c, c < 9 → (V.i 13 c).toInt ≤ 8) : KC (((((((V.ul 1 o u).ul 2 o v).ui 3 o m1).ui 4 o y).ui 5 o z).ui 13 o w).ui 15 o y5) δ o := by
  have e : ∀ {W : PV} {j i j2 i2 : Nat} {v : Int32}, j2 ≠ j ∨ i2 ≠ i → (W.ui j i v).i j2 i2 = W.i j2 i2 := fun q => ui_ne q
  refine hK.cgx (fun j q3 q4 q5 q8 q9 q10 q11 q13 q14 q15 => ?_) (fun j q => ?_) (fun j => rfl) (fun j c q hc => ?_) (fun c k hc hk => ?_) (fun j c v q hc hv => ?_) (fun c k hc hk => ?_) b15 b4 b13
  · rw [ui_row q15, ui_row q13, ui_row q5, ui_row q4, ui_row q3]
    rfl
  · show ((V.ul 1 o u).ul 2 o v).l j = V.l j
    funext k
    rw [ul_ne (Or.inl (by omega)), ul_ne (Or.inl (by omega))]
  · rw [e (Or.inr (by omega)), e (Or.inr (by omega)), e (Or.inr (by omega)), e (Or.inr (by omega)), e (Or.inr (by omega))]
    rfl
  · rw [e (Or.inl (by decide)), e (Or.inl (by decide)), e (Or.inl (by decide)), e (Or.inl (by decide)), e (Or.inl (by decide))]
    rfl
  · rw [e (Or.inl (by omega)), e (Or.inl (by omega)), e (Or.inl (by omega)), e (Or.inl (by omega)), e (Or.inl (by omega))]
    rfl
  · rw [e (Or.inl (by decide)), e (Or.inl (by decide)), e (Or.inl (by decide)), e (Or.inl (by decide)), e (Or.inl (by decide))]
    rfl
theorem hd_at (hw : w.toInt = 0) (h3 : m1.toInt = -1) (h4 : y.toInt = 0) (h5 : y5.toInt = 0) : ((((((((V.ul 1 o u).ul 2 o v).ui 3 o m1).ui 4 o y).ui 5 o z).ui 13 o w).ui 15 o y5).i 13 o).toInt = 0 ∧ ((((((((V.ul 1 o u).ul 2 o v).ui 3 o m1).ui 4 o y).ui 5 o z).ui 13 o w).ui 15 o y5).i 3 o).toInt = -1 ∧ ((((((((V.ul 1 o u).ul 2 o v).ui 3 o m1).ui 4 o y).ui 5 o z).ui 13 o w).ui 15 o y5).i 4 o).toInt = 0 ∧ ((((((((V.ul 1 o u).ul 2 o v).ui 3 o m1).ui 4 o y).ui 5 o z).ui 13 o w).ui 15 o y5).i 15 o).toInt = 0 := by
  have e : ∀ {W : PV} {j i j2 i2 : Nat} {v : Int32}, j2 ≠ j ∨ i2 ≠ i → (W.ui j i v).i j2 i2 = W.i j2 i2 := fun q => ui_ne q
  refine ⟨?_, ?_, ?_, ?_⟩
  · rw [e (Or.inl (by decide)), ui_same]
    exact hw
  · rw [e (Or.inl (by decide)), e (Or.inl (by decide)), e (Or.inl (by decide)), e (Or.inl (by decide)), ui_same]
    exact h3
  · rw [e (Or.inl (by decide)), e (Or.inl (by decide)), e (Or.inl (by decide)), ui_same]
    exact h4
  · rw [ui_same]
    exact h5
/-- class o takes over from class c: what is copied so far -/
def inh (V V1 : PV) (o c : Nat) (x : Int32) (a b h : Nat) : Prop := (∀ j, j ≠ 3 → j ≠ 4 → j ≠ 5 → j ≠ 8 → j ≠ 9 → j ≠ 10 → j ≠ 14 → j ≠ 15 → V1.i j = V.i j) ∧ (∀ j, j ≠ 6 → j ≠ 7 → V1.l j = V.l j) ∧ (∀ j, V1.n j = V.n j) ∧ (∀ j d, (j = 3 ∨ j = 4 ∨ j = 15) → d ≠ o → V1.i j d = V.i j d) ∧ (∀ d, (d < 12 * o ∨ 12 * o + 12 ≤ d) → V1.i 14 d = V.i 14 d) ∧ (∀ j d, (j = 8 ∨ j = 9) → (d < 10 * o ∨ 10 * o + 10 ≤ d) → V1.i j d = V.i j d) ∧ V1.i 3 o = x ∧ V1.i 4 o = V.i 4 c ∧ V1.i 15 o = V.i 15 c ∧ (∀ k, k < a → V1.i 8 (10 * o + k) = V.i 8 (10 * c + k)) ∧ (∀ k, k < b → V1.i 9 (10 * o + k) = V.i 9 (10 * c + k)) ∧ ∀ k, k < h → V1.i 14 (12 * o + k) = V.i 14 (12 * c + k)
theorem inh.zero (hc : c ≠ o) (hy : y = (V.ui 3 o x).i 4 c) (hw : w = (((V.ui 3 o x).ui 4 o y).ui 5 o z).i 15 c) : inh V ((((V.ui 3 o x).ui 4 o y).ui 5 o z).ui 15 o w) o c x 0 0 0 := by
  have e : ∀ {W : PV} {j i j2 i2 : Nat} {v : Int32}, j2 ≠ j ∨ i2 ≠ i → (W.ui j i v).i j2 i2 = W.i j2 i2 := fun q => ui_ne q
  refine ⟨fun j q3 q4 q5 _ _ _ _ q15 => ?_, fun j _ _ => rfl, fun j => rfl, fun j d q r => ?_, fun d _ => ?_, fun j d q _ => ?_, ?_, ?_, ?_, fun k q => absurd q (Nat.not_lt_zero k), fun k q => absurd q (Nat.not_lt_zero k), fun k q => absurd q (Nat.not_lt_zero k)⟩
  · rw [ui_row q15, ui_row q5, ui_row q4, ui_row q3]
  · rw [e (Or.inr r), e (Or.inr r), e (Or.inr r), e (Or.inr r)]
  · rw [e (Or.inl (by decide)), e (Or.inl (by decide)), e (Or.inl (by decide)), e (Or.inl (by decide))]
  · rw [e (Or.inl (by omega)), e (Or.inl (by omega)), e (Or.inl (by omega)), e (Or.inl (by omega))]
  · rw [e (Or.inl (by decide)), e (Or.inl (by decide)), e (Or.inl (by decide)), ui_same]
  · rw [e (Or.inl (by decide)), e (Or.inl (by decide)), ui_same, hy, e (Or.inl (by decide))]
  · rw [ui_same, hw, e (Or.inl (by decide)), e (Or.inl (by decide)), e (Or.inl (by decide))]
theorem inh.l6 (hI : inh V V1 o c x a b h) {j : Nat} (hj : j = 6 ∨ j = 7) : inh V (V1.ul j i u) o c x a b h := by
  obtain ⟨h1, h2, h3, h4, h5, h6, h7, h8, h9, h10, h11, h12⟩ := hI
  exact ⟨h1, fun j' q6 q7 => (funext fun k' => ul_ne (Or.inl (by omega))).trans (h2 j' q6 q7), h3, h4, h5, h6, h7, h8, h9, h10, h11, h12⟩
theorem inh.r10 (hI : inh V V1 o c x a b h) : inh V (V1.ui 10 i y) o c x a b h := by
  obtain ⟨h1, h2, h3, h4, h5, h6, h7, h8, h9, h10, h11, h12⟩ := hI
  exact ⟨fun j q3 q4 q5 q8 q9 q10 q14 q15 => (ui_row q10).trans (h1 j q3 q4 q5 q8 q9 q10 q14 q15), h2, h3, fun j d q r => (ui_ne (Or.inl (by omega))).trans (h4 j d q r), fun d q => (ui_ne (Or.inl (by decide))).trans (h5 d q), fun j d q r => (ui_ne (Or.inl (by omega))).trans (h6 j d q r), (ui_ne (Or.inl (by decide))).trans h7, (ui_ne (Or.inl (by decide))).trans h8, (ui_ne (Or.inl (by decide))).trans h9, fun k q => (ui_ne (Or.inl (by decide))).trans (h10 k q), fun k q => (ui_ne (Or.inl (by decide))).trans (h11 k q), fun k q => (ui_ne (Or.inl (by decide))).trans (h12 k q)⟩
theorem inh.r8 (hI : inh V V1 o c x a b h) (hc : c < o) (ha : a < 10) (hi : i = 10 * o + a) (hi' : i' = 10 * c + a) (hy : y = V1.i 8 i') : inh V (V1.ui 8 i y) o c x (a + 1) b h := by
  obtain ⟨h1, h2, h3, h4, h5, h6, h7, h8, h9, h10, h11, h12⟩ := hI
  subst hi
  refine ⟨fun j q3 q4 q5 q8 q9 q10 q14 q15 => (ui_row q8).trans (h1 j q3 q4 q5 q8 q9 q10 q14 q15), h2, h3, fun j d q r => (ui_ne (Or.inl (by omega))).trans (h4 j d q r), fun d q => (ui_ne (Or.inl (by decide))).trans (h5 d q), fun j d q r => (ui_ne (Or.inr (by omega))).trans (h6 j d q r), (ui_ne (Or.inl (by decide))).trans h7, (ui_ne (Or.inl (by decide))).trans h8, (ui_ne (Or.inl (by decide))).trans h9, fun k q => ?_, fun k q => (ui_ne (Or.inl (by decide))).trans (h11 k q), fun k q => (ui_ne (Or.inl (by decide))).trans (h12 k q)⟩
  by_cases hk : k = a
  · rw [hk, ui_same, hy, hi']
    exact h6 8 _ (Or.inl rfl) (Or.inl (by omega))
  · rw [ui_ne (Or.inr (by omega))]
    exact h10 k (by omega)
theorem inh.r9 (hI : inh V V1 o c x a b h) (hc : c < o) (ha : b < 10) (hi : i = 10 * o + b) (hi' : i' = 10 * c + b) (hy : y = V1.i 9 i') : inh V (V1.ui 9 i y) o c x a (b + 1) h := by
  obtain ⟨h1, h2, h3, h4, h5, h6, h7, h8, h9, h10, h11, h12⟩ := hI
  subst hi
  refine ⟨fun j q3 q4 q5 q8 q9 q10 q14 q15 => (ui_row q9).trans (h1 j q3 q4 q5 q8 q9 q10 q14 q15), h2, h3, fun j d q r => (ui_ne (Or.inl (by omega))).trans (h4 j d q r), fun d q => (ui_ne (Or.inl (by decide))).trans (h5 d q), fun j d q r => (ui_ne (Or.inr (by omega))).trans (h6 j d q r), (ui_ne (Or.inl (by decide))).trans h7, (ui_ne (Or.inl (by decide))).trans h8, (ui_ne (Or.inl (by decide))).trans h9, fun k q => (ui_ne (Or.inl (by decide))).trans (h10 k q), fun k q => ?_, fun k q => (ui_ne (Or.inl (by decide))).trans (h12 k q)⟩
  by_cases hk : k = b
  · rw [hk, ui_same, hy, hi']
    exact h6 9 _ (Or.inr rfl) (Or.inl (by omega))
  · rw [ui_ne (Or.inr (by omega))]
    exact h11 k (by omega)
theorem inh.r14 (hI : inh V V1 o c x a b h) (hc : c < o) (ha : h < 12) (hi : i = 12 * o + h) (hi' : i' = 12 * c + h) (hy : y = V1.i 14 i') : inh V (V1.ui 14 i y) o c x a b (h + 1) := by
  obtain ⟨h1, h2, h3, h4, h5, h6, h7, h8, h9, h10, h11, h12⟩ := hI
  subst hi
  refine ⟨fun j q3 q4 q5 q8 q9 q10 q14 q15 => (ui_row q14).trans (h1 j q3 q4 q5 q8 q9 q10 q14 q15), h2, h3, fun j d q r => (ui_ne (Or.inl (by omega))).trans (h4 j d q r), fun d q => (ui_ne (Or.inr (by omega))).trans (h5 d q), fun j d q r => (ui_ne (Or.inl (by omega))).trans (h6 j d q r), (ui_ne (Or.inl (by decide))).trans h7, (ui_ne (Or.inl (by decide))).trans h8, (ui_ne (Or.inl (by decide))).trans h9, fun k q => (ui_ne (Or.inl (by decide))).trans (h10 k q), fun k q => (ui_ne (Or.inl (by decide))).trans (h11 k q), fun k q => ?_⟩
  by_cases hk : k = h
  · rw [hk, ui_same, hy, hi']
    exact h5 _ (Or.inl (by omega))
  · rw [ui_ne (Or.inr (by omega))]
    exact h12 k (by omega)
theorem inh.le (hI : inh V V1 o c x a b h) (ha : a' ≤ a) (hb : b' ≤ b) {h' : Nat} (hh : h' ≤ h) : inh V V1 o c x a' b' h' := by
  obtain ⟨h1, h2, h3, h4, h5, h6, h7, h8, h9, h10, h11, h12⟩ := hI
  exact ⟨h1, h2, h3, h4, h5, h6, h7, h8, h9, fun k q => h10 k (by omega), fun k q => h11 k (by omega), fun k q => h12 k (by omega)⟩
theorem inh.q4 (hI : inh V V1 o c x a b h) (hc : c < o) : V1.i 4 c = V.i 4 c := hI.2.2.2.1 4 c (by decide) (by omega)
theorem inh.q15 (hI : inh V V1 o c x a b h) (hc : c < o) : V1.i 15 c = V.i 15 c := hI.2.2.2.1 15 c (by decide) (by omega)
theorem inh.open_ (hK : KC V δ o) (hI : inh V V1 o c x (V.i 4 c).toNatClampNeg (V.i 4 c).toNatClampNeg (V.i 15 c).toNatClampNeg) (hc : c < o) (hx : x.toInt = (c : Int)) (ho : o < 8) (hz : z.toInt = (o : Int) + 1) (h13 : (V.i 13 o).toInt = 0)
    (b15 : ∀ c, c < 9 → (V.i 15 c).toInt ≤ 12) (b4 : ∀ c, c < 9 → (V.i 4 c).toInt ≤ 10) (b13 : ∀ c, c < 9 → (V.i 13 c).toInt ≤ 8) : KI (V1.un 0 z) δ o := by
  obtain ⟨h1, h2, h3, h4, h5, h6, h7, h8, h9, h10, h11, h12⟩ := hI
  have e4 : V1.i 4 c = V.i 4 c := h4 4 c (by decide) (by omega)
  have e15 : V1.i 15 c = V.i 15 c := h4 15 c (by decide) (by omega)
  have k15 := b15 c (by omega)
  have k4 := b4 c (by omega)
  have hT : ∀ (t : Int32) (k : Nat), (k : Int) < t.toInt → k < t.toNatClampNeg := fun t k q => by
    have h9 : t.toNatClampNeg = t.toInt.toNat := rfl
    omega
  have hK1 : KC V1 δ o := hK.cgx (fun j q3 q4 q5 q8 q9 q10 _ _ q14 q15 => h1 j q3 q4 q5 q8 q9 q10 q14 q15) (fun j q => h2 j (by omega) (by omega)) h3 (fun j d q hd => ?_) (fun d k hd hk => h5 _ (Or.inl (by omega))) (fun j d v q hd hv => h6 j _ q (Or.inl (by omega))) (fun d k _ _ => by rw [h1 11 (by decide) (by decide) (by decide) (by decide) (by decide) (by decide) (by decide) (by decide)]) b15 b4 b13
  · refine hK1.open_ ho hz (by rw [h1 13 (by decide) (by decide) (by decide) (by decide) (by decide) (by decide) (by decide) (by decide)]; exact h13) (Or.inr ⟨c, hc, by rw [h7]; exact hx, h8.trans e4.symm, h9.trans e15.symm, fun k hk => ?_, fun v hv => ⟨?_, ?_⟩⟩)
    · rw [e15] at hk
      exact (h12 k (hT _ _ hk)).trans (h5 _ (Or.inl (by omega))).symm
    · rw [e4] at hv
      exact (h10 v (hT _ _ hv)).trans (h6 8 _ (Or.inl rfl) (Or.inl (by omega))).symm
    · rw [e4] at hv
      exact (h11 v (hT _ _ hv)).trans (h6 9 _ (Or.inr rfl) (Or.inl (by omega))).symm
  · rcases q with rfl | rfl | rfl | rfl
    · exact h4 3 d (by decide) (by omega)
    · exact h4 4 d (by decide) (by omega)
    · rw [h1 13 (by decide) (by decide) (by decide) (by decide) (by decide) (by decide) (by decide) (by decide)]
    · exact h4 15 d (by decide) (by omega)
theorem KC.cn (hK : KC V δ o) : KC V δ (V.n 0).toNatClampNeg := by
  have h1 := hK.2.2.2
  have h2 := tnZ (i := V.n 0) (by omega)
  have h3 : (V.n 0).toNatClampNeg = o := by omega
  rw [h3]
  exact hK
end INH
section APART
variable {s : State} {H : Heap} {locs : List Loc} {D : va_G} {tys : List (ClassId × FieldType)} {L : List Nat} {kd : Nat → Nat} {f0 f f1 : Nat → va_E} {md : List (Nat × Nat)} {ma : List Nat} {fx : List Fct} {a b j n q t m : Nat} {V V1 : PV} {δ : Nat → Nat}
/-- the first m classes have no model -/
def mN (f : Nat → va_E) (q m : Nat) : Prop := ∀ j : Nat, j < m → (aI f (rf f q 59) j).toInt = -1
theorem mN.frame (hM : Md L kd md ma f f1) (hW : WT L kd tys f) (hq : q ∈ L) (hk : kd q = 12) (h1 : (md.all fun y => y != (12, 59)) = true) (h2 : (ma.all fun y => y != 211) = true) (h : mN f q m) : mN f1 q m := fun j hj => by
  rw [arr_fr hM hW hq hk (by decide) (K := 211) rfl (not_all h1) (by decide) (not_all h2)]
  exact h j hj
theorem mN.zero : mN f q 0 := fun j hj => absurd hj (Nat.not_lt_zero j)
theorem mN.put {i x : Int32} (h : mN f q m) (g : G3 D L kd tys s f0 md ma f H locs fx) (k0 : Nat) (e : fx[k0]? = some (12, 59, q, .ref a)) (hk : kd q = 12) (ha : kd a = 211) (u : uA f f1 a i.toNatClampNeg x) (hi : i.toNatClampNeg = m) (hx : x.toInt = -1) : mN f1 q (m + 1) := fun j hj => by
  have e59 := (fx_at g e).2.2.2
  simp only at e59
  have hta : q ≠ a := fun z => by rw [z] at hk; omega
  rw [uA_own u hta e59]
  by_cases hji : j = i.toNatClampNeg
  · rw [if_pos hji]
    exact hx
  · rw [if_neg hji]
    exact h j (by omega)
theorem mN.ok (h : mN f q (V.n 0).toNatClampNeg) : mOK f q V := fun j hj => Or.inl (h j (by
  have h1 : (V.n 0).toNatClampNeg = (V.n 0).toInt.toNat := rfl
  omega))
/-- two programs share nothing -/
def apP (f : Nat → va_E) (n q : Nat) : Prop := n ≠ q ∧ (∀ j, fV f q j ≠ .ref n) ∧ (∀ j, fV f n j ≠ .ref q) ∧ ∀ i j b, fV f n i = .ref b → fV f q j ≠ .ref b
theorem apP.sym (h : apP f n q) : apP f q n := ⟨fun z => h.1 z.symm, h.2.2.1, h.2.1, fun i j b h1 h2 => h.2.2.2 j i b h2 h1⟩
theorem apP.call (h : apP f0 n q) (g : G3 D L kd tys s f0 md ma f H locs fx) (hn : n ∈ L) (kn : kd n = 12) (hq : q ∈ L) (hk : kd q = 12) (hm : fixQ md = true) : apP f n q := by
  have e : ∀ {c : Nat}, c ∈ L → kd c = 12 → ∀ {j b : Nat}, fV f c j = .ref b → fV f0 c j = .ref b := fun {c} hc kc {j b} hb => by
    rw [← q_fix g hc kc hm (ref_arr g.2.2.2.1 hc kc hb)]
    exact hb
  exact ⟨h.1, fun j hc => h.2.1 j (e hq hk hc), fun j hc => h.2.2.1 j (e hn kn hc), fun i j b h1 h2 => h.2.2.2 i j b (e hn kn h1) (e hq hk h2)⟩
theorem FR.fld_ (h : FR L kd f0 f q) (ha : apP f0 n q) (hn : n ∈ L) (kn : kd n = 12) (j : Nat) : fV f n j = fV f0 n j := (h n hn (by rw [kn]; rfl) ha.1 ha.2.1).2 (by rw [kn]; decide) j
theorem FR.own (h : FR L kd f0 f q) (ha : apP f0 n q) (hb : fV f0 n j = .ref b) (hL : b ∈ L) (k1 : 157 ≤ kd b) (k2 : kd b ≤ 211) (hk : kd q = 12) : f b = f0 b := (h b hL (by
  unfold famP
  simp only [Bool.or_eq_true, beq_iff_eq, Bool.and_eq_true, decide_eq_true_eq]
  omega) (fun z => by rw [z] at k1; omega) (fun i => ha.2.2.2 j i b hb)).1 (by omega)
theorem FR.isV (hF : FR L kd f0 f q) (hW : WT L kd tys f0) (ha : apP f0 n q) (hn : n ∈ L) (kn : kd n = 12) (hk : kd q = 12) (h : isV f0 n V) : isV f n V := by
  have hr : ∀ j, rf f n j = rf f0 n j := fun j => by unfold rf; rw [hF.fld_ ha hn kn j]
  have he : ∀ j, (jI j || jL j) = true → f (rf f0 n j) = f0 (rf f0 n j) := fun j hj => by
    obtain ⟨b, b1, b2, b3, b4, b5⟩ := arr_of hW hn kn hj
    rw [rf_eq b1]
    exact hF.own ha b1 b2 b3 (by omega) hk
  refine ⟨fun j hj k => ?_, fun j hj k => ?_, fun j hj => ?_⟩
  · rw [hr, ← h.1 j hj k]
    unfold aI
    rw [he j (by rw [hj]; rfl)]
  · rw [hr, ← h.2.1 j hj k]
    unfold aJ
    rw [he j (by rw [hj, Bool.or_true])]
  · rw [hF.fld_ ha hn kn j]
    exact h.2.2 j hj
theorem FR.mOK_ (hF : FR L kd f0 f q) (hW : WT L kd tys f0) (ha : apP f0 n q) (hn : n ∈ L) (kn : kd n = 12) (hk : kd q = 12) (h : mOK f0 n V) : mOK f n V := by
  have hr : rf f n 59 = rf f0 n 59 := by unfold rf; rw [hF.fld_ ha hn kn 59]
  have he : f (rf f0 n 59) = f0 (rf f0 n 59) := by
    obtain ⟨b, b1, b2, b3, b4⟩ := ref_of hW hn kn (by decide) (j := 59) (lo := 211) (hi := 211) rfl
    rw [rf_eq b1]
    exact hF.own ha b1 b2 (by omega) (by omega) hk
  have hA : ∀ j, aI f (rf f n 59) j = aI f0 (rf f0 n 59) j := fun j => by
    rw [hr]
    unfold aI
    rw [he]
  intro j hj
  rw [hA]
  exact h j hj
theorem isV.ex (g : G3 D L kd tys s f0 md ma f H locs fx) (hq : q ∈ L) (hk : kd q = 12) : ∃ V : PV, isV f q V := by
  obtain ⟨x0, -, g⟩ := g_facti g hq hk (by decide) 0 rfl
  obtain ⟨x1, -, g⟩ := g_facti g hq hk (by decide) 27 rfl
  obtain ⟨x2, -, g⟩ := g_facti g hq hk (by decide) 46 rfl
  obtain ⟨x3, -, g⟩ := g_facti g hq hk (by decide) 57 rfl
  refine ⟨(fun j k => aI f (rf f q j) k, fun j k => aJ f (rf f q j) k, fun j => if j = 0 then x0 else if j = 27 then x1 else if j = 46 then x2 else x3), fun j _ k => rfl, fun j _ k => rfl, fun j hj => ?_⟩
  unfold jN at hj
  simp only [Bool.or_eq_true, beq_iff_eq] at hj
  rcases hj with ((rfl | rfl) | rfl) | rfl
  · exact (fx_at g (i := 3) rfl).2.2.2
  · exact (fx_at g (i := 2) rfl).2.2.2
  · exact (fx_at g (i := 1) rfl).2.2.2
  · exact (fx_at g (i := 0) rfl).2.2.2
/-- the reference between two calls -/
def RI (f : Nat → va_E) (t n q : Nat) (V : PV) (δ : Nat → Nat) : Prop := isV f n V ∧ wfP V δ ∧ mOK f n V ∧ rOK f t V ∧ oOK f t V ∧ apP f n q ∧ fV f t 1 = .ref n ∧ fV f t 2 = .ref q
theorem rOK.zero {W : RW} (h : isW f t W) (g : G3 D L kd tys s f0 md ma f H locs fx) (k0 k1 : Nat) (e0 : fx[k0]? = some (14, 51, t, .int 0)) (e1 : fx[k1]? = some (14, 52, t, .int 0)) : rOK f t V := rOK.of h g k0 k1 e0 e1 ⟨fun i hi => by
  have h1 : (0 : Int32).toInt = 0 := by decide
  omega, rfl⟩
theorem oOK.zero (g : G3 D L kd tys s f0 md ma f H locs fx) (k0 : Nat) (e : fx[k0]? = some (14, 30, t, .int 0)) : oOK f t V := oOK.of (O := fun j => aI f (rf f t 27) j) (fun _ => rfl) g k0 e objOK.zero
end APART
/-- behind a class that was read: the program is whole again, of one class more -/
def rdC (L : List Nat) (kd : Nat → Nat) (f0 : Nat → va_E) (a q : Nat) (V : PV) (f : Nat → va_E) (k : Nat) : Prop :=
  ∃ (V1 : PV) (δ1 : Nat → Nat), isV f q V1 ∧ FR L kd f0 f q ∧ KC V1 δ1 (V1.n 0).toNatClampNeg ∧ mN f q (V1.n 0).toNatClampNeg ∧ (V1.n 57).toInt - (V.n 57).toInt ≤ cF f a - cF f0 a ∧ 2 * ((V1.n 46).toInt - (V.n 46).toInt) ≤ cF f a - cF f0 a ∧ 2 * (k : Int) ≤ cF f a - cF f0 a ∧ cF f0 a + 1 ≤ cF f a
theorem rdc_use {L : List Nat} {kd : Nat → Nat} {f0 f : Nat → va_E} {a q : Nat} {V : PV} {E0 : Int} {k : Nat} (h : rdC L kd f0 a q V f k) (h0 : cEq f0 a E0) : ∃ (V1 : PV) (δ1 : Nat → Nat) (E : Int), isV f q V1 ∧ FR L kd f0 f q ∧ cEq f a E ∧ KC V1 δ1 (V1.n 0).toNatClampNeg ∧ mN f q (V1.n 0).toNatClampNeg ∧ (V1.n 57).toInt - (V.n 57).toInt ≤ E - E0 ∧ 2 * ((V1.n 46).toInt - (V.n 46).toInt) ≤ E - E0 ∧ 2 * (k : Int) ≤ E - E0 ∧ E0 + 1 ≤ E := by
  obtain ⟨V1, δ1, h1, h2, h3, h4, h5, h6, h7, h8⟩ := h
  unfold cEq at h0
  rw [h0] at h5 h6 h7 h8
  exact ⟨V1, δ1, cF f a, h1, h2, rfl, h3, h4, h5, h6, h7, h8⟩
section HANDX
variable {p : Program} {l : Launch} {e : Env} {R : Room} {s : State} {m : MethodId} {args : Array Value} {below : List Frame} {meth : Method} {c : Code} {H : Heap} {locs : List Loc} {cells slots : Nat} {Q : State → Prop}
variable {y : MethodName} {bytes cc : ByteArray} {maxL nL mc ms n index : Nat} {ret : Option FieldType} {ws ws' : List Cond} {rm : Room} {Pc : Array Value → State → Prop} {free : Addr → Prop} {Qx : Array Value → State → Outcome → State → Nat → Nat → Prop}
/-- as MetX.ofW, for a method that catches -/
theorem MetX.ofWH {hs : List (Nat × Nat × Nat × Nat)} (hy : plainName y.cls = true) (hw : ws = Cond.codeWith y cc maxL ret hs :: ws')
    (body : ∀ p e s m args below meth c s₁, BodyLoose p l y (headSpec ws rm) cc maxL ret e s m args below meth c s₁ → c.maxLocals = maxL → c.exceptionTable.toList.map (fun h => (h.startPc, h.endPc, h.handlerPc, h.catchType)) = hs → Pc args s →
      W p l e (headSpec ws rm).room s m args below meth c s.heap [] 0 0 (MQX below Qx args s free) (entryFrame m args maxL)) : MetX l y ws rm Pc Qx free := by
  refine MetFree.of_bodyS (code := cc) (maxLocals := maxL) (ret := ret) hy ?_ ?_
  · intro args s m h hn
    obtain ⟨m', meth, c, hname', hmeth, hcode, hbytes, hlocals, -, hret, hlocks, -⟩ := Cond.codeWith_spec (atoms_spec (ws := ws) h _ (by rw [hw]; exact List.mem_cons_self))
    cases hn.symm.trans hname'
    exact ⟨meth, c, hmeth, hcode, hbytes, hlocals, hret, hlocks⟩
  · intro p e s m args below meth c s₁ B hml hP _
    have hh0 : s₁.heap = s.heap := by rw [B.state]; rfl
    have X₀ : Stand p l e (headSpec ws rm).room s m args below meth c s₁ [] 0 0 := Stand.of_body B
    have htab : c.exceptionTable.toList.map (fun h => (h.startPc, h.endPc, h.handlerPc, h.catchType)) = hs := by
      obtain ⟨m', meth', c', hname', h1, h2, -, -, h7, -, -, -⟩ := Cond.codeWith_spec (atoms_spec (ws := ws) B.pre _ (by rw [hw]; exact List.mem_cons_self))
      cases B.named.symm.trans hname'
      have e1 : meth = meth' := Option.some.inj (B.method.symm.trans h1)
      subst e1
      have e2 : c = c' := Option.some.inj (X₀.code.symm.trans h2)
      subst e2
      exact h7
    obtain ⟨t, a1, o, k, n, b1, b2, b3⟩ := body p e s m args below meth c s₁ B hml htab hP s₁ hh0 X₀
    exact ⟨t, o, a1, b1, b2, ⟨k, n, b3.1, b3.2⟩⟩
end HANDX
