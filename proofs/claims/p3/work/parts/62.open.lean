section KIQ
variable {V V1 : PV} {δ : Nat → Nat} {k m o j : Nat} {x y z : Int32}
/-- the body of member m -/
theorem KI.u23 (hK : KI V δ o) (hT : TS V δ x 1 m) : KI (V.ui 23 m x) δ o := by
  obtain ⟨⟨w1, w2, w3, w4, w5, w6, w7, w8⟩, x1, x2, x3⟩ := hK
  refine ⟨⟨fun n h => (no_cg (nrm_ui (by decide))).mpr (w1 n h), fun s h => (st_cg (nrm_ui (by decide))).mpr (w2 s h), fun c h => (cl_cg (nrm_ui (by decide))).mpr (w3 c h), fun m' h => ?_, w5, w6, w7, w8⟩, x1, ?_, x3⟩
  · obtain ⟨a1, a2, a3, a4⟩ := w4 m' h
    refine ⟨a1, ?_, a3, a4⟩
    refine TS.ui_ (by decide) ?_
    by_cases hm : m' = m
    · subst hm
      rw [ui_same]
      exact hT
    · rw [ui_ne (Or.inr hm)]
      exact a2
  · rw [cMc_ui (by decide) (by decide)]
    exact x2
theorem ki_n27 (hK : KI V δ o) (ho : o < 8) (hb : (V.i 15 o).toInt ≤ 12) : (V.n 27).toInt ≤ 96 := by
  have h1 := hK.2.2.1
  have h2 := cMc_le (V := V) (c := o) (k := (V.i 15 o).toNatClampNeg)
  have h3 : (V.i 15 o).toNatClampNeg = (V.i 15 o).toInt.toNat := rfl
  omega
/-- the program between two classes: o of them, all whole -/
def KC (V : PV) (δ : Nat → Nat) (o : Nat) : Prop := wfP V δ ∧ (∀ c : Nat, (c : Int) < (V.n 0).toInt → ∀ k : Nat, (k : Int) < (V.i 15 c).toInt → (V.i 18 (V.i 14 (12 * c + k)).toNatClampNeg).toNatClampNeg ≤ c) ∧ (V.n 27).toInt ≤ 12 * (o : Int) ∧ (V.n 0).toInt = (o : Int)
theorem KC.zero (h0 : (V.n 0).toInt = 0) (h27 : (V.n 27).toInt = 0) (h46 : (V.n 46).toInt = 0) (h57 : (V.n 57).toInt = 0) : KC V δ 0 :=
  ⟨⟨fun n h => by omega, fun s h => by omega, fun c h => by omega, fun m h => by omega, by omega, by omega, by omega, by omega⟩, fun c h => by omega, by omega, by omega⟩
theorem KI.close (hK : KI V δ o) (hb : (V.i 15 o).toInt ≤ 12) : KC V δ (o + 1) := by
  have h1 := hK.2.2.1
  have h2 := cMc_le (V := V) (c := o) (k := (V.i 15 o).toNatClampNeg)
  have h3 : (V.i 15 o).toNatClampNeg = (V.i 15 o).toInt.toNat := rfl
  have h4 := hK.2.2.2
  exact ⟨hK.1, hK.2.1, by omega, by omega⟩
/-- what is written for class o, that isn't counted yet -/
theorem KC.cg (hK : KC V δ o) (hi : ∀ j, j ≠ 3 → j ≠ 4 → j ≠ 8 → j ≠ 9 → j ≠ 11 → j ≠ 13 → j ≠ 14 → j ≠ 15 → V1.i j = V.i j) (hl : ∀ j, j = 16 ∨ j = 17 ∨ j = 55 ∨ j = 56 → V1.l j = V.l j) (hn : ∀ j, V1.n j = V.n j)
    (h1 : ∀ j c, (j = 3 ∨ j = 4 ∨ j = 13 ∨ j = 15) → c < o → V1.i j c = V.i j c) (h14 : ∀ c k, c < o → k < 12 → V1.i 14 (12 * c + k) = V.i 14 (12 * c + k)) (h8 : ∀ j c v, (j = 8 ∨ j = 9) → c < o → v < 10 → V1.i j (10 * c + v) = V.i j (10 * c + v)) (h11 : ∀ c k, c < o → k < 8 → V1.i 11 (8 * c + k) = V.i 11 (8 * c + k))
    (b15 : ∀ c, c < 9 → (V.i 15 c).toInt ≤ 12) (b4 : ∀ c, c < 9 → (V.i 4 c).toInt ≤ 10) (b13 : ∀ c, c < 9 → (V.i 13 c).toInt ≤ 8) : KC V1 δ o := by
  obtain ⟨⟨w1, w2, w3, w4, w5, w6, w7, w8⟩, x1, x2, x3⟩ := hK
  have i18 := hi 18 (by decide) (by decide) (by decide) (by decide) (by decide) (by decide) (by decide) (by decide)
  have hf : ∀ (c : Nat) (a b : Int64), c < o → (fnd V1 c a b ↔ fnd V c a b) := fun c a b hc => by
    have hb := b15 c (by omega)
    unfold fnd
    rw [h1 15 c (by decide) hc, hl 16 (by decide), hl 17 (by decide)]
    constructor
    · rintro ⟨k, q1, q2, q3⟩
      rw [h14 c k hc (by omega)] at q2 q3
      exact ⟨k, q1, q2, q3⟩
    · rintro ⟨k, q1, q2, q3⟩
      refine ⟨k, q1, ?_, ?_⟩
      · rw [h14 c k hc (by omega)]
        exact q2
      · rw [h14 c k hc (by omega)]
        exact q3
  have hII : ∀ c d : Nat, c < o → d < o → II V c d → II V1 c d := fun c d hc hd q => ⟨by rw [h1 4 c (by decide) hc, h1 4 d (by decide) hd]; exact q.1, fun a b q2 => (hf c a b hc).mpr (q.2 a b ((hf d a b hd).mp q2))⟩
  have hE : ∀ z h d, EV V z h d → EV V1 z h d := fun z h d q => by
    unfold EV at q ⊢
    rw [hi 51 (by decide) (by decide) (by decide) (by decide) (by decide) (by decide) (by decide) (by decide), hi 54 (by decide) (by decide) (by decide) (by decide) (by decide) (by decide) (by decide) (by decide), hn]
    exact q
  have hT : ∀ z b m, TS V δ z b m → TS V1 δ z b m := fun z b m q => by
    unfold TS at q ⊢
    rw [hi 42 (by decide) (by decide) (by decide) (by decide) (by decide) (by decide) (by decide) (by decide), hn]
    exact q
  have hv : ∀ (v : Int32) (d : Nat), d < o → varOK V v d → varOK V1 v d := fun v d hd q => by
    unfold varOK at q ⊢
    rw [h1 4 d (by decide) hd]
    exact q
  refine ⟨⟨fun n h => ?_, fun s h => ?_, fun c h => ?_, fun m h => ?_, by rw [hn]; exact w5, by rw [hn]; exact w6, by rw [hn]; exact w7, by rw [hn]; exact w8⟩, fun c h k hk => ?_, by rw [hn]; exact x2, by rw [hn]; exact x3⟩
  · rw [hn] at h
    obtain ⟨a1, a2, a3, a4, a5, a6, a7, a8, a9, a10, a11⟩ := w1 n h
    have ho : (V.i 54 n).toNatClampNeg < o := by omega
    unfold nodeOK
    rw [hi 51 (by decide) (by decide) (by decide) (by decide) (by decide) (by decide) (by decide) (by decide), hi 54 (by decide) (by decide) (by decide) (by decide) (by decide) (by decide) (by decide) (by decide), hi 47 (by decide) (by decide) (by decide) (by decide) (by decide) (by decide) (by decide) (by decide), hi 50 (by decide) (by decide) (by decide) (by decide) (by decide) (by decide) (by decide) (by decide), hi 48 (by decide) (by decide) (by decide) (by decide) (by decide) (by decide) (by decide) (by decide), hi 52 (by decide) (by decide) (by decide) (by decide) (by decide) (by decide) (by decide) (by decide), hi 53 (by decide) (by decide) (by decide) (by decide) (by decide) (by decide) (by decide) (by decide), hi 49 (by decide) (by decide) (by decide) (by decide) (by decide) (by decide) (by decide) (by decide), hl 55 (by decide), hl 56 (by decide), hn 0, h1 3 _ (by decide) ho]
    refine ⟨a1, a2, a3, fun q => ⟨hv _ _ ho (a4 q).1, (a4 q).2.imp id (hE _ _ _)⟩, fun q => ⟨(a5 q).1, fun k hk => hE _ _ _ ((a5 q).2 k hk)⟩, fun q => (hf _ _ _ ho).mpr (a6 q), fun q => ⟨(a7 q).1, (hf _ _ _ ?_).mpr (a7 q).2⟩, fun q => ⟨hE _ _ _ (a8 q).1, (a8 q).2⟩, a9, fun q => hE _ _ _ (a10 q), fun q => hE _ _ _ (a11 q)⟩
    have h0 := (a7 q).1
    have t0 := tnZ h0
    rcases (w3 _ a3).1 with g1 | ⟨g1, g2, -⟩
    · omega
    · omega
  · rw [hn] at h
    obtain ⟨a1, a2, a3, a4, a5, a6, a7, a8, a9, a10⟩ := w2 s h
    have ho : (V.i 18 (V.i 42 s).toNatClampNeg).toNatClampNeg < o := by
      have := (w4 _ a3).1
      omega
    unfold stOK
    rw [hi 34 (by decide) (by decide) (by decide) (by decide) (by decide) (by decide) (by decide) (by decide), hi 35 (by decide) (by decide) (by decide) (by decide) (by decide) (by decide) (by decide) (by decide), hi 36 (by decide) (by decide) (by decide) (by decide) (by decide) (by decide) (by decide) (by decide), hi 37 (by decide) (by decide) (by decide) (by decide) (by decide) (by decide) (by decide) (by decide), hi 38 (by decide) (by decide) (by decide) (by decide) (by decide) (by decide) (by decide) (by decide), hi 39 (by decide) (by decide) (by decide) (by decide) (by decide) (by decide) (by decide) (by decide), hi 40 (by decide) (by decide) (by decide) (by decide) (by decide) (by decide) (by decide) (by decide), hi 41 (by decide) (by decide) (by decide) (by decide) (by decide) (by decide) (by decide) (by decide), hi 42 (by decide) (by decide) (by decide) (by decide) (by decide) (by decide) (by decide) (by decide), hi 47 (by decide) (by decide) (by decide) (by decide) (by decide) (by decide) (by decide) (by decide), i18, hn 27]
    exact ⟨a1, a2, a3, hT _ _ _ a4, a5, fun q => ⟨hv _ _ ho (a6 q).1, (a6 q).2.imp id (hE _ _ _)⟩, fun q => hE _ _ _ (a7 q), fun q => hT _ _ _ (a8 q), fun q => hT _ _ _ (a9 q), fun q => ⟨hE _ _ _ (a10 q).1, (a10 q).2⟩⟩
  · rw [hn] at h
    have hc : c < o := by omega
    obtain ⟨a1, a2, a3, a4⟩ := w3 c h
    have q15 := b15 c (by omega)
    have q4 := b4 c (by omega)
    have q13 := b13 c (by omega)
    unfold claOK
    rw [h1 3 c (by decide) hc, h1 15 c (by decide) hc, h1 4 c (by decide) hc, h1 13 c (by decide) hc, i18, hn 27]
    refine ⟨a1.imp id (fun q => ⟨q.1, q.2.1, hII _ _ hc ?_ q.2.2⟩), fun k hk => ?_, fun v hv' => ?_, fun k hk => ?_⟩
    · have := tnZ q.1
      omega
    · rw [h14 c k hc (by omega)]
      have := x1 c h k hk
      exact ⟨(a2 k hk).1, hII _ _ hc (by omega) (a2 k hk).2⟩
    · rw [h8 9 c v (by decide) hc (by omega), h8 8 c v (by decide) hc (by omega)]
      exact a3 v hv'
    · rw [h11 c k hc (by omega)]
      exact hE _ _ _ (a4 k hk)
  · rw [hn] at h
    obtain ⟨a1, a2, a3, a4⟩ := w4 m h
    unfold memOK
    rw [i18, hi 23 (by decide) (by decide) (by decide) (by decide) (by decide) (by decide) (by decide) (by decide), hi 22 (by decide) (by decide) (by decide) (by decide) (by decide) (by decide) (by decide) (by decide), hi 28 (by decide) (by decide) (by decide) (by decide) (by decide) (by decide) (by decide) (by decide), hi 29 (by decide) (by decide) (by decide) (by decide) (by decide) (by decide) (by decide) (by decide), hi 19 (by decide) (by decide) (by decide) (by decide) (by decide) (by decide) (by decide) (by decide), hi 20 (by decide) (by decide) (by decide) (by decide) (by decide) (by decide) (by decide) (by decide), hi 21 (by decide) (by decide) (by decide) (by decide) (by decide) (by decide) (by decide) (by decide), hn 0]
    exact ⟨a1, hT _ _ _ a2, fun k hk => ⟨fun q => hE _ _ _ ((a3 k hk).1 q), fun q => ((a3 k hk).2 q).imp id (hE _ _ _)⟩, a4⟩
  · rw [hn] at h
    have hc : c < o := by omega
    have q15 := b15 c (by omega)
    rw [h1 15 c (by decide) hc] at hk
    rw [h14 c k hc (by omega), i18]
    exact x1 c h k hk
/-- class o is counted: with a class above, whose fields and members it has, or with none -/
theorem KC.open_ (hK : KC V δ o) (ho : o < 8) (hz : z.toInt = (o : Int) + 1) (h13 : (V.i 13 o).toInt = 0)
    (hh : (V.i 3 o).toInt = -1 ∧ (V.i 4 o).toInt = 0 ∧ (V.i 15 o).toInt = 0 ∨ ∃ c : Nat, c < o ∧ (V.i 3 o).toInt = (c : Int) ∧ V.i 4 o = V.i 4 c ∧ V.i 15 o = V.i 15 c ∧ (∀ k : Nat, (k : Int) < (V.i 15 c).toInt → V.i 14 (12 * o + k) = V.i 14 (12 * c + k)) ∧ ∀ v : Nat, (v : Int) < (V.i 4 c).toInt → V.i 8 (10 * o + v) = V.i 8 (10 * c + v) ∧ V.i 9 (10 * o + v) = V.i 9 (10 * c + v)) : KI (V.un 0 z) δ o := by
  obtain ⟨⟨w1, w2, w3, w4, w5, w6, w7, w8⟩, x1, x2, x3⟩ := hK
  have hn : ∀ j, j ≠ 0 → (V.un 0 z).n j = V.n j := fun j q => un_ne q
  have h0 : (V.un 0 z).n 0 = z := un_same
  have hcla : claOK V o := by
    rcases hh with ⟨q1, q2, q3⟩ | ⟨c, q0, q1, q2, q3, q4, q5⟩
    · exact ⟨Or.inl q1, fun k hk => by omega, fun v hv => by omega, fun k hk => by omega⟩
    · obtain ⟨a1, a2, a3, a4⟩ := w3 c (by omega)
      have hc : (V.i 3 o).toNatClampNeg = c := by
        have := tnZ (i := V.i 3 o) (by omega)
        omega
      have hII : II V o c := ⟨by rw [q2]; exact Int.le_refl _, fun a b ⟨k, r1, r2, r3⟩ => ⟨k, by rw [q3]; exact r1, by rw [q4 k r1]; exact r2, by rw [q4 k r1]; exact r3⟩⟩
      refine ⟨Or.inr ⟨by omega, by omega, by rw [hc]; exact hII⟩, fun k hk => ?_, fun v hv => ?_, fun k hk => by omega⟩
      · rw [q3] at hk
        rw [q4 k hk]
        exact ⟨(a2 k hk).1, hII.tr (a2 k hk).2⟩
      · rw [q2] at hv
        rw [(q5 v hv).1, (q5 v hv).2]
        exact a3 v hv
  refine ⟨⟨fun n h => ?_, fun s h => w2 s h, fun c h => ?_, fun m h => ?_, w5, w6, w7, by rw [h0]; omega⟩, fun c h k hk => ?_, ?_, by rw [h0]; omega⟩
  · obtain ⟨a1, a2, a3, a4⟩ := w1 n h
    refine ⟨a1, a2, ?_, a4⟩
    rw [h0]
    show (((V.i 54 n).toNatClampNeg : Nat) : Int) < z.toInt
    omega
  · rw [h0] at h
    by_cases hco : c = o
    · rw [hco]
      exact hcla
    · exact w3 c (by omega)
  · obtain ⟨a1, a2⟩ := w4 m h
    refine ⟨?_, a2⟩
    rw [h0]
    show (((V.i 18 m).toNatClampNeg : Nat) : Int) < z.toInt
    omega
  · rw [h0] at h
    by_cases hco : c = o
    · subst hco
      have hk' : (k : Int) < (V.i 15 c).toInt := hk
      show (V.i 18 (V.i 14 (12 * c + k)).toNatClampNeg).toNatClampNeg ≤ c
      rcases hh with ⟨q1, q2, q3⟩ | ⟨d, q0, q1, q2, q3, q4, q5⟩
      · omega
      · rw [q3] at hk'
        rw [q4 k hk']
        have := x1 d (by omega) k hk'
        omega
    · exact x1 c (by omega) k hk
  · show (V.n 27).toInt ≤ 12 * (o : Int) + ((cMc (V.un 0 z) o (V.i 15 o).toNatClampNeg : Nat) : Int)
    omega
end KIQ
