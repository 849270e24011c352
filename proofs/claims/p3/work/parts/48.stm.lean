/-- V1 has V's nodes and statements and maybe more; the rest is V's (but how many statements a member has) -/
def exS (V V1 : PV) : Prop := (∀ j, j ≠ 24 → (j < 34 ∨ (42 < j ∧ j < 47) ∨ 54 < j) → V1.i j = V.i j) ∧ (∀ j, j ≠ 43 → j ≠ 44 → j ≠ 55 → j ≠ 56 → V1.l j = V.l j) ∧ (∀ j, j ≠ 46 → j ≠ 57 → V1.n j = V.n j) ∧ (V.n 57).toInt ≤ (V1.n 57).toInt ∧ (V.n 46).toInt ≤ (V1.n 46).toInt ∧
  (∀ n : Nat, (n : Int) < (V.n 57).toInt → (∀ j, 47 ≤ j → j ≤ 54 → j ≠ 53 → V1.i j n = V.i j n) ∧ (∀ k, k < 3 → V1.i 53 (3 * n + k) = V.i 53 (3 * n + k)) ∧ V1.l 55 n = V.l 55 n ∧ V1.l 56 n = V.l 56 n) ∧
  ∀ s : Nat, (s : Int) < (V.n 46).toInt → ∀ j, 34 ≤ j → j ≤ 42 → V1.i j s = V.i j s
theorem exN.toS {V V1 : PV} (h : exN V V1) : exS V V1 := by
  obtain ⟨h1, h2, h3, h4, h5⟩ := h
  exact ⟨fun j q r => h1 j q (by omega), fun j q r s t => h2 j s t, fun j q r => h3 j r, h4, by rw [h3 46 (by decide)]; exact Int.le_refl _, h5, fun s hs j q r => by rw [h1 j (by omega) (by omega)]⟩
section EXS
variable {V V1 V2 : PV} {δ δ1 δ2 δ_ : Nat → Nat} {U : Nat → Prop}
theorem exS.rf : exS V V := exN.rf.toS
theorem exS.tr (h : exS V V1) (h1 : exS V1 V2) : exS V V2 := by
  obtain ⟨a1, a2, a3, a4, a5, a6, a7⟩ := h
  obtain ⟨b1, b2, b3, b4, b5, b6, b7⟩ := h1
  refine ⟨fun j q r => (b1 j q r).trans (a1 j q r), fun j q r s t => (b2 j q r s t).trans (a2 j q r s t), fun j q r => (b3 j q r).trans (a3 j q r), Int.le_trans a4 b4, Int.le_trans a5 b5, fun n hn => ?_, fun s hs j q r => (b7 s (by omega) j q r).trans (a7 s hs j q r)⟩
  obtain ⟨c1, c2, c3, c4⟩ := a6 n hn
  obtain ⟨d1, d2, d3, d4⟩ := b6 n (by omega)
  exact ⟨fun j q r t => (d1 j q r t).trans (c1 j q r t), fun k q => (d2 k q).trans (c2 k q), d3.trans c3, d4.trans c4⟩
theorem exS.fnd_ (h : exS V V1) {c : Nat} {a b : Int64} : fnd V1 c a b ↔ fnd V c a b := by
  unfold fnd
  rw [h.1 15 (by decide) (by decide), h.1 14 (by decide) (by decide), h.2.1 16 (by decide) (by decide) (by decide) (by decide), h.2.1 17 (by decide) (by decide) (by decide) (by decide)]
theorem exS.ev (h : exS V V1) {x : Int32} {k : Int} {d : Nat} (hE : EV V x k d) : EV V1 x k d := by
  obtain ⟨h1, h2, h3, h4⟩ := hE
  have e := (h.2.2.2.2.2.1 x.toNatClampNeg (by rw [tnZ h1]; exact h2)).1
  have h5 := h.2.2.2.1
  exact ⟨h1, by omega, by rw [e 51 (by decide) (by decide) (by decide)]; exact h3, by rw [e 54 (by decide) (by decide) (by decide)]; exact h4⟩
theorem exS.var {v : Int32} {d : Nat} (h : exS V V1) (hv : varOK V v d) : varOK V1 v d := by
  unfold varOK at hv ⊢
  rw [h.1 4 (by decide) (by decide)]
  exact hv
theorem exS.op (h : exS V V1) {x : Int32} {k : Int} {d : Nat} (hE : EV V x k d) : V1.i 47 x.toNatClampNeg = V.i 47 x.toNatClampNeg := (h.2.2.2.2.2.1 x.toNatClampNeg (by rw [tnZ hE.1]; exact hE.2.1)).1 47 (by decide) (by decide) (by decide)
theorem exS.node (h : exS V V1) {n : Nat} (hn : (n : Int) < (V.n 57).toInt) (hw : wfN V (V.n 57).toInt) : nodeOK V1 n := by
  obtain ⟨e1, e2, e3, e4⟩ := h.2.2.2.2.2.1 n hn
  have i47 := e1 47 (by decide) (by decide) (by decide)
  have i48 := e1 48 (by decide) (by decide) (by decide)
  have i49 := e1 49 (by decide) (by decide) (by decide)
  have i50 := e1 50 (by decide) (by decide) (by decide)
  have i51 := e1 51 (by decide) (by decide) (by decide)
  have i52 := e1 52 (by decide) (by decide) (by decide)
  have i54 := e1 54 (by decide) (by decide) (by decide)
  have i3 := h.1 3 (by decide) (by decide)
  have n0 := h.2.2.1 0 (by decide) (by decide)
  obtain ⟨a1, a2, a3, a4, a5, a6, a7, a8, a9, a10, a11⟩ := hw n hn
  unfold nodeOK
  rw [i47, i48, i49, i50, i51, i52, i54, i3, n0, e3, e4]
  refine ⟨a1, a2, a3, fun q => ⟨h.var (a4 q).1, (a4 q).2.imp id h.ev⟩, fun q => ⟨(a5 q).1, fun k hk => ?_⟩, fun q => h.fnd_.mpr (a6 q), fun q => ⟨(a7 q).1, h.fnd_.mpr (a7 q).2⟩, fun q => ⟨h.ev (a8 q).1, ?_⟩, a9, fun q => h.ev (a10 q), fun q => h.ev (a11 q)⟩
  · have h9 := (a5 q).1
    rw [e2 k (by omega)]
    exact h.ev ((a5 q).2 k hk)
  · rw [h.op (a8 q).1]
    exact (a8 q).2
theorem TS.ex (h : exS V V1) (hd : ∀ k : Nat, (k : Int) < (V.n 46).toInt → δ1 k = δ k) {x : Int32} {b m : Nat} (hT : TS V δ x b m) : TS V1 δ1 x b m := by
  rcases hT with q | ⟨q1, q2, q3, q4⟩
  · exact Or.inl q
  · have h1 := tnZ q1
    have h5 := h.2.2.2.2.1
    exact Or.inr ⟨q1, by omega, by rw [hd _ (by omega)]; exact q3, by rw [h.2.2.2.2.2.2 _ (by omega) 42 (by decide) (by decide)]; exact q4⟩
theorem exS.st (h : exS V V1) {s : Nat} (hs : (s : Int) < (V.n 46).toInt) (hd : ∀ k : Nat, (k : Int) < (V.n 46).toInt → δ1 k = δ k) (hok : stOK V δ s) : stOK V1 δ1 s := by
  have e := h.2.2.2.2.2.2 s hs
  have e34 := e 34 (by decide) (by decide)
  have e35 := e 35 (by decide) (by decide)
  have e36 := e 36 (by decide) (by decide)
  have e37 := e 37 (by decide) (by decide)
  have e38 := e 38 (by decide) (by decide)
  have e39 := e 39 (by decide) (by decide)
  have e40 := e 40 (by decide) (by decide)
  have e41 := e 41 (by decide) (by decide)
  have e42 := e 42 (by decide) (by decide)
  have i18 := h.1 18 (by decide) (by decide)
  have n27 := h.2.2.1 27 (by decide) (by decide)
  obtain ⟨a1, a2, a3, a4, a5, a6, a7, a8, a9, a10⟩ := hok
  unfold stOK
  rw [e34, e35, e36, e37, e38, e39, e40, e41, e42, i18, n27, hd s hs]
  exact ⟨a1, a2, a3, TS.ex h hd a4, a5, fun q => ⟨h.var (a6 q).1, (a6 q).2.imp id h.ev⟩, fun q => h.ev (a7 q), fun q => TS.ex h hd (a8 q), fun q => TS.ex h hd (a9 q), fun q => ⟨h.ev (a10 q).1, by rw [h.op (a10 q).1]; exact (a10 q).2⟩⟩
/-- V_'s and more: nodes whole, statements whole but those in U -/
def SI (V_ : PV) (δ_ : Nat → Nat) (V : PV) (δ : Nat → Nat) (U : Nat → Prop) : Prop := exS V_ V ∧ (∀ k : Nat, (k : Int) < (V_.n 46).toInt → δ k = δ_ k) ∧ wfN V (V.n 57).toInt ∧ ∀ s : Nat, (s : Int) < (V.n 46).toInt → ¬ U s → stOK V δ s
variable {V_ : PV}
theorem SI.rf (hw : wfN V (V.n 57).toInt) (hs : ∀ s : Nat, (s : Int) < (V.n 46).toInt → ¬ U s → stOK V δ s) : SI V δ V δ U := ⟨exS.rf, fun _ _ => rfl, hw, hs⟩
theorem SI.call (h : SI V_ δ_ V δ U) (h1 : SI V δ V1 δ1 U) : SI V_ δ_ V1 δ1 U := ⟨h.1.tr h1.1, fun k hk => (h1.2.1 k (Int.lt_of_lt_of_le hk h.1.2.2.2.2.1)).trans (h.2.1 k hk), h1.2.2.1, h1.2.2.2⟩
theorem SI.grow (h : SI V_ δ_ V δ U) (hX : exS V V1) (hn : (V1.n 46).toInt = (V.n 46).toInt) (hw : wfN V1 (V1.n 57).toInt) : SI V_ δ_ V1 δ U := ⟨h.1.tr hX, h.2.1, hw, fun s hs hu => hX.st (by omega) (fun _ _ => rfl) (h.2.2.2 s (by omega) hu)⟩
theorem SI.nodes (h : SI V_ δ_ V δ U) (hX : exN V V1) (hw : wfN V1 (V1.n 57).toInt) : SI V_ δ_ V1 δ U := h.grow hX.toS (by rw [hX.2.2.1 46 (by decide)]) hw
theorem SI.close {s : Nat} (h : SI V_ δ_ V δ (fun k => U k ∨ k = s)) (hs : stOK V δ s) : SI V_ δ_ V δ U := ⟨h.1, h.2.1, h.2.2.1, fun k hk hu => by
  by_cases hks : k = s
  · rw [hks]
    exact hs
  · exact h.2.2.2 k hk (fun q => q.elim hu hks)⟩
/-- what stands in statement s -/
def ST (V : PV) (s : Nat) (op va rf ix ex bl el nx o : Int32) : Prop := V.i 34 s = op ∧ V.i 35 s = va ∧ V.i 36 s = rf ∧ V.i 37 s = ix ∧ V.i 38 s = ex ∧ V.i 39 s = bl ∧ V.i 40 s = el ∧ V.i 41 s = nx ∧ V.i 42 s = o
variable {s : Nat} {op va rf ix ex bl el nx o x : Int32}
theorem ST.ex_ (h : ST V s op va rf ix ex bl el nx o) (hX : exS V V1) (hs : (s : Int) < (V.n 46).toInt) : ST V1 s op va rf ix ex bl el nx o := by
  have e := hX.2.2.2.2.2.2 s hs
  obtain ⟨a1, a2, a3, a4, a5, a6, a7, a8, a9⟩ := h
  exact ⟨(e 34 (by decide) (by decide)).trans a1, (e 35 (by decide) (by decide)).trans a2, (e 36 (by decide) (by decide)).trans a3, (e 37 (by decide) (by decide)).trans a4, (e 38 (by decide) (by decide)).trans a5, (e 39 (by decide) (by decide)).trans a6, (e 40 (by decide) (by decide)).trans a7, (e 41 (by decide) (by decide)).trans a8, (e 42 (by decide) (by decide)).trans a9⟩
theorem ST.s34 (h : ST V s op va rf ix ex bl el nx o) : ST (V.ui 34 s x) s x va rf ix ex bl el nx o := by
  obtain ⟨a1, a2, a3, a4, a5, a6, a7, a8, a9⟩ := h
  exact ⟨ui_same, (ui_ne (Or.inl (by decide))).trans a2, (ui_ne (Or.inl (by decide))).trans a3, (ui_ne (Or.inl (by decide))).trans a4, (ui_ne (Or.inl (by decide))).trans a5, (ui_ne (Or.inl (by decide))).trans a6, (ui_ne (Or.inl (by decide))).trans a7, (ui_ne (Or.inl (by decide))).trans a8, (ui_ne (Or.inl (by decide))).trans a9⟩
theorem ST.s35 (h : ST V s op va rf ix ex bl el nx o) : ST (V.ui 35 s x) s op x rf ix ex bl el nx o := by
  obtain ⟨a1, a2, a3, a4, a5, a6, a7, a8, a9⟩ := h
  exact ⟨(ui_ne (Or.inl (by decide))).trans a1, ui_same, (ui_ne (Or.inl (by decide))).trans a3, (ui_ne (Or.inl (by decide))).trans a4, (ui_ne (Or.inl (by decide))).trans a5, (ui_ne (Or.inl (by decide))).trans a6, (ui_ne (Or.inl (by decide))).trans a7, (ui_ne (Or.inl (by decide))).trans a8, (ui_ne (Or.inl (by decide))).trans a9⟩
theorem ST.s36 (h : ST V s op va rf ix ex bl el nx o) : ST (V.ui 36 s x) s op va x ix ex bl el nx o := by
  obtain ⟨a1, a2, a3, a4, a5, a6, a7, a8, a9⟩ := h
  exact ⟨(ui_ne (Or.inl (by decide))).trans a1, (ui_ne (Or.inl (by decide))).trans a2, ui_same, (ui_ne (Or.inl (by decide))).trans a4, (ui_ne (Or.inl (by decide))).trans a5, (ui_ne (Or.inl (by decide))).trans a6, (ui_ne (Or.inl (by decide))).trans a7, (ui_ne (Or.inl (by decide))).trans a8, (ui_ne (Or.inl (by decide))).trans a9⟩
theorem ST.s37 (h : ST V s op va rf ix ex bl el nx o) : ST (V.ui 37 s x) s op va rf x ex bl el nx o := by
  obtain ⟨a1, a2, a3, a4, a5, a6, a7, a8, a9⟩ := h
  exact ⟨(ui_ne (Or.inl (by decide))).trans a1, (ui_ne (Or.inl (by decide))).trans a2, (ui_ne (Or.inl (by decide))).trans a3, ui_same, (ui_ne (Or.inl (by decide))).trans a5, (ui_ne (Or.inl (by decide))).trans a6, (ui_ne (Or.inl (by decide))).trans a7, (ui_ne (Or.inl (by decide))).trans a8, (ui_ne (Or.inl (by decide))).trans a9⟩
theorem ST.s38 (h : ST V s op va rf ix ex bl el nx o) : ST (V.ui 38 s x) s op va rf ix x bl el nx o := by
  obtain ⟨a1, a2, a3, a4, a5, a6, a7, a8, a9⟩ := h
  exact ⟨(ui_ne (Or.inl (by decide))).trans a1, (ui_ne (Or.inl (by decide))).trans a2, (ui_ne (Or.inl (by decide))).trans a3, (ui_ne (Or.inl (by decide))).trans a4, ui_same, (ui_ne (Or.inl (by decide))).trans a6, (ui_ne (Or.inl (by decide))).trans a7, (ui_ne (Or.inl (by decide))).trans a8, (ui_ne (Or.inl (by decide))).trans a9⟩
theorem ST.s39 (h : ST V s op va rf ix ex bl el nx o) : ST (V.ui 39 s x) s op va rf ix ex x el nx o := by
  obtain ⟨a1, a2, a3, a4, a5, a6, a7, a8, a9⟩ := h
  exact ⟨(ui_ne (Or.inl (by decide))).trans a1, (ui_ne (Or.inl (by decide))).trans a2, (ui_ne (Or.inl (by decide))).trans a3, (ui_ne (Or.inl (by decide))).trans a4, (ui_ne (Or.inl (by decide))).trans a5, ui_same, (ui_ne (Or.inl (by decide))).trans a7, (ui_ne (Or.inl (by decide))).trans a8, (ui_ne (Or.inl (by decide))).trans a9⟩
theorem ST.s40 (h : ST V s op va rf ix ex bl el nx o) : ST (V.ui 40 s x) s op va rf ix ex bl x nx o := by
  obtain ⟨a1, a2, a3, a4, a5, a6, a7, a8, a9⟩ := h
  exact ⟨(ui_ne (Or.inl (by decide))).trans a1, (ui_ne (Or.inl (by decide))).trans a2, (ui_ne (Or.inl (by decide))).trans a3, (ui_ne (Or.inl (by decide))).trans a4, (ui_ne (Or.inl (by decide))).trans a5, (ui_ne (Or.inl (by decide))).trans a6, ui_same, (ui_ne (Or.inl (by decide))).trans a8, (ui_ne (Or.inl (by decide))).trans a9⟩
/-- one element of a statement's row is another -/
theorem exS.ui_ {j : Nat} (h : exS V_ V) (hj : 34 ≤ j ∧ j ≤ 42) (hs : (V_.n 46).toInt ≤ (s : Int)) : exS V_ (V.ui j s x) := by
  obtain ⟨a1, a2, a3, a4, a5, a6, a7⟩ := h
  refine ⟨fun j' q r => (ui_row (by omega)).trans (a1 j' q r), a2, a3, a4, a5, fun n hn => ?_, fun s' hs' j' q r => (ui_ne (Or.inr (by omega))).trans (a7 s' hs' j' q r)⟩
  obtain ⟨c1, c2, c3, c4⟩ := a6 n hn
  exact ⟨fun j' q r t => (ui_ne (Or.inl (by omega))).trans (c1 j' q r t), fun k q => (ui_ne (Or.inl (by omega))).trans (c2 k q), c3, c4⟩
theorem nd_ui {j n : Nat} (hj : 34 ≤ j ∧ j ≤ 42) : nodeOK (V.ui j s x) n ↔ nodeOK V n := by
  have e : ∀ j', (j' < 34 ∨ 42 < j') → (V.ui j s x).i j' = V.i j' := fun j' q => ui_row (by omega)
  have e2 : ∀ j', (V.ui j s x).l j' = V.l j' := fun _ => rfl
  have e3 : ∀ j', (V.ui j s x).n j' = V.n j' := fun _ => rfl
  unfold nodeOK EV varOK fnd
  rw [e 51 (by omega), e 54 (by omega), e 47 (by omega), e 50 (by omega), e 48 (by omega), e 52 (by omega), e 53 (by omega), e 3 (by omega), e 49 (by omega), e 4 (by omega), e 15 (by omega), e 14 (by omega), e2, e2, e2, e2, e3, e3]
theorem EV.ui_ {j : Nat} {y : Int32} {k : Int} {d : Nat} (hj : 34 ≤ j ∧ j ≤ 42) : EV (V.ui j s x) y k d ↔ EV V y k d := by
  unfold EV
  rw [show (V.ui j s x).i 51 = V.i 51 from ui_row (by omega), show (V.ui j s x).i 54 = V.i 54 from ui_row (by omega)]
  exact Iff.rfl
theorem st_ui {j s' : Nat} (hj : 34 ≤ j ∧ j ≤ 41) (hne : s' ≠ s) : stOK V δ s' → stOK (V.ui j s x) δ s' := by
  intro h
  have e : ∀ j', (V.ui j s x).i j' s' = V.i j' s' := fun j' => ui_ne (Or.inr hne)
  have e42 : (V.ui j s x).i 42 = V.i 42 := ui_row (by omega)
  have e18 : (V.ui j s x).i 18 = V.i 18 := ui_row (by omega)
  have e47 : (V.ui j s x).i 47 = V.i 47 := ui_row (by omega)
  have e4 : (V.ui j s x).i 4 = V.i 4 := ui_row (by omega)
  have eT : ∀ y b m, TS (V.ui j s x) δ y b m ↔ TS V δ y b m := fun y b m => by
    unfold TS
    rw [e42]
    exact Iff.rfl
  have eV : ∀ v d, varOK (V.ui j s x) v d ↔ varOK V v d := fun v d => by
    unfold varOK
    rw [e4]
  obtain ⟨a1, a2, a3, a4, a5, a6, a7, a8, a9, a10⟩ := h
  unfold stOK
  rw [e 34, e 35, e 36, e 37, e 38, e 39, e 40, e 41, e 42, e18, e47]
  exact ⟨a1, a2, a3, (eT _ _ _).mpr a4, a5, fun q => ⟨(eV _ _).mpr (a6 q).1, (a6 q).2.imp id (EV.ui_ (by omega)).mpr⟩, fun q => (EV.ui_ (by omega)).mpr (a7 q), fun q => (eT _ _ _).mpr (a8 q), fun q => (eT _ _ _).mpr (a9 q), fun q => ⟨(EV.ui_ (by omega)).mpr (a10 q).1, (a10 q).2⟩⟩
theorem SI.upd {j : Nat} (h : SI V_ δ_ V δ U) (hj : 34 ≤ j ∧ j ≤ 41) (hs : (V_.n 46).toInt ≤ (s : Int)) (hu : U s) : SI V_ δ_ (V.ui j s x) δ U := ⟨h.1.ui_ (by omega) hs, h.2.1, fun n hn => (nd_ui (by omega)).mpr (h.2.2.1 n hn), fun k hk hk2 => st_ui hj (fun e => hk2 (e ▸ hu)) (h.2.2.2 k hk hk2)⟩
theorem SI.ul_ {j : Nat} {w : Int64} (h : SI V_ δ_ V δ U) (hj : j = 43 ∨ j = 44) : SI V_ δ_ (V.ul j s w) δ U := by
  obtain ⟨⟨a1, a2, a3, a4, a5, a6, a7⟩, b, c, d⟩ := h
  have e : ∀ j', j' ≠ 43 → j' ≠ 44 → (V.ul j s w).l j' = V.l j' := fun j' q r => ul_row (by omega)
  refine ⟨⟨a1, fun j' q r t u => (e j' q r).trans (a2 j' q r t u), a3, a4, a5, fun n hn => ?_, a7⟩, b, fun n hn => ?_, d⟩
  · obtain ⟨c1, c2, c3, c4⟩ := a6 n hn
    exact ⟨c1, c2, by rw [e 55 (by decide) (by decide)]; exact c3, by rw [e 56 (by decide) (by decide)]; exact c4⟩
  · have h9 := c n hn
    unfold nodeOK fnd at h9 ⊢
    rw [e 55 (by decide) (by decide), e 56 (by decide) (by decide), e 16 (by decide) (by decide), e 17 (by decide) (by decide)]
    exact h9
theorem ST.ul_ {j k : Nat} {w : Int64} (h : ST V s op va rf ix ex bl el nx o) : ST (V.ul j k w) s op va rf ix ex bl el nx o := h
theorem SI.u24 {k : Nat} (h : SI V_ δ_ V δ U) : SI V_ δ_ (V.ui 24 k x) δ U := h.nodes (u24_ok h.2.2.1).1 (u24_ok h.2.2.1).2.1
theorem ST.u24 {k : Nat} (h : ST V s op va rf ix ex bl el nx o) : ST (V.ui 24 k x) s op va rf ix ex bl el nx o := by
  obtain ⟨a1, a2, a3, a4, a5, a6, a7, a8, a9⟩ := h
  have e : ∀ j', j' ≠ 24 → (V.ui 24 k x).i j' = V.i j' := fun j' q => ui_row q
  unfold ST
  rw [e 34 (by decide), e 35 (by decide), e 36 (by decide), e 37 (by decide), e 38 (by decide), e 39 (by decide), e 40 (by decide), e 41 (by decide), e 42 (by decide)]
  exact ⟨a1, a2, a3, a4, a5, a6, a7, a8, a9⟩
/-- the next of a whole statement -/
theorem SI.link {y : Int32} {b m : Nat} (h : SI V_ δ_ V δ U) (h0 : 0 ≤ y.toInt) (hs : (V_.n 46).toInt ≤ y.toInt) (hl : y.toInt < (V.n 46).toInt) (hu : ¬ U y.toNatClampNeg) (hb : δ y.toNatClampNeg = b) (hm : (V.i 42 y.toNatClampNeg).toNatClampNeg = m) (hx : TS V δ x b m) : SI V_ δ_ (V.ui 41 y.toNatClampNeg x) δ U := by
  have ty := tnZ h0
  refine ⟨h.1.ui_ (by omega) (by omega), h.2.1, fun n hn => (nd_ui (by omega)).mpr (h.2.2.1 n hn), fun k hk hk2 => ?_⟩
  by_cases hky : k = y.toNatClampNeg
  · subst hky
    have h1 := h.2.2.2 _ (by omega) hu
    have e : ∀ j', j' ≠ 41 → (V.ui 41 y.toNatClampNeg x).i j' = V.i j' := fun j' q => ui_row q
    have eT : ∀ z b m, TS (V.ui 41 y.toNatClampNeg x) δ z b m ↔ TS V δ z b m := fun z b m => by
      unfold TS
      rw [e 42 (by decide)]
      exact Iff.rfl
    have eV : ∀ v d, varOK (V.ui 41 y.toNatClampNeg x) v d ↔ varOK V v d := fun v d => by
      unfold varOK
      rw [e 4 (by decide)]
    obtain ⟨a1, a2, a3, a4, a5, a6, a7, a8, a9, a10⟩ := h1
    unfold stOK
    rw [ui_same, e 34 (by decide), e 35 (by decide), e 36 (by decide), e 37 (by decide), e 38 (by decide), e 39 (by decide), e 40 (by decide), e 42 (by decide), e 18 (by decide), e 47 (by decide)]
    refine ⟨a1, a2, a3, (eT _ _ _).mpr (by rw [hb, hm]; exact hx), a5, fun q => ⟨(eV _ _).mpr (a6 q).1, (a6 q).2.imp id (EV.ui_ (by omega)).mpr⟩, fun q => (EV.ui_ (by omega)).mpr (a7 q), fun q => (eT _ _ _).mpr (a8 q), fun q => (eT _ _ _).mpr (a9 q), fun q => ⟨(EV.ui_ (by omega)).mpr (a10 q).1, (a10 q).2⟩⟩
  · exact st_ui (by omega) hky (h.2.2.2 k hk hk2)
/-- a statement more: r, empty but for what it is and whose -/
def SN (V V1 : PV) (r op o : Int32) : Prop := exS V V1 ∧ r = V.n 46 ∧ (V1.n 46).toInt = r.toInt + 1 ∧ V1.n 57 = V.n 57 ∧ ST V1 r.toNatClampNeg op (-1) (-1) (-1) (-1) (-1) (-1) (-1) o ∧ (wfN V (V.n 57).toInt → wfN V1 (V1.n 57).toInt)
def PV.sd (V : PV) (s : Nat) (op o n1 : Int32) : PV := (((((((((V.ui 34 s op).ui 35 s (-1)).ui 36 s (-1)).ui 37 s (-1)).ui 38 s (-1)).ui 39 s (-1)).ui 40 s (-1)).ui 41 s (-1)).ui 42 s o).un 46 n1
theorem sd_i {n1 : Int32} (j k : Nat) : (V.sd s op o n1).i j k = if k = s then (if j = 42 then o else if 35 ≤ j ∧ j ≤ 41 then -1 else if j = 34 then op else V.i j k) else V.i j k := by
  simp only [PV.sd, PV.ui, PV.un, PV.i]
  by_cases hk : k = s
  · simp only [hk, and_true, if_true]
    by_cases h42 : j = 42
    · simp only [h42, if_true]
    · simp only [h42, if_false]
      by_cases h : 35 ≤ j ∧ j ≤ 41
      · rw [if_pos h]
        rcases (show j = 35 ∨ j = 36 ∨ j = 37 ∨ j = 38 ∨ j = 39 ∨ j = 40 ∨ j = 41 by omega) with rfl | rfl | rfl | rfl | rfl | rfl | rfl <;> rfl
      · rw [if_neg h, if_neg (by omega), if_neg (by omega), if_neg (by omega), if_neg (by omega), if_neg (by omega), if_neg (by omega), if_neg (by omega)]
  · simp only [hk, and_false, if_false]
theorem sd_SN {r n1 : Int32} (hr : r = V.n 46) (h0 : 0 ≤ r.toInt) (h1 : n1.toInt = r.toInt + 1) : SN V (V.sd r.toNatClampNeg op o n1) r op o := by
  have t0 := tnZ h0
  have hv : (V.n 46).toInt = r.toInt := by rw [← hr]
  have hl : ∀ j, (V.sd r.toNatClampNeg op o n1).l j = V.l j := fun _ => rfl
  have hn : ∀ j, j ≠ 46 → (V.sd r.toNatClampNeg op o n1).n j = V.n j := fun j q => un_ne q
  have h46 : (V.sd r.toNatClampNeg op o n1).n 46 = n1 := un_same
  have hX : exS V (V.sd r.toNatClampNeg op o n1) := by
    refine ⟨fun j q t => funext fun k => ?_, fun j _ _ _ _ => hl j, fun j q _ => hn j q, by rw [hn 57 (by decide)]; exact Int.le_refl _, by rw [h46]; omega, fun n hn => ⟨fun j q t u => ?_, fun k hk => ?_, by rw [hl], by rw [hl]⟩, fun s' hs' j q t => ?_⟩
    · rw [sd_i]
      split
      · rw [if_neg (by omega), if_neg (by omega), if_neg (by omega)]
      · rfl
    · rw [sd_i]
      split
      · rw [if_neg (by omega), if_neg (by omega), if_neg (by omega)]
      · rfl
    · rw [sd_i]
      split
      · rfl
      · rfl
    · rw [sd_i, if_neg (by omega)]
  refine ⟨hX, hr, by rw [h46]; exact h1, hn 57 (by decide), ⟨?_, ?_, ?_, ?_, ?_, ?_, ?_, ?_, ?_⟩, fun hw n hn' => hX.node (by rw [hn 57 (by decide)] at hn'; exact hn') hw⟩
  all_goals (rw [sd_i, if_pos rfl]; rfl)
theorem SI.new {r : Int32} {b : Nat} (h : SI V_ δ_ V δ U) (hN : SN V V1 r op o) (h0 : 0 ≤ r.toInt) : SI V_ δ_ V1 (fun k => if k = r.toNatClampNeg then b else δ k) (fun k => U k ∨ k = r.toNatClampNeg) := by
  obtain ⟨hX, e1, e2, e3, e4, e5⟩ := hN
  have t0 := tnZ h0
  have hv : (V.n 46).toInt = r.toInt := by rw [← e1]
  have h46 := h.1.2.2.2.2.1
  have hd : ∀ k : Nat, (k : Int) < (V.n 46).toInt → (fun k => if k = r.toNatClampNeg then b else δ k) k = δ k := fun k hk => if_neg (by omega)
  refine ⟨h.1.tr hX, fun k hk => (hd k (by omega)).trans (h.2.1 k hk), e5 h.2.2.1, fun k hk hk2 => ?_⟩
  have hkr : k ≠ r.toNatClampNeg := fun q => hk2 (Or.inr q)
  exact hX.st (by omega) hd (h.2.2.2 k (by omega) (fun q => hk2 (Or.inl q)))
/-- a statement that is whole -/
theorem st_ok {b m d : Nat} (hT : ST V s op va rf ix ex bl el nx o) (hb : δ s = b) (hb2 : 1 ≤ b ∧ b ≤ 8) (hm : o.toNatClampNeg = m) (hm2 : (m : Int) < (V.n 27).toInt) (hd : (V.i 18 m).toNatClampNeg = d) (hn : TS V δ nx b m)
    (h1 : op.toInt = 1 → 0 ≤ va.toInt ∧ va.toInt ≤ 7) (h2 : op.toInt = 2 → varOK V va d ∧ (ix.toInt = -1 ∨ EV V ix 13 d)) (h3 : 1 ≤ op.toInt ∧ op.toInt ≤ 5 → EV V ex 13 d) (h4 : op.toInt = 3 ∨ op.toInt = 4 → TS V δ bl (b + 1) m) (h5 : op.toInt = 3 → TS V δ el (b + 1) m)
    (h6 : op.toInt < 1 ∨ 6 < op.toInt → EV V rf 13 d ∧ ((V.i 47 rf.toNatClampNeg).toInt = 3 ∨ (V.i 47 rf.toNatClampNeg).toInt = 9)) : stOK V δ s := by
  obtain ⟨a1, a2, a3, a4, a5, a6, a7, a8, a9⟩ := hT
  unfold stOK
  rw [a1, a2, a3, a4, a5, a6, a7, a8, a9, hb, hm, hd]
  exact ⟨hb2.1, hb2.2, hm2, hn, h1, h2, h3, h4, h5, h6⟩
end EXS
/-- behind a statement, or a block, that was read -/
def rdS (L : List Nat) (kd : Nat → Nat) (f0 : Nat → va_E) (a q : Nat) (V : PV) (δ : Nat → Nat) (U : Nat → Prop) (f : Nat → va_E) (k : Nat) (P : PV → (Nat → Nat) → Prop) : Prop :=
  ∃ (V1 : PV) (δ1 : Nat → Nat), isV f q V1 ∧ FR L kd f0 f q ∧ SI V δ V1 δ1 U ∧ P V1 δ1 ∧ (V1.n 57).toInt - (V.n 57).toInt ≤ cF f a - cF f0 a ∧ 2 * ((V1.n 46).toInt - (V.n 46).toInt) ≤ cF f a - cF f0 a ∧ 2 * (k : Int) ≤ cF f a - cF f0 a ∧ cF f0 a + 1 ≤ cF f a
theorem rds_use {L : List Nat} {kd : Nat → Nat} {f0 f : Nat → va_E} {a q : Nat} {V : PV} {δ : Nat → Nat} {U : Nat → Prop} {E0 : Int} {k : Nat} {P : PV → (Nat → Nat) → Prop} (h : rdS L kd f0 a q V δ U f k P) (h0 : cEq f0 a E0) : ∃ (V1 : PV) (δ1 : Nat → Nat) (E : Int), isV f q V1 ∧ FR L kd f0 f q ∧ cEq f a E ∧ SI V δ V1 δ1 U ∧ P V1 δ1 ∧ (V1.n 57).toInt - (V.n 57).toInt ≤ E - E0 ∧ 2 * ((V1.n 46).toInt - (V.n 46).toInt) ≤ E - E0 ∧ 2 * (k : Int) ≤ E - E0 ∧ E0 + 1 ≤ E := by
  obtain ⟨V1, δ1, h1, h2, h3, h4, h5, h6, h7, h8⟩ := h
  unfold cEq at h0
  rw [h0] at h5 h6 h7 h8
  exact ⟨V1, δ1, cF f a, h1, h2, rfl, h3, h4, h5, h6, h7, h8⟩
/-- a statement of member m at level b among the new -/
def isS (V : PV) (r : Int32) (b m : Nat) (V1 : PV) (δ1 : Nat → Nat) : Prop := (V.n 46).toInt ≤ r.toInt ∧ r.toInt < (V1.n 46).toInt ∧ δ1 r.toNatClampNeg = b ∧ (V1.i 42 r.toNatClampNeg).toNatClampNeg = m
theorem isS.ts {V V1 : PV} {r : Int32} {b m : Nat} {δ1 : Nat → Nat} (h : isS V r b m V1 δ1) (h0 : 0 ≤ (V.n 46).toInt) : TS V1 δ1 r b m := Or.inr ⟨Int.le_trans h0 h.1, h.2.1, h.2.2.1, h.2.2.2⟩
section EXS2
variable {V V1 V2 V_ : PV} {δ δ1 δ_ : Nat → Nat} {U : Nat → Prop} {s : Nat} {op va rf ix ex bl el nx o x r : Int32}
theorem SI.newE {b : Nat} (h : SI V_ δ_ V δ U) (hN : SN V V1 r op o) (h0 : 0 ≤ r.toInt) : ∃ D : Nat → Nat, D r.toNatClampNeg = b ∧ SI V_ δ_ V1 D (fun k => U k ∨ k = r.toNatClampNeg) := ⟨fun k => if k = r.toNatClampNeg then b else δ k, if_pos rfl, SI.new h hN h0⟩
theorem TS.ui_ {j : Nat} {y : Int32} {b m : Nat} (hj : j ≠ 42) (h : TS V δ y b m) : TS (V.ui j s x) δ y b m := by
  unfold TS at h ⊢
  rw [show (V.ui j s x).i 42 = V.i 42 from ui_row (by omega)]
  exact h
theorem var_ui {j : Nat} {v : Int32} {d : Nat} (hj : j ≠ 4) (h : varOK V v d) : varOK (V.ui j s x) v d := by
  unfold varOK at h ⊢
  rw [show (V.ui j s x).i 4 = V.i 4 from ui_row (by omega)]
  exact h
theorem isS.ui_ {j : Nat} {b m : Nat} (hj : j ≠ 42) (h : isS V r b m V1 δ) : isS V r b m (V1.ui j s x) δ := by
  unfold isS at h ⊢
  rw [show (V1.ui j s x).i 42 = V1.i 42 from ui_row (by omega)]
  exact h
theorem isS.ex_ {b m : Nat} (h : isS V r b m V1 δ) (h0 : 0 ≤ (V.n 46).toInt) (hX : exS V1 V2) (hd : ∀ k : Nat, (k : Int) < (V1.n 46).toInt → δ1 k = δ k) : isS V r b m V2 δ1 := by
  obtain ⟨h1, h2, h3, h4⟩ := h
  have t := tnZ (i := r) (by omega)
  have h5 := hX.2.2.2.2.1
  exact ⟨h1, by omega, by rw [hd _ (by omega)]; exact h3, by rw [hX.2.2.2.2.2.2 _ (by omega) 42 (by decide) (by decide)]; exact h4⟩
theorem isS.base {b m : Nat} (h : isS V r b m V1 δ) (hX : exS V_ V) : isS V_ r b m V1 δ := ⟨Int.le_trans hX.2.2.2.2.1 h.1, h.2⟩
theorem nd_var {n : Int32} {k : Int} {d : Nat} (hw : wfN V (V.n 57).toInt) (hE : EV V n k d) (h2 : (V.i 47 n.toNatClampNeg).toInt = 2) (e : x = V.i 50 n.toNatClampNeg) : varOK V x d := by
  obtain ⟨-, -, -, h, -⟩ := hw n.toNatClampNeg (by rw [tnZ hE.1]; exact hE.2.1)
  have := (h h2).1
  rw [hE.2.2.2, ← e] at this
  exact this
theorem nd_idx {n : Int32} {k : Int} {d : Nat} (hw : wfN V (V.n 57).toInt) (hE : EV V n k d) (hk : k ≤ 13) (h2 : (V.i 47 n.toNatClampNeg).toInt = 2) (e : x = V.i 48 n.toNatClampNeg) : x.toInt = -1 ∨ EV V x 13 d := by
  obtain ⟨-, h1, -, h, -⟩ := hw n.toNatClampNeg (by rw [tnZ hE.1]; exact hE.2.1)
  have := (h h2).2
  rw [hE.2.2.2, ← e] at this
  exact this.imp id (fun h => h.up (by omega))
theorem u24_n {k : Nat} : exN V (V.ui 24 k x) ∧ (wfN V (V.n 57).toInt → wfN (V.ui 24 k x) ((V.ui 24 k x).n 57).toInt) ∧ ((V.ui 24 k x).n 57).toInt = (V.n 57).toInt := by
  have hX : exN V (V.ui 24 k x) := ⟨fun j q r => ui_row q, fun _ _ _ => rfl, fun _ _ => rfl, Int.le_refl _, fun n hn => ⟨fun j q r t => ui_ne (Or.inl (by omega)), fun k' hk' => ui_ne (Or.inl (by decide)), rfl, rfl⟩⟩
  exact ⟨hX, fun hw n hn => hX.node hn hw, rfl⟩
theorem tn1 {y z : Int32} (h0 : 0 ≤ z.toInt) (h : y.toInt = z.toInt + 1) : y.toNatClampNeg = z.toNatClampNeg + 1 := by
  have h1 := tnZ h0
  have h2 := tnZ (i := y) (by omega)
  omega
end EXS2
theorem exN.n46 {V V1 : PV} (h : exN V V1) : V1.n 46 = V.n 46 := h.2.2.1 46 (by decide)
theorem lv_bd {y : Int32} (h : bd 1 8 y) : 1 ≤ y.toNatClampNeg ∧ y.toNatClampNeg ≤ 8 := by
  have h1 := h.1
  have h2 := h.2
  have h3 := tnZ (i := y) (by omega)
  exact ⟨by omega, by omega⟩
theorem op2_ui {V : PV} {j s k : Nat} {x : Int32} (hj : j ≠ 47) (h : (V.i 47 k).toInt = 2) : ((V.ui j s x).i 47 k).toInt = 2 := by
  rw [show (V.ui j s x).i 47 = V.i 47 from ui_row (by omega)]
  exact h
theorem ts_bd {V : PV} {δ : Nat → Nat} {x : Int32} {b m : Nat} (h : TS V δ x b m) (hn : (V.n 46).toInt ≤ 700) : bd (-1) 699 x := by
  rcases h with q | ⟨q1, q2, -⟩
  · exact ⟨by omega, by omega⟩
  · exact ⟨by omega, by omega⟩
theorem op_ui {V : PV} {j s k : Nat} {x : Int32} (hj : j ≠ 47) (h : (V.i 47 k).toInt = 3 ∨ (V.i 47 k).toInt = 9) : ((V.ui j s x).i 47 k).toInt = 3 ∨ ((V.ui j s x).i 47 k).toInt = 9 := by
  rw [show (V.ui j s x).i 47 = V.i 47 from ui_row (by omega)]
  exact h
