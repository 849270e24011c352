/-- a view with only some of its rows -/
def nrm (u w z : Nat → Bool) (V : PV) : PV := (fun j k => if u j then V.i j k else 0, fun j k => if w j then V.l j k else 0, fun j => if z j then V.n j else 0)
def mk (L : List Nat) (j : Nat) : Bool := L.contains j
abbrev nNO : PV → PV := nrm (mk [3, 4, 14, 15, 47, 48, 49, 50, 51, 52, 53, 54]) (mk [16, 17, 55, 56]) (mk [0, 57])
abbrev nST : PV → PV := nrm (mk [4, 18, 34, 35, 36, 37, 38, 39, 40, 41, 42, 47, 51, 54]) (mk []) (mk [27, 46, 57])
abbrev nCL : PV → PV := nrm (mk [3, 4, 8, 9, 11, 13, 14, 15, 18, 51, 54]) (mk [16, 17]) (mk [27, 57])
abbrev nME : PV → PV := nrm (mk [18, 19, 20, 21, 22, 23, 28, 29, 42, 51, 54]) (mk []) (mk [0, 46, 57])
section KIS
variable {V V1 V2 : PV} {δ δ1 : Nat → Nat} {c k n s m j : Nat} {x : Int32} {w : Int64}
theorem no_n : nodeOK (nNO V) n ↔ nodeOK V n := Iff.rfl
theorem st_n : stOK (nST V) δ s ↔ stOK V δ s := Iff.rfl
theorem cl_n : claOK (nCL V) c ↔ claOK V c := Iff.rfl
theorem me_n : memOK (nME V) δ m ↔ memOK V δ m := Iff.rfl
theorem nrm_ui {u w z : Nat → Bool} (h : u j = false) : nrm u w z (V.ui j k x) = nrm u w z V := by
  unfold nrm
  congr 1
  funext j' k'
  by_cases hj : j' = j
  · subst hj
    rw [if_neg (by rw [h]; decide), if_neg (by rw [h]; decide)]
  · rw [ui_ne (Or.inl hj)]
theorem nrm_ul {u w' z : Nat → Bool} (h : w' j = false) : nrm u w' z (V.ul j k w) = nrm u w' z V := by
  unfold nrm
  congr 2
  funext j' k'
  by_cases hj : j' = j
  · subst hj
    rw [if_neg (by rw [h]; decide), if_neg (by rw [h]; decide)]
  · rw [ul_ne (Or.inl hj)]
theorem nrm_un {u w z : Nat → Bool} (h : z j = false) : nrm u w z (V.un j x) = nrm u w z V := by
  unfold nrm
  congr 2
  funext j'
  by_cases hj : j' = j
  · subst hj
    rw [if_neg (by rw [h]; decide), if_neg (by rw [h]; decide)]
  · rw [un_ne hj]
theorem no_cg (h : nNO V1 = nNO V) : nodeOK V1 n ↔ nodeOK V n := by rw [← no_n, h, no_n]
theorem st_cg (h : nST V1 = nST V) : stOK V1 δ s ↔ stOK V δ s := by rw [← st_n, h, st_n]
theorem cl_cg (h : nCL V1 = nCL V) : claOK V1 c ↔ claOK V c := by rw [← cl_n, h, cl_n]
theorem me_cg (h : nME V1 = nME V) : memOK V1 δ m ↔ memOK V δ m := by rw [← me_n, h, me_n]
/-- how many of the first k members of class c were told there -/
def cMc (V : PV) (c : Nat) : Nat → Nat
  | 0 => 0
  | k + 1 => cMc V c k + if (V.i 18 (V.i 14 (12 * c + k)).toNatClampNeg).toNatClampNeg = c then 1 else 0
theorem cMc_le : cMc V c k ≤ k := by
  induction k with
  | zero => exact Nat.le_refl _
  | succ k ih =>
    show cMc V c k + _ ≤ k + 1
    split <;> omega
theorem cMc_cg (h : ∀ j, j < k → (V1.i 18 (V1.i 14 (12 * c + j)).toNatClampNeg).toNatClampNeg = (V.i 18 (V.i 14 (12 * c + j)).toNatClampNeg).toNatClampNeg) : cMc V1 c k = cMc V c k := by
  induction k with
  | zero => rfl
  | succ k ih =>
    show cMc V1 c k + _ = cMc V c k + _
    rw [ih (fun j hj => h j (by omega)), h k (by omega)]
theorem cMc_ui {i : Nat} (h : j ≠ 14) (h' : j ≠ 18) : cMc (V.ui j i x) c k = cMc V c k := cMc_cg (fun z _ => by rw [show (V.ui j i x).i 14 = V.i 14 from ui_row (by omega), show (V.ui j i x).i 18 = V.i 18 from ui_row (by omega)])
/-- the program between two tellings of the class o: all whole; members are of no later class; no more members than places -/
def KI (V : PV) (δ : Nat → Nat) (o : Nat) : Prop := wfP V δ ∧ (∀ c : Nat, (c : Int) < (V.n 0).toInt → ∀ k : Nat, (k : Int) < (V.i 15 c).toInt → (V.i 18 (V.i 14 (12 * c + k)).toNatClampNeg).toNatClampNeg ≤ c) ∧ (V.n 27).toInt ≤ 12 * (o : Int) + (cMc V o (V.i 15 o).toNatClampNeg : Int) ∧ (V.n 0).toInt = (o : Int) + 1
abbrev nKI : PV → PV := nrm (mk [3, 4, 8, 9, 11, 13, 14, 15, 18, 19, 20, 21, 22, 23, 28, 29, 34, 35, 36, 37, 38, 39, 40, 41, 42, 47, 48, 49, 50, 51, 52, 53, 54]) (mk [16, 17, 55, 56]) (mk [0, 27, 46, 57])
theorem cMc_n : cMc (nKI V) c k = cMc V c k := by
  induction k with
  | zero => rfl
  | succ k ih =>
    show cMc (nKI V) c k + _ = cMc V c k + _
    rw [ih]
    rfl
theorem KI_n {o : Nat} : KI (nKI V) δ o ↔ KI V δ o := by
  unfold KI
  rw [cMc_n]
  exact Iff.rfl
theorem KI.cg {o : Nat} (hK : KI V δ o) (h : nKI V1 = nKI V) : KI V1 δ o := by
  rw [← KI_n, h, KI_n]
  exact hK
/-- rows that nothing asks -/
theorem KI.ui_ {o : Nat} (hK : KI V δ o) (h : mk [3, 4, 8, 9, 11, 13, 14, 15, 18, 19, 20, 21, 22, 23, 28, 29, 34, 35, 36, 37, 38, 39, 40, 41, 42, 47, 48, 49, 50, 51, 52, 53, 54] j = false) : KI (V.ui j k x) δ o := hK.cg (nrm_ui h)
theorem KI.ul_ {o : Nat} (hK : KI V δ o) (h : mk [16, 17, 55, 56] j = false) : KI (V.ul j k w) δ o := hK.cg (nrm_ul h)
end KIS
section KIG
variable {V V1 V2 : PV} {δ δ1 : Nat → Nat} {c d k n s m j o : Nat} {x y : Int32} {w : Int64}
theorem exS.II_ (h : exS V V1) : II V1 c d ↔ II V c d := by
  unfold II
  rw [h.1 4 (by decide) (by decide)]
  constructor
  · rintro ⟨h1, h2⟩
    exact ⟨h1, fun a b q => h.fnd_.mp (h2 a b (h.fnd_.mpr q))⟩
  · rintro ⟨h1, h2⟩
    exact ⟨h1, fun a b q => h.fnd_.mpr (h2 a b (h.fnd_.mp q))⟩
theorem exS.cla (h : exS V V1) (hc : claOK V c) : claOK V1 c := by
  obtain ⟨a1, a2, a3, a4⟩ := hc
  unfold claOK
  rw [h.1 3 (by decide) (by decide), h.1 15 (by decide) (by decide), h.1 14 (by decide) (by decide), h.1 18 (by decide) (by decide), h.1 4 (by decide) (by decide), h.1 9 (by decide) (by decide), h.1 8 (by decide) (by decide), h.1 13 (by decide) (by decide), h.1 11 (by decide) (by decide), h.2.2.1 27 (by decide) (by decide)]
  exact ⟨a1.imp id (fun q => ⟨q.1, q.2.1, h.II_.mpr q.2.2⟩), fun k hk => ⟨(a2 k hk).1, h.II_.mpr (a2 k hk).2⟩, a3, fun k hk => h.ev (a4 k hk)⟩
theorem exS.mem (h : exS V V1) (hd : ∀ k : Nat, (k : Int) < (V.n 46).toInt → δ1 k = δ k) (hm : memOK V δ m) : memOK V1 δ1 m := by
  obtain ⟨a1, a2, a3, a4⟩ := hm
  unfold memOK
  rw [h.1 18 (by decide) (by decide), h.1 23 (by decide) (by decide), h.1 22 (by decide) (by decide), h.1 28 (by decide) (by decide), h.1 29 (by decide) (by decide), h.1 19 (by decide) (by decide), h.1 20 (by decide) (by decide), h.1 21 (by decide) (by decide), h.2.2.1 0 (by decide) (by decide)]
  exact ⟨a1, TS.ex h hd a2, fun k hk => ⟨fun q => h.ev ((a3 k hk).1 q), fun q => ((a3 k hk).2 q).imp id h.ev⟩, a4⟩
theorem KI.grow (hK : KI V δ o) (hS : SI V δ V1 δ1 (fun _ => False)) (h57 : (V1.n 57).toInt ≤ 2500) (h46 : (V1.n 46).toInt ≤ 700) : KI V1 δ1 o := by
  obtain ⟨hX, hd, hn, hs⟩ := hS
  obtain ⟨⟨w1, w2, w3, w4, w5, w6, w7, w8⟩, x1, x2, x3⟩ := hK
  have n27 := hX.2.2.1 27 (by decide) (by decide)
  have n0 := hX.2.2.1 0 (by decide) (by decide)
  have i14 := hX.1 14 (by decide) (by decide)
  have i15 := hX.1 15 (by decide) (by decide)
  have i18 := hX.1 18 (by decide) (by decide)
  refine ⟨⟨hn, fun s h => hs s h (fun q => q), fun c h => hX.cla (w3 c (by rw [← n0]; exact h)), fun m h => hX.mem hd (w4 m (by rw [← n27]; exact h)), h57, h46, by rw [n27]; exact w7, by rw [n0]; exact w8⟩, ?_, ?_, by rw [n0]; exact x3⟩
  · rw [n0, i14, i15, i18]
    exact x1
  · rw [n27, i15, cMc_cg (V := V) (fun j _ => by rw [i14, i18])]
    exact x2
theorem KI.si (hK : KI V δ o) : SI V δ V δ (fun _ => False) := SI.rf hK.1.1 (fun s hs _ => hK.1.2.1 s hs)
theorem KI.nodes (hK : KI V δ o) (hX : exN V V1) (hw : wfN V1 (V1.n 57).toInt) (h57 : (V1.n 57).toInt ≤ 2500) : KI V1 δ o := hK.grow (hK.si.nodes hX hw) h57 (by rw [hX.2.2.1 46 (by decide)]; exact hK.1.2.2.2.2.2.1)
/-- the open class's next condition -/
theorem KI.u11 (hK : KI V δ o) (hb : ∀ c, c < 9 → (V.i 13 c).toInt ≤ 8) (h0 : 0 ≤ (V.i 13 o).toInt) (ho : o < 8) (hk : (k : Int) = 8 * (o : Int) + (V.i 13 o).toInt) : KI (V.ui 11 k x) δ o := by
  obtain ⟨⟨w1, w2, w3, w4, w5, w6, w7, w8⟩, x1, x2, x3⟩ := hK
  refine ⟨⟨fun n h => (no_cg (nrm_ui (by decide))).mpr (w1 n h), fun s h => (st_cg (nrm_ui (by decide))).mpr (w2 s h), fun c h => ?_, fun m h => (me_cg (nrm_ui (by decide))).mpr (w4 m h), w5, w6, w7, w8⟩, x1, ?_, x3⟩
  · obtain ⟨a1, a2, a3, a4⟩ := w3 c h
    refine ⟨a1, a2, a3, fun k' hk' => ?_⟩
    have h : (c : Int) < (V.n 0).toInt := h
    have hk' : (k' : Int) < (V.i 13 c).toInt := hk'
    have h9 := hb c (by omega)
    have hne : 8 * c + k' ≠ k := by
      by_cases hco : c = o
      · subst hco
        omega
      · omega
    rw [show (V.ui 11 k x).i 11 (8 * c + k') = V.i 11 (8 * c + k') from ui_ne (Or.inr hne)]
    exact a4 k' hk'
  · rw [cMc_ui (by decide) (by decide)]
    exact x2
theorem KI.u13 (hK : KI V δ o) (h0 : 0 ≤ (V.i 13 o).toInt) (hy : y.toInt = (V.i 13 o).toInt + 1) (hE : EV V (V.i 11 (8 * o + (V.i 13 o).toNatClampNeg)) 13 o) : KI (V.ui 13 o y) δ o := by
  obtain ⟨⟨w1, w2, w3, w4, w5, w6, w7, w8⟩, x1, x2, x3⟩ := hK
  have t0 := tnZ h0
  refine ⟨⟨fun n h => (no_cg (nrm_ui (by decide))).mpr (w1 n h), fun s h => (st_cg (nrm_ui (by decide))).mpr (w2 s h), fun c h => ?_, fun m h => (me_cg (nrm_ui (by decide))).mpr (w4 m h), w5, w6, w7, w8⟩, x1, (by rw [cMc_ui (by decide) (by decide)]; exact x2), x3⟩
  obtain ⟨a1, a2, a3, a4⟩ := w3 c h
  refine ⟨a1, a2, a3, fun k' hk' => ?_⟩
  show EV V (V.i 11 (8 * c + k')) 13 c
  by_cases hco : c = o
  · subst hco
    rw [ui_same] at hk'
    by_cases hkk : (k' : Int) < (V.i 13 c).toInt
    · exact a4 k' hkk
    · have : k' = (V.i 13 c).toNatClampNeg := by omega
      rw [this]
      exact hE
  · rw [ui_ne (Or.inr hco)] at hk'
    exact a4 k' hk'
/-- the next condition of member m -/
theorem KI.u28 {a : Nat} (hK : KI V δ o) (hj : j = 28 ∨ j = 29) (hb : ∀ m, m < 110 → (V.i 22 m).toInt ≤ 8) (h0 : 0 ≤ (V.i 22 a).toInt) (hk : (k : Int) = 8 * (a : Int) + (V.i 22 a).toInt) (h7 : (V.i 22 a).toInt ≤ 7) : KI (V.ui j k x) δ o := by
  obtain ⟨⟨w1, w2, w3, w4, w5, w6, w7, w8⟩, x1, x2, x3⟩ := hK
  refine ⟨⟨fun n h => (no_cg (nrm_ui (by rcases hj with rfl | rfl <;> decide))).mpr (w1 n h), fun s h => (st_cg (nrm_ui (by rcases hj with rfl | rfl <;> decide))).mpr (w2 s h), fun c h => (cl_cg (nrm_ui (by rcases hj with rfl | rfl <;> decide))).mpr (w3 c h), fun m h => ?_, w5, w6, w7, w8⟩, fun c h k' hk' => ?_, ?_, x3⟩
  · obtain ⟨a1, a2, a3, a4⟩ := w4 m h
    have hn : ∀ j', j' ≠ 28 → j' ≠ 29 → (V.ui j k x).i j' = V.i j' := fun j' q r => ui_row (by omega)
    unfold memOK TS EV
    rw [hn 18 (by decide) (by decide), hn 23 (by decide) (by decide), hn 42 (by decide) (by decide), hn 22 (by decide) (by decide), hn 51 (by decide) (by decide), hn 54 (by decide) (by decide), hn 19 (by decide) (by decide), hn 20 (by decide) (by decide), hn 21 (by decide) (by decide)]
    refine ⟨a1, a2, fun k' hk' => ?_, a4⟩
    have h : (m : Int) < (V.n 27).toInt := h
    have h9 := hb m (by omega)
    have hne : 8 * m + k' ≠ k := by
      by_cases hma : m = a
      · subst hma
        omega
      · omega
    rw [show (V.ui j k x).i 28 (8 * m + k') = V.i 28 (8 * m + k') from ui_ne (Or.inr hne), show (V.ui j k x).i 29 (8 * m + k') = V.i 29 (8 * m + k') from ui_ne (Or.inr hne)]
    exact a3 k' hk'
  · have hn : ∀ j', j' ≠ 28 → j' ≠ 29 → (V.ui j k x).i j' = V.i j' := fun j' q r => ui_row (by omega)
    rw [hn 15 (by decide) (by decide)] at hk'
    rw [hn 18 (by decide) (by decide), hn 14 (by decide) (by decide)]
    exact x1 c h k' hk'
  · have hn : ∀ j', j' ≠ 28 → j' ≠ 29 → (V.ui j k x).i j' = V.i j' := fun j' q r => ui_row (by omega)
    rw [hn 15 (by decide) (by decide), cMc_cg (V := V) (fun j' _ => by rw [hn 14 (by decide) (by decide), hn 18 (by decide) (by decide)])]
    exact x2
theorem KI.u22 {a : Nat} (hK : KI V δ o) (h0 : 0 ≤ (V.i 22 a).toInt) (hy : y.toInt = (V.i 22 a).toInt + 1)
    (hE : ((V.i 28 (8 * a + (V.i 22 a).toNatClampNeg)).toInt = 1 ∨ (V.i 28 (8 * a + (V.i 22 a).toNatClampNeg)).toInt = 2 → EV V (V.i 29 (8 * a + (V.i 22 a).toNatClampNeg)) 13 (V.i 18 a).toNatClampNeg) ∧ ((V.i 28 (8 * a + (V.i 22 a).toNatClampNeg)).toInt = 5 → (V.i 29 (8 * a + (V.i 22 a).toNatClampNeg)).toInt = -1 ∨ EV V (V.i 29 (8 * a + (V.i 22 a).toNatClampNeg)) 13 (V.i 18 a).toNatClampNeg)) : KI (V.ui 22 a y) δ o := by
  obtain ⟨⟨w1, w2, w3, w4, w5, w6, w7, w8⟩, x1, x2, x3⟩ := hK
  have t0 := tnZ h0
  refine ⟨⟨fun n h => (no_cg (nrm_ui (by decide))).mpr (w1 n h), fun s h => (st_cg (nrm_ui (by decide))).mpr (w2 s h), fun c h => (cl_cg (nrm_ui (by decide))).mpr (w3 c h), fun m h => ?_, w5, w6, w7, w8⟩, x1, (by rw [cMc_ui (by decide) (by decide)]; exact x2), x3⟩
  obtain ⟨a1, a2, a3, a4⟩ := w4 m h
  refine ⟨a1, a2, fun k' hk' => ?_, a4⟩
  show ((V.i 28 (8 * m + k')).toInt = 1 ∨ (V.i 28 (8 * m + k')).toInt = 2 → EV V (V.i 29 (8 * m + k')) 13 (V.i 18 m).toNatClampNeg) ∧ ((V.i 28 (8 * m + k')).toInt = 5 → (V.i 29 (8 * m + k')).toInt = -1 ∨ EV V (V.i 29 (8 * m + k')) 13 (V.i 18 m).toNatClampNeg)
  by_cases hma : m = a
  · subst hma
    rw [ui_same] at hk'
    by_cases hkk : (k' : Int) < (V.i 22 m).toInt
    · exact a3 k' hkk
    · have : k' = (V.i 22 m).toNatClampNeg := by omega
      rw [this]
      exact hE
  · rw [ui_ne (Or.inr hma)] at hk'
    exact a3 k' hk'
/-- the open class's next field -/
theorem KI.u89 (hK : KI V δ o) (hj : j = 8 ∨ j = 9) (hb : ∀ c, c < 9 → (V.i 4 c).toInt ≤ 10) (h0 : 0 ≤ (V.i 4 o).toInt) (hk : (k : Int) = 10 * (o : Int) + (V.i 4 o).toInt) (h9 : (V.i 4 o).toInt ≤ 9) : KI (V.ui j k x) δ o := by
  obtain ⟨⟨w1, w2, w3, w4, w5, w6, w7, w8⟩, x1, x2, x3⟩ := hK
  have hn : ∀ j', j' ≠ 8 → j' ≠ 9 → (V.ui j k x).i j' = V.i j' := fun j' q r => ui_row (by omega)
  refine ⟨⟨fun n h => (no_cg (nrm_ui (by rcases hj with rfl | rfl <;> decide))).mpr (w1 n h), fun s h => (st_cg (nrm_ui (by rcases hj with rfl | rfl <;> decide))).mpr (w2 s h), fun c h => ?_, fun m h => (me_cg (nrm_ui (by rcases hj with rfl | rfl <;> decide))).mpr (w4 m h), w5, w6, w7, w8⟩, fun c h k' hk' => ?_, ?_, x3⟩
  · obtain ⟨a1, a2, a3, a4⟩ := w3 c h
    unfold claOK II fnd EV
    rw [hn 3 (by decide) (by decide), hn 4 (by decide) (by decide), hn 15 (by decide) (by decide), hn 14 (by decide) (by decide), hn 18 (by decide) (by decide), hn 13 (by decide) (by decide), hn 11 (by decide) (by decide), hn 51 (by decide) (by decide), hn 54 (by decide) (by decide)]
    refine ⟨a1, a2, fun v hv => ?_, a4⟩
    have h : (c : Int) < (V.n 0).toInt := h
    have h8 := hb c (by omega)
    have hne : 10 * c + v ≠ k := by
      by_cases hco : c = o
      · subst hco
        omega
      · omega
    rw [show (V.ui j k x).i 9 (10 * c + v) = V.i 9 (10 * c + v) from ui_ne (Or.inr hne), show (V.ui j k x).i 8 (10 * c + v) = V.i 8 (10 * c + v) from ui_ne (Or.inr hne)]
    exact a3 v hv
  · rw [hn 15 (by decide) (by decide)] at hk'
    rw [hn 18 (by decide) (by decide), hn 14 (by decide) (by decide)]
    exact x1 c h k' hk'
  · rw [hn 15 (by decide) (by decide), cMc_cg (V := V) (fun j' _ => by rw [hn 14 (by decide) (by decide), hn 18 (by decide) (by decide)])]
    exact x2
theorem var4 {v : Int32} (hy : (V.i 4 o).toInt ≤ y.toInt) (hv : varOK V v d) : varOK (V.ui 4 o y) v d := by
  unfold varOK at hv ⊢
  rcases hv with q | q
  · by_cases hd : d = o
    · subst hd
      rw [ui_same]
      exact Or.inl ⟨q.1, q.2.1, by omega⟩
    · rw [ui_ne (Or.inr hd)]
      exact Or.inl q
  · exact Or.inr q
theorem KI.u4 (hK : KI V δ o) (h0 : 0 ≤ (V.i 4 o).toInt) (hy : y.toInt = (V.i 4 o).toInt + 1) (hf : (V.i 9 (10 * o + (V.i 4 o).toNatClampNeg)).toInt ≤ 23 ∧ (V.i 9 (10 * o + (V.i 4 o).toNatClampNeg)).toInt + (V.i 8 (10 * o + (V.i 4 o).toNatClampNeg)).toInt ≤ 24) : KI (V.ui 4 o y) δ o := by
  obtain ⟨⟨w1, w2, w3, w4, w5, w6, w7, w8⟩, x1, x2, x3⟩ := hK
  have t0 := tnZ h0
  have hn : ∀ j', j' ≠ 4 → (V.ui 4 o y).i j' = V.i j' := fun j' q => ui_row q
  have hl : ∀ j', (V.ui 4 o y).l j' = V.l j' := fun _ => rfl
  have hz : ∀ j', (V.ui 4 o y).n j' = V.n j' := fun _ => rfl
  have hv : ∀ v d, varOK V v d → varOK (V.ui 4 o y) v d := fun v d q => var4 (by omega) q
  have hf0 : ∀ c a b, fnd (V.ui 4 o y) c a b ↔ fnd V c a b := fun c a b => by
    unfold fnd
    rw [hn 15 (by decide), hn 14 (by decide)]
    exact Iff.rfl
  have hE : ∀ z h d, EV (V.ui 4 o y) z h d ↔ EV V z h d := fun z h d => by
    unfold EV
    rw [hn 51 (by decide), hn 54 (by decide)]
    exact Iff.rfl
  have hT : ∀ z b m, TS (V.ui 4 o y) δ z b m ↔ TS V δ z b m := fun z b m => by
    unfold TS
    rw [hn 42 (by decide)]
    exact Iff.rfl
  have hII : ∀ c d, (c = o → d ≤ o) → (c ≠ o → d ≠ o) → II V c d → II (V.ui 4 o y) c d := fun c d q1 q2 h => by
    refine ⟨?_, fun a b q => (hf0 c a b).mpr (h.2 a b ((hf0 d a b).mp q))⟩
    have h1 := h.1
    by_cases hc : c = o
    · by_cases hd : d = o
      · rw [hc, hd]
        exact Int.le_refl _
      · rw [hc] at h1 ⊢
        rw [ui_same, ui_ne (Or.inr hd)]
        omega
    · rw [ui_ne (Or.inr hc), ui_ne (Or.inr (q2 hc))]
      exact h1
  refine ⟨⟨fun n h => ?_, fun s h => ?_, fun c h => ?_, fun m h => (me_cg (nrm_ui (by decide))).mpr (w4 m h), w5, w6, w7, w8⟩, fun c h k' hk' => ?_, ?_, x3⟩
  · obtain ⟨a1, a2, a3, a4, a5, a6, a7, a8, a9, a10, a11⟩ := w1 n h
    unfold nodeOK
    rw [hn 51 (by decide), hn 54 (by decide), hn 47 (by decide), hn 50 (by decide), hn 48 (by decide), hn 52 (by decide), hn 53 (by decide), hn 3 (by decide), hn 49 (by decide), hl, hl, hz]
    exact ⟨a1, a2, a3, fun q => ⟨hv _ _ (a4 q).1, (a4 q).2.imp id (hE _ _ _).mpr⟩, fun q => ⟨(a5 q).1, fun k hk => (hE _ _ _).mpr ((a5 q).2 k hk)⟩, fun q => (hf0 _ _ _).mpr (a6 q), fun q => ⟨(a7 q).1, (hf0 _ _ _).mpr (a7 q).2⟩, fun q => ⟨(hE _ _ _).mpr (a8 q).1, (a8 q).2⟩, a9, fun q => (hE _ _ _).mpr (a10 q), fun q => (hE _ _ _).mpr (a11 q)⟩
  · obtain ⟨a1, a2, a3, a4, a5, a6, a7, a8, a9, a10⟩ := w2 s h
    unfold stOK
    rw [hn 34 (by decide), hn 35 (by decide), hn 36 (by decide), hn 37 (by decide), hn 38 (by decide), hn 39 (by decide), hn 40 (by decide), hn 41 (by decide), hn 42 (by decide), hn 18 (by decide), hn 47 (by decide), hz]
    exact ⟨a1, a2, a3, (hT _ _ _).mpr a4, a5, fun q => ⟨hv _ _ (a6 q).1, (a6 q).2.imp id (hE _ _ _).mpr⟩, fun q => (hE _ _ _).mpr (a7 q), fun q => (hT _ _ _).mpr (a8 q), fun q => (hT _ _ _).mpr (a9 q), fun q => ⟨(hE _ _ _).mpr (a10 q).1, (a10 q).2⟩⟩
  · obtain ⟨a1, a2, a3, a4⟩ := w3 c h
    have h : (c : Int) < (V.n 0).toInt := h
    unfold claOK
    rw [hn 3 (by decide), hn 15 (by decide), hn 14 (by decide), hn 18 (by decide), hn 9 (by decide), hn 8 (by decide), hn 13 (by decide), hn 11 (by decide), hz]
    refine ⟨a1.imp id (fun q => ⟨q.1, q.2.1, hII _ _ (fun _ => ?_) (fun _ => ?_) q.2.2⟩), fun k hk => ⟨(a2 k hk).1, hII _ _ (fun hc => ?_) (fun hc => ?_) (a2 k hk).2⟩, fun v hv' => ?_, fun k hk => (hE _ _ _).mpr (a4 k hk)⟩
    · have := tnZ q.1
      omega
    · have := tnZ q.1
      omega
    · have := x1 c h k hk
      omega
    · have := x1 c h k hk
      omega
    · by_cases hco : c = o
      · rw [hco] at a3 hv' ⊢
        rw [ui_same] at hv'
        by_cases hvv : (v : Int) < (V.i 4 o).toInt
        · exact a3 v hvv
        · have : v = (V.i 4 o).toNatClampNeg := by omega
          rw [this]
          exact hf
      · rw [ui_ne (Or.inr hco)] at hv'
        exact a3 v hv'
  · rw [hn 15 (by decide)] at hk'
    rw [hn 18 (by decide), hn 14 (by decide)]
    exact x1 c h k' hk'
  · rw [hn 15 (by decide), cMc_cg (V := V) (fun j' _ => by rw [hn 14 (by decide), hn 18 (by decide)])]
    exact x2
end KIG
section KIR
variable {s : State} {H : Heap} {locs : List Loc} {D : va_G} {tys : List (ClassId × FieldType)} {L : List Nat} {kd : Nat → Nat} {f0 f : Nat → va_E} {md : List (Nat × Nat)} {ma : List Nat} {fx : List Fct} {q : Nat} {V : PV}
theorem isV.rng (h : isV f q V) (g : G3 D L kd tys s f0 md ma f H locs fx) (hq : q ∈ L) (hk : kd q = 12) {j K n : Nat} {lo hi : Int} (hj : jI j = true) (hF : (FS 12)[j]? = some ((2, (K : Int), (K : Int)) : rS)) (hK : 100 ≤ K) (hA : AT K = (0, n, lo, hi)) {k : Nat} (hkn : k < n) : bd lo hi (V.i j k) := by
  obtain ⟨b, b1, b2, b3, b4⟩ := ref_of g.2.2.2.1 hq hk (by decide) hF
  have hkb : kd b = K := by omega
  have h1 := g.2.2.2.1 b b2
  rw [hkb, okE_i hK hA] at h1
  obtain ⟨cA, t0, e, e1, e2, e3⟩ := h1
  rw [← h.1 j hj k, rf_eq b1]
  unfold aI
  rw [e1]
  exact e3 k hkn
end KIR
/-- behind a telling that was read: the program is whole again -/
def rdK (L : List Nat) (kd : Nat → Nat) (f0 : Nat → va_E) (a q : Nat) (V : PV) (o : Nat) (f : Nat → va_E) (k : Nat) (P : PV → Prop) : Prop :=
  ∃ (V1 : PV) (δ1 : Nat → Nat), isV f q V1 ∧ FR L kd f0 f q ∧ KI V1 δ1 o ∧ P V1 ∧ (V1.n 57).toInt - (V.n 57).toInt ≤ cF f a - cF f0 a ∧ 2 * ((V1.n 46).toInt - (V.n 46).toInt) ≤ cF f a - cF f0 a ∧ 2 * (k : Int) ≤ cF f a - cF f0 a ∧ cF f0 a + 1 ≤ cF f a
theorem rdk_use {L : List Nat} {kd : Nat → Nat} {f0 f : Nat → va_E} {a q : Nat} {V : PV} {o : Nat} {E0 : Int} {k : Nat} {P : PV → Prop} (h : rdK L kd f0 a q V o f k P) (h0 : cEq f0 a E0) : ∃ (V1 : PV) (δ1 : Nat → Nat) (E : Int), isV f q V1 ∧ FR L kd f0 f q ∧ cEq f a E ∧ KI V1 δ1 o ∧ P V1 ∧ (V1.n 57).toInt - (V.n 57).toInt ≤ E - E0 ∧ 2 * ((V1.n 46).toInt - (V.n 46).toInt) ≤ E - E0 ∧ 2 * (k : Int) ≤ E - E0 ∧ E0 + 1 ≤ E := by
  obtain ⟨V1, δ1, h1, h2, h3, h4, h5, h6, h7, h8⟩ := h
  unfold cEq at h0
  rw [h0] at h5 h6 h7 h8
  exact ⟨V1, δ1, cF f a, h1, h2, rfl, h3, h4, h5, h6, h7, h8⟩
theorem l2i_18 {v : Int64} {y : Int32} (h : (1 : Int64) ≤ v ∧ v ≤ 8) (e : y = v.toInt32) : bd 1 8 y := by
  have h1 : (1 : Int64).toInt ≤ v.toInt := Int64.le_iff_toInt_le.mp h.1
  have h2 : v.toInt ≤ (8 : Int64).toInt := Int64.le_iff_toInt_le.mp h.2
  have e1 : (1 : Int64).toInt = 1 := by decide
  have e8 : (8 : Int64).toInt = 8 := by decide
  have h3 : y.toInt = v.toInt := by
    rw [e, Int64.toInt_toInt32]
    exact Int.bmod_eq_of_le (by omega) (by omega)
  exact ⟨by omega, by omega⟩
theorem cw_24 {x y : Int32} {v w z : Int64} (ew : w = x.toInt64) (ez : z = w + v) (hz : ¬ (24 : Int64) < z) (h : (1 : Int64) ≤ v ∧ v ≤ 8) (hx : bd 0 24 x) (e : y = v.toInt32) : x.toInt + y.toInt ≤ 24 := by
  have h1 : (1 : Int64).toInt ≤ v.toInt := Int64.le_iff_toInt_le.mp h.1
  have h2 : v.toInt ≤ (8 : Int64).toInt := Int64.le_iff_toInt_le.mp h.2
  have e1 : (1 : Int64).toInt = 1 := by decide
  have e8 : (8 : Int64).toInt = 8 := by decide
  have h3 : y.toInt = v.toInt := by
    rw [e, Int64.toInt_toInt32]
    exact Int.bmod_eq_of_le (by omega) (by omega)
  have h4 : z.toInt ≤ (24 : Int64).toInt := Int64.le_iff_toInt_le.mp (Int64.not_lt.mp hz)
  have e24 : (24 : Int64).toInt = 24 := by decide
  have hw : w.toInt = x.toInt := by rw [ew, Int32.toInt_toInt64]
  have hb := hx.1
  have hb2 := hx.2
  have h5 : z.toInt = w.toInt + v.toInt := by
    rw [ez, Int64.toInt_add]
    exact Int.bmod_eq_of_le (by omega) (by omega)
  omega
