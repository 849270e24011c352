section ZROWS
variable {p : Program} {l : Launch} {e : Env} {R : Room} {s : State} {m : MethodId} {args : Array Value} {below : List Frame} {meth : Method} {c : Code} {H : Heap} {locs : List Loc} {cells slots : Nat} {Q : State → Prop}
variable {y : MethodName} {bytes cc : ByteArray} {maxL nL n index : Nat} {ret : Option FieldType} {ws ws' : List Cond} {rm : Room} {Ts : List Cond} {own C : String} {b : Addr} {As rest st0 : List Value} {pc : Nat} {ls : Array Slot} {free : Addr → Prop} {g0 : JFrame}
variable {D : va_G} {tys : List (ClassId × FieldType)} {L : List Nat} {kd : Nat → Nat} {f0 f : Nat → va_E} {md mds : List (Nat × Nat)} {ma mas : List Nat} {fx fx' : List Fct} {postR : Option Value → (Nat → va_E) → Nat → Prop} {postT : (Nat → va_E) → Nat → Prop} {Pp : State → Prop}
variable {Qx : Array Value → State → Outcome → State → Nat → Nat → Prop}
/-- what a contract over the pool says of an end, also of one that is thrown, with the rows of three that were made -/
def q3Z (D : va_G) (L : List Nat) (kd : Nat → Nat) (tys : List (ClassId × FieldType)) (md : List (Nat × Nat)) (ma : List Nat) (f0 : Nat → va_E) (sz : Nat) (postR : Option Value → (Nat → va_E) → Nat → Prop) (postT : (Nat → va_E) → Nat → Prop) : Array Value → State → Outcome → State → Nat → Nat → Prop := fun _ st oc t k n =>
  n = 3 * k ∧ (∃ f : Nat → va_E, ((∃ v, oc = .returned v ∧ postR v f k) ∨ ∃ x, oc = .threw x ∧ x ∈ L ∧ kd x = 13 ∧ postT f k) ∧ Q3 D L kd tys md ma f0 sz f t) ∧ va_F (pA L sz) st t
theorem g_retZ {v : Option Value} {t : State} {cl : Nat} (g : G3 D L kd tys s f0 md ma f H locs fx) (hK : va_K D vwCl tys s) (hpo : postR v f cl) (ht : t.heap = H) (hW : s.WarmedH t.vm) {a : Array Value} : q3Z D L kd tys md ma f0 s.heap.size postR postT a s (.returned v) t cl (3 * cl) := ⟨rfl, ⟨f, Or.inl ⟨v, rfl, hpo⟩, q3_of g hK ht hW⟩, g.2.2.1.F ht⟩
theorem g_thrZ {x : Nat} {t : State} {cl : Nat} (g : G3 D L kd tys s f0 md ma f H locs fx) (hK : va_K D vwCl tys s) (hx : x ∈ L) (hk : kd x = 13) (hpo : postT f cl) (ht : t.heap = H) (hW : s.WarmedH t.vm) {a : Array Value} : q3Z D L kd tys md ma f0 s.heap.size postR postT a s (.threw x) t cl (3 * cl) := ⟨rfl, ⟨f, Or.inr ⟨x, rfl, hx, hk, hpo⟩, q3_of g hK ht hW⟩, g.2.2.1.F ht⟩
theorem g_callZ (S : CallFix p m c cc nL s args Ts own) (hM : MetX l y ws rm (va_Pc (.ref b :: As) Pp) (q3Z D L kd tys mds mas f H.size postR postT) (pA L H.size)) (cw : CallW R s args own C index y bytes maxL ret ws rm rm.cells rm.slots n) (hp : PreV s H C b (va_Pc (.ref b :: As) Pp) As)
    (hn : As.length = n) (hsize : ls.size = nL) (hstack : st0 = As.reverse ++ .ref b :: rest) (hW : 2 * (F0 m pc ls st0).monitorRoom + (rest.map fun v => v.category).sum ≤ 8) (hdg : decode cc pc = .ok (.invokevirtual index, 3)) {cl : Nat} (hf : cl + rm.cells ≤ R.cells ∧ 3 * cl + rm.slots ≤ R.slots)
    (g : G3 D L kd tys s f0 md ma f H locs fx) (hK : va_K D vwCl tys s) (hmd : mds.all (fun q => md.contains q) = true) (hma : mas.all (fun q => ma.contains q) = true) (hfx : fx.filter (fun q => !(mds.contains (q.1, q.2.1))) = fx')
    (kkT : ∀ (x : Nat) (f1 : Nat → va_E) (H1 : Heap) (locs1 : List Loc) (k cl1 : Nat), cl1 = cl + k → x ∈ L → kd x = 13 → postT f1 k → Md L kd mds mas f f1 → G3 D L kd tys s f0 md ma f1 H1 locs1 fx' → WX p l e R s m args below meth c H1 locs1 cl1 (3 * cl1) Q (F0 m pc ls rest) x)
    (kkR : ∀ (v : Option Value) (f1 : Nat → va_E) (H1 : Heap) (locs1 : List Loc) (k cl1 : Nat), cl1 = cl + k → postR v f1 k → Md L kd mds mas f f1 → G3 D L kd tys s f0 md ma f1 H1 locs1 fx' → W p l e R s m args below meth c H1 locs1 cl1 (3 * cl1) Q (F0 m (pc + 3) ls (v.toList ++ rest))) : W p l e R s m args below meth c H locs cl (3 * cl) Q (F0 m pc ls st0) := by
  refine e_callX S hM cw hp hn hsize hstack hW hdg hf (fun o st₀ t B L1 k9 n9 hst hq e1 e2 hL X' => ?_)
  obtain ⟨hn9, ⟨f1, hor, hq3⟩, hz, hk⟩ := hq
  subst hn9
  rw [hst] at hz hk
  have hup : ∀ q, pA L H.size q → pA L s.heap.size q := fun q h => h.elim Or.inl (fun h => Or.inr (Nat.le_trans g.2.2.1.1 h))
  have hS1 : va_S (pA L s.heap.size) s.heap B.heap (locs ++ L1) := ⟨Nat.le_trans g.2.2.1.1 (by rw [e1]; exact hz), fun q h1 h2 => by rw [e1, hk q (Nat.lt_of_lt_of_le h1 g.2.2.1.1) (fun z => h2 (hup q z))]; exact g.2.2.1.2.1 q h1 h2, fun q hq => by
    rcases List.mem_append.mp hq with h | h
    · exact g.2.2.1.2.2 q h
    · exact hup _ (hL q h)⟩
  have g1 := g.call hK e1.symm hq3 hS1 hmd hma hfx
  have e9 : 3 * cl + 3 * k9 = 3 * (cl + k9) := by omega
  rw [e9] at X'
  refine ⟨fun v hv => ?_, fun x hx => ?_⟩
  · rcases hor with ⟨v', hv', hpo⟩ | ⟨x', hx', -⟩
    · rw [hv] at hv'
      cases hv'
      exact kkR v f1 B.heap (locs ++ L1) k9 (cl + k9) rfl hpo hq3.2.1 g1 B rfl X'
    · rw [hv] at hx'
      cases hx'
  · rcases hor with ⟨v', hv', hpo⟩ | ⟨x', hx', h1, h2, hpo⟩
    · rw [hx] at hv'
      cases hv'
    · rw [hx] at hx'
      cases hx'
      exact kkT x f1 B.heap (locs ++ L1) k9 (cl + k9) rfl h1 h2 hpo hq3.2.1 g1 B rfl X'
theorem g_callZi {post : Int32 → (Nat → va_E) → Nat → Prop} (S : CallFix p m c cc nL s args Ts own) (hM : MetX l y ws rm (va_Pc (.ref b :: As) Pp) (q3Z D L kd tys mds mas f H.size (pXi post) postT) (pA L H.size)) (cw : CallW R s args own C index y bytes maxL ret ws rm rm.cells rm.slots n) (hp : PreV s H C b (va_Pc (.ref b :: As) Pp) As)
    (hn : As.length = n) (hsize : ls.size = nL) (hstack : st0 = As.reverse ++ .ref b :: rest) (hW : 2 * (F0 m pc ls st0).monitorRoom + (rest.map fun v => v.category).sum ≤ 8) (hdg : decode cc pc = .ok (.invokevirtual index, 3)) {cl : Nat} (hf : cl + rm.cells ≤ R.cells ∧ 3 * cl + rm.slots ≤ R.slots)
    (g : G3 D L kd tys s f0 md ma f H locs fx) (hK : va_K D vwCl tys s) (hmd : mds.all (fun q => md.contains q) = true) (hma : mas.all (fun q => ma.contains q) = true) (hfx : fx.filter (fun q => !(mds.contains (q.1, q.2.1))) = fx')
    (kkT : ∀ (x : Nat) (f1 : Nat → va_E) (H1 : Heap) (locs1 : List Loc) (k cl1 : Nat), cl1 = cl + k → x ∈ L → kd x = 13 → postT f1 k → Md L kd mds mas f f1 → G3 D L kd tys s f0 md ma f1 H1 locs1 fx' → WX p l e R s m args below meth c H1 locs1 cl1 (3 * cl1) Q (F0 m pc ls rest) x)
    (kkR : ∀ (r : Int32) (f1 : Nat → va_E) (H1 : Heap) (locs1 : List Loc) (k cl1 : Nat), cl1 = cl + k → post r f1 k → Md L kd mds mas f f1 → G3 D L kd tys s f0 md ma f1 H1 locs1 fx' → W p l e R s m args below meth c H1 locs1 cl1 (3 * cl1) Q (F0 m (pc + 3) ls (.int r :: rest))) : W p l e R s m args below meth c H locs cl (3 * cl) Q (F0 m pc ls st0) :=
  g_callZ S hM cw hp hn hsize hstack hW hdg hf g hK hmd hma hfx kkT (fun v f1 H1 locs1 k cl1 hc hpo hM1 g1 => by obtain ⟨r, rfl, hpo⟩ := hpo; exact kkR r f1 H1 locs1 k cl1 hc hpo hM1 g1)
theorem g_callZv {post : (Nat → va_E) → Nat → Prop} (S : CallFix p m c cc nL s args Ts own) (hM : MetX l y ws rm (va_Pc (.ref b :: As) Pp) (q3Z D L kd tys mds mas f H.size (pXv post) postT) (pA L H.size)) (cw : CallW R s args own C index y bytes maxL ret ws rm rm.cells rm.slots n) (hp : PreV s H C b (va_Pc (.ref b :: As) Pp) As)
    (hn : As.length = n) (hsize : ls.size = nL) (hstack : st0 = As.reverse ++ .ref b :: rest) (hW : 2 * (F0 m pc ls st0).monitorRoom + (rest.map fun v => v.category).sum ≤ 8) (hdg : decode cc pc = .ok (.invokevirtual index, 3)) {cl : Nat} (hf : cl + rm.cells ≤ R.cells ∧ 3 * cl + rm.slots ≤ R.slots)
    (g : G3 D L kd tys s f0 md ma f H locs fx) (hK : va_K D vwCl tys s) (hmd : mds.all (fun q => md.contains q) = true) (hma : mas.all (fun q => ma.contains q) = true) (hfx : fx.filter (fun q => !(mds.contains (q.1, q.2.1))) = fx')
    (kkT : ∀ (x : Nat) (f1 : Nat → va_E) (H1 : Heap) (locs1 : List Loc) (k cl1 : Nat), cl1 = cl + k → x ∈ L → kd x = 13 → postT f1 k → Md L kd mds mas f f1 → G3 D L kd tys s f0 md ma f1 H1 locs1 fx' → WX p l e R s m args below meth c H1 locs1 cl1 (3 * cl1) Q (F0 m pc ls rest) x)
    (kkR : ∀ (f1 : Nat → va_E) (H1 : Heap) (locs1 : List Loc) (k cl1 : Nat), cl1 = cl + k → post f1 k → Md L kd mds mas f f1 → G3 D L kd tys s f0 md ma f1 H1 locs1 fx' → W p l e R s m args below meth c H1 locs1 cl1 (3 * cl1) Q (F0 m (pc + 3) ls rest)) : W p l e R s m args below meth c H locs cl (3 * cl) Q (F0 m pc ls st0) :=
  g_callZ S hM cw hp hn hsize hstack hW hdg hf g hK hmd hma hfx kkT (fun v f1 H1 locs1 k cl1 hc hpo hM1 g1 => by obtain ⟨rfl, hpo⟩ := hpo; exact kkR f1 H1 locs1 k cl1 hc hpo hM1 g1)
end ZROWS
theorem cF_le {s : State} {H : Heap} {locs : List Loc} {D : va_G} {tys : List (ClassId × FieldType)} {L : List Nat} {kd : Nat → Nat} {f0 f : Nat → va_E} {md : List (Nat × Nat)} {ma : List Nat} {fx : List Fct} {t : Nat} (g : G3 D L kd tys s f0 md ma f H locs fx) (ht : t ∈ L) (hk : kd t = 14) : cF f t ≤ 1202 := by
  obtain ⟨x, hb, g⟩ := g_facti g ht hk (by decide) 10 rfl
  exact cF_max g 0 rfl hb.2
theorem cF_ge {s : State} {H : Heap} {locs : List Loc} {D : va_G} {tys : List (ClassId × FieldType)} {L : List Nat} {kd : Nat → Nat} {f0 f : Nat → va_E} {md : List (Nat × Nat)} {ma : List Nat} {fx : List Fct} {t : Nat} (g : G3 D L kd tys s f0 md ma f H locs fx) (ht : t ∈ L) (hk : kd t = 14) : -1 ≤ cF f t := by
  obtain ⟨x, hb, g⟩ := g_facti g ht hk (by decide) 10 rfl
  have q10 := (fx_at g (i := 0) rfl).2.2.2
  simp only at q10
  have h3 := sE_bd (f := f) (t := t)
  have h1 : tk f t = x.toInt := by unfold tk; rw [q10]
  have h0 := hb.1
  unfold cF
  omega
theorem cl_1 {cl K : Nat} (h : cl ≤ K) (h1 : cl + 1 ≤ K) : cl + 1 ≤ K ∧ 3 * cl + 3 ≤ 3 * K := ⟨h1, by omega⟩
theorem ev_hb {V : PV} {x y : Int32} {k : Int} {d : Nat} (hw : wfN V (V.n 57).toInt) (hE : EV V x k d) (e : y = V.i 51 x.toNatClampNeg) : bd 1 k y := by
  rw [e]
  exact ⟨(hw x.toNatClampNeg (by rw [tnZ hE.1]; exact hE.2.1)).1, hE.2.2.1⟩
theorem u24_ok {V : PV} {k : Nat} {x : Int32} (hw : wfN V (V.n 57).toInt) : exN V (V.ui 24 k x) ∧ wfN (V.ui 24 k x) ((V.ui 24 k x).n 57).toInt ∧ ((V.ui 24 k x).n 57).toInt = (V.n 57).toInt := by
  have hX : exN V (V.ui 24 k x) := ⟨fun j q r => ui_row q, fun _ _ _ => rfl, fun _ _ => rfl, Int.le_refl _, fun n hn => ⟨fun j q r t => ui_ne (Or.inl (by omega)), fun k' hk' => ui_ne (Or.inl (by decide)), rfl, rfl⟩⟩
  exact ⟨hX, fun n hn => hX.node hn hw, rfl⟩
theorem isY.at_ {f : Nat → va_E} {q : Nat} {A : Nat → Int32} (h : isY f q A) (k : Nat) : aI f q k = A k := h k
theorem arg_s {V V1 : PV} {A : Nat → Int32} {k k1 high high1 r o : Int32} {h' : Int} (hA : ∀ j : Nat, (j : Int) < k.toInt → EV V (A j) high.toInt o.toNatClampNeg) (hX : exN V V1) (hr : EV V1 r h' o.toNatClampNeg) (h0 : 0 ≤ k.toInt) (h1 : k1.toInt = k.toInt + 1) (hh : high.toInt ≤ high1.toInt) (hh' : h' ≤ high1.toInt) : ∀ j : Nat, (j : Int) < k1.toInt → EV V1 ((fun j => if j = k.toNatClampNeg then r else A j) j) high1.toInt o.toNatClampNeg := by
  intro j hj
  show EV V1 (if j = k.toNatClampNeg then r else A j) high1.toInt o.toNatClampNeg
  have h2 := tnZ h0
  by_cases hjk : j = k.toNatClampNeg
  · rw [if_pos hjk]
    exact hr.up hh'
  · rw [if_neg hjk]
    exact (hX.ev (hA j (by omega))).up hh
theorem ix3 {n k i : Int32} (hn : 0 ≤ n.toInt) (hk : 0 ≤ k.toInt) (h : i.toInt = 3 * n.toInt + k.toInt) : i.toNatClampNeg = 3 * n.toNatClampNeg + k.toNatClampNeg := by
  have h1 := tnZ hn
  have h2 := tnZ hk
  have h3 := tnZ (i := i) (by omega)
  omega
theorem arr_s {V : PV} {A : Nat → Int32} {k k1 i x : Int32} {b : Nat} (hA : ∀ j : Nat, (j : Int) < k.toInt → V.i 53 (b + j) = A j) (h0 : 0 ≤ k.toInt) (h1 : k1.toInt = k.toInt + 1) (hi : i.toNatClampNeg = b + k.toNatClampNeg) (hx : x = A k.toNatClampNeg) : ∀ j : Nat, (j : Int) < k1.toInt → (V.ui 53 i.toNatClampNeg x).i 53 (b + j) = A j := by
  intro j hj
  have h2 := tnZ h0
  by_cases hjk : j = k.toNatClampNeg
  · rw [hi, hjk, ui_same, hx]
  · rw [ui_ne (Or.inr (by omega))]
    exact hA j (by omega)
theorem fndR.fnd_ {V : PV} {c : Nat} {a b : Int64} {r : Int32} (h : fndR V c a b r) : fnd V c a b := by
  obtain ⟨k, h1, h2, h3, h4⟩ := h
  subst h2
  exact ⟨k, h1, h3, h4⟩
/-- the names that are there besides fields: names, how many, whether they count -/
abbrev NVt : Type := (Nat → Int64) × (Nat → Int64) × Int32 × Int32 × Int32
def isN (f : Nat → va_E) (t : Nat) (N : NVt) : Prop := (∀ k, aJ f (rf f t 18) k = N.1 k) ∧ (∀ k, aJ f (rf f t 19) k = N.2.1 k) ∧ fV f t 20 = .int N.2.2.1 ∧ fV f t 21 = .int N.2.2.2.1 ∧ fV f t 24 = .int N.2.2.2.2
def nmd (N : NVt) (V : PV) (o : Nat) (a b : Int64) : Prop := (N.2.2.2.2.toInt = 0 ∧ ∃ k : Nat, (k : Int) < N.2.2.1.toInt + N.2.2.2.1.toInt ∧ N.1 k = a ∧ N.2.1 k = b) ∨ ∃ k : Nat, (k : Int) < (V.i 4 o).toInt ∧ V.l 6 (10 * o + k) = a ∧ V.l 7 (10 * o + k) = b
theorem nmd_ex {N : NVt} {V V1 : PV} {o : Nat} {a b : Int64} (hX : exN V V1) (h : nmd N V o a b) : nmd N V1 o a b := by
  unfold nmd at h ⊢
  rw [hX.1 4 (by decide) (by decide), hX.2.1 6 (by decide) (by decide), hX.2.1 7 (by decide) (by decide)]
  exact h
theorem nmd_no {N : NVt} {V V1 : PV} {o : Nat} {a b : Int64} (hX : exN V V1) (h : ¬ nmd N V o a b) : ¬ nmd N V1 o a b := by
  unfold nmd at h ⊢
  rw [hX.1 4 (by decide) (by decide), hX.2.1 6 (by decide) (by decide), hX.2.1 7 (by decide) (by decide)]
  exact h
section NMS
variable {s : State} {H : Heap} {locs : List Loc} {D : va_G} {tys : List (ClassId × FieldType)} {L : List Nat} {kd : Nat → Nat} {f0 f f1 : Nat → va_E} {md : List (Nat × Nat)} {ma : List Nat} {fx : List Fct} {t a : Nat} {N : NVt}
theorem isN.ex (g : G3 D L kd tys s f0 md ma f H locs fx) (ht : t ∈ L) (hk : kd t = 14) : ∃ N : NVt, isN f t N := by
  obtain ⟨x, hx, g⟩ := g_facti g ht hk (by decide) 20 rfl
  obtain ⟨y, hy, g⟩ := g_facti g ht hk (by decide) 21 rfl
  obtain ⟨z, hz, g⟩ := g_facti g ht hk (by decide) 24 rfl
  exact ⟨(_, _, x, y, z), fun _ => rfl, fun _ => rfl, (fx_at g (i := 2) rfl).2.2.2, (fx_at g (i := 1) rfl).2.2.2, (fx_at g (i := 0) rfl).2.2.2⟩
theorem isN.par (h : isN f t N) (g : G3 D L kd tys s f0 md ma f H locs fx) (k0 : Nat) {x : Int32} (e : fx[k0]? = some (14, 20, t, .int x)) : x = N.2.2.1 := by
  have h1 := (fx_at g e).2.2.2
  rw [show fV f t 20 = .int N.2.2.1 from h.2.2.1] at h1
  cases h1
  rfl
theorem isN.loc (h : isN f t N) (g : G3 D L kd tys s f0 md ma f H locs fx) (k0 : Nat) {x : Int32} (e : fx[k0]? = some (14, 21, t, .int x)) : x = N.2.2.2.1 := by
  have h1 := (fx_at g e).2.2.2
  rw [show fV f t 21 = .int N.2.2.2.1 from h.2.2.2.1] at h1
  cases h1
  rfl
theorem isN.kept (h : isN f t N) (g : G3 D L kd tys s f0 md ma f H locs fx) (k0 : Nat) {x : Int32} (e : fx[k0]? = some (14, 24, t, .int x)) : x = N.2.2.2.2 := by
  have h1 := (fx_at g e).2.2.2
  rw [show fV f t 24 = .int N.2.2.2.2 from h.2.2.2.2] at h1
  cases h1
  rfl
theorem isN.la (h : isN f t N) (g : G3 D L kd tys s f0 md ma f H locs fx) (k0 : Nat) {i : Nat} (e : fx[k0]? = some (14, 18, t, .ref a)) {x : Int64} (c : x = aJ f a i) : x = N.1 i := by
  rw [← h.1 i, rf_eq (fx_at g e).2.2.2]
  exact c
theorem isN.lb (h : isN f t N) (g : G3 D L kd tys s f0 md ma f H locs fx) (k0 : Nat) {i : Nat} (e : fx[k0]? = some (14, 19, t, .ref a)) {x : Int64} (c : x = aJ f a i) : x = N.2.1 i := by
  rw [← h.2.1 i, rf_eq (fx_at g e).2.2.2]
  exact c
theorem isN.frame (hM : Md L kd md ma f f1) (hW : WT L kd tys f) (hq : t ∈ L) (hk : kd t = 14) (h1 : (md.all fun x => x != (14, 18) && x != (14, 19) && x != (14, 20) && x != (14, 21) && x != (14, 24)) = true) (h2 : (ma.all fun k => k != 213 && k != 214) = true) (h : isN f t N) : isN f1 t N := by
  have hm : ∀ j, j = 18 ∨ j = 19 ∨ j = 20 ∨ j = 21 ∨ j = 24 → fV f1 t j = fV f t j := fun j hj => (hM t hq).1 j (by rw [hk]; decide) (fun hc => by
    have := List.all_eq_true.mp h1 _ hc
    rw [hk] at this
    rcases hj with rfl | rfl | rfl | rfl | rfl <;> simp at this)
  obtain ⟨b, b1, b2, b3, b4⟩ := ref_of hW hq hk (by decide) (j := 18) rfl
  obtain ⟨b', b1', b2', b3', b4'⟩ := ref_of hW hq hk (by decide) (j := 19) rfl
  have e1 : f1 b = f b := (hM b b2).2.1 (by omega) (fun hc => by
    have := List.all_eq_true.mp h2 _ hc
    simp at this
    omega)
  have e2 : f1 b' = f b' := (hM b' b2').2.1 (by omega) (fun hc => by
    have := List.all_eq_true.mp h2 _ hc
    simp at this
    omega)
  obtain ⟨k1, k2, k3, k4, k5⟩ := h
  refine ⟨fun k => ?_, fun k => ?_, (hm 20 (by decide)).trans k3, (hm 21 (by decide)).trans k4, (hm 24 (by decide)).trans k5⟩
  · rw [rf_eq ((hm 18 (by decide)).trans b1), ← k1 k, rf_eq b1]
    unfold aJ
    rw [e1]
  · rw [rf_eq ((hm 19 (by decide)).trans b1'), ← k2 k, rf_eq b1']
    unfold aJ
    rw [e2]
end NMS
theorem nf_s {P : Nat → Prop} {k k1 : Int32} (hI : ∀ j : Nat, (j : Int) < k.toInt → ¬ P j) (h0 : 0 ≤ k.toInt) (h1 : k1.toInt = k.toInt + 1) (hn : ¬ P k.toNatClampNeg) : ∀ j : Nat, (j : Int) < k1.toInt → ¬ P j := by
  intro j hj
  have h2 := tnZ h0
  by_cases hjk : (j : Int) < k.toInt
  · exact hI j hjk
  · have : j = k.toNatClampNeg := by omega
    subst this
    exact hn
theorem ix10 {c k i : Int32} (hc : 0 ≤ c.toInt) (hk : 0 ≤ k.toInt) (h : i.toInt = 10 * c.toInt + k.toInt) : i.toNatClampNeg = 10 * c.toNatClampNeg + k.toNatClampNeg := by
  have h1 := tnZ hc
  have h2 := tnZ hk
  have h3 := tnZ (i := i) (by omega)
  omega
section NWN
variable {p : Program} {l : Launch} {e : Env} {R : Room} {s : State} {m : MethodId} {args : Array Value} {below : List Frame} {meth : Method} {c : Code} {H : Heap} {locs : List Loc} {cells slots : Nat} {Q : State → Prop} {cc : ByteArray} {pc : Nat} {ls : Array Slot} {rest : List Value} {D : va_G} {tys : List (ClassId × FieldType)} {L L1 : List Nat} {kd kd1 : Nat → Nat} {f0 f01 f f1 f2 : Nat → va_E} {md : List (Nat × Nat)} {ma : List Nat} {fx : List Fct} {b q sz : Nat}
theorem NW.to0 (h : NW L kd f0 f sz q L1 kd1 f01 f1) : NW L kd f0 f0 sz q L1 kd1 f01 f01 := ⟨h.1, h.2.1, h.2.2.1, h.2.2.2.1, h.2.2.2.2.1, h.2.2.2.2.2.1, h.2.2.2.2.2.1⟩
/-- the new row's own elements: nothing of the world that was there changes -/
theorem g_iastN {i x : Int32} (hx : p.tables.exec = Jvm.exec) (hb : c.code = cc) (hK : va_K D vwCl tys s) (hNW : NW L kd f0 f0 s.heap.size q L1 kd1 f01 f01) (g : G3 D L1 kd1 tys s f01 md ma f H locs fx) (hq : q ∈ L1) (hkq : kd1 q = 240) (hin : vp_in i 3) (hdg : decode cc pc = .ok (.iastore, 1))
    (kk : ∀ (f01' f1 : Nat → va_E) (H : Heap) (locs : List Loc), NW L kd f0 f0 s.heap.size q L1 kd1 f01' f01' → Md L1 kd1 [] [240] f f1 → uA f f1 q i.toNatClampNeg x → (∀ b ∈ L, FR L1 kd1 f01 f b → FR L1 kd1 f01' f1 b) → G3 D L1 kd1 tys s f01' md ma f1 H locs fx → W p l e R s m args below meth c H locs cells slots Q (F0 m (pc + 1) ls rest)) : W p l e R s m args below meth c H locs cells slots Q (F0 m pc ls (.int x :: .int i :: .ref q :: rest)) := by
  have gw : G3 D L1 kd1 tys s f01 md (240 :: ma) f H locs fx := ⟨g.1, g.2.1, g.2.2.1, g.2.2.2.1, g.2.2.2.2.1, fun a ha => by
    obtain ⟨m1, m2, m3⟩ := g.2.2.2.2.2 a ha
    exact ⟨m1, fun h1 h2 => m2 h1 (fun h => h2 (List.mem_cons_of_mem _ h)), m3⟩⟩
  refine g_iastX hx hb hK gw hq hkq (by decide) (n := 3) rfl hin (bdT x) List.mem_cons_self hdg (fun f1 H1 locs1 hM u g1 => ?_)
  · have hu : ∀ b, b ≠ q → va_up f01 q (f1 q) b = f01 b := fun b hb => va_up_ne f01 _ hb
    have h0 : ∀ b, b ≠ q → va_up f01 q (f1 q) b = f0 b := fun b hb => (hu b hb).trans (hNW.2.2.2.2.2.1 b hb)
    refine kk (va_up f01 q (f1 q)) f1 H1 locs1 ⟨hNW.1, hNW.2.1, hNW.2.2.1, hNW.2.2.2.1, hNW.2.2.2.2.1, h0, h0⟩ hM u (fun b hb hF x hx1 hf hne hj => ?_) ⟨g1.1, g1.2.1, g1.2.2.1, g1.2.2.2.1, g1.2.2.2.2.1, fun a ha => ?_⟩
    · have hxq : x ≠ q := fun e => by rw [e, hkq] at hf; exact absurd hf (by decide)
      obtain ⟨a1, a2⟩ := hF x hx1 hf hne (fun j => by rw [← fV_cg (j := j) (hu b (hNW.ne hb))]; exact hj j)
      exact ⟨fun h1 => by rw [u.1 x hxq, hu x hxq]; exact a1 h1, fun h1 j => by rw [fV_cg (u.1 x hxq), fV_cg (hu x hxq)]; exact a2 h1 j⟩
    · by_cases haq : a = q
      · subst haq
        exact ⟨fun j h1 _ => absurd h1 (by rw [hkq]; decide), fun _ _ => (va_up_self f01 a _).symm, fun _ h1 => absurd h1 (by rw [hkq]; decide)⟩
      · obtain ⟨m1, m2, m3⟩ := g.2.2.2.2.2 a ha
        exact ⟨fun j h1 h2 => by rw [fV_cg (u.1 a haq), fV_cg (hu a haq)]; exact m1 j h1 h2, fun h1 h2 => by rw [u.1 a haq, hu a haq]; exact m2 h1 h2, fun h1 h2 h3 => by rw [fV_cg (u.1 a haq)]; exact m3 h1 h2 (by rw [← fV_cg (j := 8) (hu a haq)]; exact h3)⟩
end NWN
