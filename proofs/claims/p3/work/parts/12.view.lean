section HANDLERS
variable {p : Program} {l : Launch} {e : Env} {R : Room} {s : State} {m : MethodId} {args : Array Value} {below : List Frame} {meth : Method} {c : Code} {H : Heap} {locs : List Loc} {cells slots : Nat} {Q : State → Prop}
variable {y : MethodName} {bytes cc : ByteArray} {maxL nL mc ms n index : Nat} {ret : Option FieldType} {ws ws' : List Cond} {rm : Room} {Pc : Array Value → State → Prop} {Qc : Array Value → State → Outcome → State → Prop} {free : Addr → Prop} {Ts : List Cond} {own C : String} {b : Addr} {As rest : List Value} {g : JFrame}
theorem WX.caught {pc hp : Nat} {ls : Array Slot} {a : Addr} {own name : String} {sp ep ct : Nat} (hown : s.vm.findClass own = some m.cls)
    (htab : c.exceptionTable.toList.map (fun h => (h.startPc, h.endPc, h.handlerPc, h.catchType)) = [(sp, ep, hp, ct)]) (h1 : sp ≤ pc) (h2 : pc < ep) (h0 : ct ≠ 0)
    (hlink : (Cond.classLink own ct name).before args s = true) (hrecv : ∃ cell : Cell, H[a]? = some cell ∧ cell.vm.isStatics = false ∧ s.vm.findClass name = some cell.cls) (hcast : va_Nw (.castable name name) s)
    (kk : W p l e R s m args below meth c H locs cells slots Q (F0 m hp ls [.ref a])) :
    WX p l e R s m args below meth c H locs cells slots Q (F0 m pc ls rest) a := by
  intro T hT X
  obtain ⟨cell, g1, g2, g3⟩ := hrecv
  obtain ⟨c1, t1, q1, q2, q3⟩ := Cond.castable_spec hcast
  cases q1.symm.trans q2
  cases g3.symm.trans q1
  match hx : c.exceptionTable.toList, htab with
  | [x], htab =>
    simp only [List.map_cons, List.map_nil, List.cons.injEq, Prod.mk.injEq, and_true] at htab
    obtain ⟨e1, e2, e3, e4⟩ := htab
    obtain ⟨vm', X', st⟩ := X.caughtLink a (g := F0 m pc ls rest) rfl hown [] x [] hx (fun y hy => by simp at hy) (by simp only [covers, e1, e2]; simp [F0, h1, h2]) (by rw [e4]; exact h0) (by rw [e4]; exact hlink) g3 (by rw [hT]; exact g1) g2 q3
    obtain ⟨t, a1, b1⟩ := kk (T.setVm vm') hT X'
    refine ⟨t, ?_, b1⟩
    rw [X.pushThrowing_eq]
    refine st t ?_
    rw [e3]
    exact a1
theorem Met.ofWH {hs : List (Nat × Nat × Nat × Nat)} (hy : plainName y.cls = true) (hw : ws = Cond.codeWith y cc maxL ret hs :: ws')
    (body : ∀ p e s m args below meth c s₁, BodyLoose p l y (headSpec ws rm) cc maxL ret e s m args below meth c s₁ → c.maxLocals = maxL → c.exceptionTable.toList.map (fun h => (h.startPc, h.endPc, h.handlerPc, h.catchType)) = hs → Pc args s →
      W p l e (headSpec ws rm).room s m args below meth c s.heap [] 0 0 (MQ below Qc args s mc ms free) (entryFrame m args maxL)) : Met l y ws rm Pc Qc mc ms free := by
  refine MetFree.of_bodyS (code := cc) (maxLocals := maxL) (ret := ret) hy ?_ ?_
  · intro args s m h hn
    obtain ⟨m', meth, c, hname', hmeth, hcode, hbytes, hlocals, -, hret, hlocks, -⟩ := Cond.codeWith_spec (atoms_spec (ws := ws) h _ (by rw [hw]; exact List.mem_cons_self))
    cases hn.symm.trans hname'
    exact ⟨meth, c, hmeth, hcode, hbytes, hlocals, hret, hlocks⟩
  · intro p e s m args below meth c s₁ B hml hP _
    have hh0 : s₁.heap = s.heap := by rw [B.state]; rfl
    have X₀ : Stand p l e (headSpec ws rm).room s m args below meth c s₁ [] 0 0 := Stand.of_body B
    have htab : c.exceptionTable.toList.map (fun h => (h.startPc, h.endPc, h.handlerPc, h.catchType)) = hs := by
      obtain ⟨m', meth', c', hname', h1, h2, -, -, h7, -, -, -⟩ := Cond.codeWith_spec (atoms_spec (ws := ws) B.pre _ (by rw [hw]; exact List.mem_cons_self))
      cases B.named.symm.trans hname'
      have e1 : meth = meth' := Option.some.inj (B.method.symm.trans h1)
      subst e1
      have e2 : c = c' := Option.some.inj (X₀.code.symm.trans h2)
      subst e2
      exact h7
    obtain ⟨t, a1, o, b1, b2, b3⟩ := body p e s m args below meth c s₁ B hml htab hP s₁ hh0 X₀
    exact ⟨t, o, a1, b1, b2, ⟨b3.1, b3.2⟩⟩
theorem callVH {hs : List (Nat × Nat × Nat × Nat)} {T : State} (X : Stand p l e R s m args below meth c T locs cells slots) (hexec : p.tables.exec = Jvm.exec)
    (hown : s.vm.findClass own = some m.cls) (hlink : (Cond.methodLink own index y).before args s = true) (hinst : (Cond.instanceMethod y).before args s = true) (hsel : (Cond.selects C y y).before args s = true)
    (hcode : (Cond.codeWith y bytes maxL ret hs).before args s = true) (hy : y.cls ≠ "java/lang/invoke/MethodHandle" ∧ y.cls ≠ "java/lang/invoke/VarHandle")
    {Wd : Nat} {Pre : Pt → Array Value → Prop} {Post : Pt → Array Value → Option Value → Pt → Prop} (hK : Back l R p e below s args y 3 Wd Pre Post)
    {cellB : Cell} (hcell : T.heap[b]? = some cellB) (hobj : cellB.vm.isStatics = false) (hcls : s.vm.findClass C = some cellB.cls)
    (hg : g.method = m) (hsize : g.locals.size = c.maxLocals) (hlen : ∀ sig, parseMethodDescriptor y.desc = some sig → As.length = sig.parameters.length)
    (hstack : g.stack = As.reverse ++ .ref b :: rest) (hW : 2 * g.monitorRoom + (rest.map fun v => v.category).sum ≤ Wd) (hdg : decode c.code g.pc = .ok (.invokevirtual index, 3))
    (hpre : ∀ vm₁, s.WarmedH vm₁ → Pre ⟨T.setVm vm₁, locs, cells, slots⟩ (Value.ref b :: As).toArray) :
    ∃ (v : Option Value) (vm₁ : Vm) (B : Pt), s.WarmedH vm₁ ∧ Stand p l e R s m args below meth c B.U B.locs B.cells B.slots ∧ Post ⟨T.setVm vm₁, locs, cells, slots⟩ (Value.ref b :: As).toArray v B ∧
      ∀ target, Steps p.tables e below (B.U.setTop { g with pc := g.pc + 3, stack := v.toList ++ rest }) target → Steps p.tables e below (T.setTop g) target := by
  obtain ⟨mk, methM, hnamed, hmethM, hstM, habM⟩ := Cond.instanceMethod_spec hinst
  obtain ⟨mk', methM', cM, hnamed', hmethM', -, -, -, -, -, -, hsigM⟩ := Cond.codeWith_spec hcode
  cases hnamed.symm.trans hnamed'
  cases hmethM.symm.trans hmethM'
  obtain ⟨c2, r2, m2, q1, q2, q3, q4, kP, hkP, hkPi⟩ := Cond.selects_spec hsel
  cases hcls.symm.trans q1
  cases (State.methodFound?_of_named hnamed hy).symm.trans q2
  cases hnamed.symm.trans q3
  have hselP : selectMethod e.platform s.vm cellB.cls mk = .method mk := by rw [Launch.admits_selectMethod X.admits]; exact q4
  obtain ⟨vm₁, X₁, hstep₁⟩ := X.invokevirtual hexec hown hlink hnamed hmethM hstM hkP hkPi hy (a := b) (cell := cellB) hcell
    (fun z h => by rw [h] at hobj; cases hobj) hselP hmethM habM hkP hkPi (g := g) hg (argsL := As) (rest := rest) (hlen _ hsigM) hstack hdg
  obtain ⟨v, B, X', hpost, hsteps⟩ := hK m meth c ⟨T.setVm vm₁, locs, cells, slots⟩ { g with stack := rest } (.invokevirtual index) mk (Value.ref b :: As).toArray X₁ hg hsize hdg hW (X₁.named hnamed) (hpre vm₁ X₁.warmed)
  exact ⟨v, vm₁, B, X₁.warmed, X', hpost, fun target h => hstep₁ _ fun acts => by rw [doInvoke_state]; exact hsteps.trans h⟩
theorem va_runVH {hs : List (Nat × Nat × Nat × Nat)} (S : CallFix p m c cc nL s args Ts own) (hM : Met l y ws rm Pc Qc mc ms free) (hG : GoodIn Ts ws) (hcw : Cond.codeWith y bytes maxL ret hs ∈ ws) (hrc : rm.cells = mc) (hrs : rm.slots = ms) (hfr : rm.frames + 1 ≤ R.frames) (hlo : 8 + (maxL + 11) + rm.locals ≤ R.locals)
    (hini : (Cond.initialized y.cls).before args s = true) (hl : (Cond.methodLink own index y).before args s = true) (hin : (Cond.instanceMethod y).before args s = true) (hse : (Cond.selects C y y).before args s = true)
    (hd : y.cls ≠ "java/lang/invoke/MethodHandle" ∧ y.cls ≠ "java/lang/invoke/VarHandle" ∧ (parseMethodDescriptor y.desc).map (fun d => d.parameters.length) = some n) (hp : PreV s H C b Pc As)
    (hg : g.method = m) (hn : As.length = n) (hsize : g.locals.size = nL) (hstack : g.stack = As.reverse ++ .ref b :: rest) (hW : 2 * g.monitorRoom + (rest.map fun v => v.category).sum ≤ 8) (hdg : decode cc g.pc = .ok (.invokevirtual index, 3)) (hf : cells + mc ≤ R.cells ∧ slots + ms ≤ R.slots) :
    va_Run p l e R s m args below meth c H locs cells slots mc ms g rest (Qc (Value.ref b :: As).toArray) (free) := by
  obtain ⟨hx, hb, hml, ho, hts⟩ := S
  have hws := pay_in hts hG
  have hK : Back l R p e below s args y 3 8 (PreOf R mc ms Pc) (PostOf Qc mc ms free) := by
    refine Back.of_freeWith (handlers := hs) (S := headSpec ws rm) (P := Pc) (K := fun _ _ _ _ _ => True) (Q := fun a st o t => Qc a st o t ∧ ∃ L, FrameEnd st o t L mc ms ∧ ∀ q ∈ L, free q.base) (bytes := bytes) (maxL := maxL) (ret := ret)
      (E := fun a st o t L k n => k = mc ∧ n = ms ∧ ∀ q ∈ L, free q.base) hM hfr hlo ?_ ?_ (fun _ _ _ _ _ _ _ _ _ => trivial) ?_ ?_
    · intro m meth c A a X hp9
      exact ⟨atoms_intro fun w hw => hws w hw _ _ X.warmed, hws _ hcw _ _ X.warmed, word_at X.warmed (Or.inl (by first | rfl | simp [Cond.onTables, Cond.keeps, Cond.steady])) hini, by rw [show (headSpec ws rm).room.cells = mc from hrc]; exact hp9.1, by rw [show (headSpec ws rm).room.slots = ms from hrs]; exact hp9.2.1⟩
    · intro m meth c A a g mk X hp9
      exact hp.1 _ _ _ _ hp9.2.2
    · intro a st o t ⟨hq, L, hF, hL⟩
      exact ⟨L, mc, ms, hF, rfl, rfl, hL⟩
    · intro m meth c A a g mk v t L k n X hp9 hq hF ⟨e1, e2, hL⟩
      subst e1; subst e2
      exact ⟨g, mk, t, L, rfl, rfl, hq.1, rfl, hL, rfl, rfl⟩
  obtain ⟨-, ⟨cellB, hcB, hoB, hclB⟩, hPc⟩ := hp
  intro T hT X
  obtain ⟨v, vm₁, ⟨U', l2, c2, s2⟩, hW₁, X', ⟨g', mk, t, L, e1, e2, hq, h1, hL, h2, h3⟩, st⟩ := callVH X hx (C := C) (bytes := bytes) (maxL := maxL) (ret := ret) (hs := hs) ho hl hin hse (hts _ (hG _ hcw).1) ⟨hd.1, hd.2.1⟩ hK (by rw [hT]; exact hcB) hoB hclB hg (hsize.trans hml.symm) (As := As) (rest := rest) (fun sig h => hn.trans (by have h2 := hd.2.2; rw [h] at h2; exact (Option.some.inj h2).symm)) hstack hW (by rw [hb]; exact hdg)
    (fun vm₁ hW₁ => ⟨hf.1, hf.2, hPc (T.setVm vm₁) hT hW₁⟩)
  dsimp only [Pt.U, Pt.locs, Pt.cells, Pt.slots] at X' e1 e2 h1 h2 h3 st
  subst h1; subst h2; subst h3
  exact ⟨v, (T.setVm vm₁).calling g' mk (Value.ref b :: As).toArray, t, U', L, hT, X', hL, e1, e2, hq, st⟩
end HANDLERS
/-- the reference's program as it stands in the heap: int arrays, long arrays, int fields, by their places -/
abbrev PV : Type := (Nat → Nat → Int32) × (Nat → Nat → Int64) × (Nat → Int32)
def PV.i (V : PV) : Nat → Nat → Int32 := V.1
def PV.l (V : PV) : Nat → Nat → Int64 := V.2.1
def PV.n (V : PV) : Nat → Int32 := V.2.2
def jI (j : Nat) : Bool := (3 ≤ j && j ≤ 5) || (8 ≤ j && j ≤ 15) || (18 ≤ j && j ≤ 25) || (28 ≤ j && j ≤ 31) || (34 ≤ j && j ≤ 42) || (47 ≤ j && j ≤ 54)
def jL (j : Nat) : Bool := j == 1 || j == 2 || j == 6 || j == 7 || j == 16 || j == 17 || j == 32 || j == 33 || j == 43 || j == 44 || j == 55 || j == 56
def jN (j : Nat) : Bool := j == 0 || j == 27 || j == 46 || j == 57
/-- class c has a member of this name -/
def fnd (V : PV) (c : Nat) (a b : Int64) : Prop := ∃ k : Nat, (k : Int) < (V.i 15 c).toInt ∧ V.l 16 (V.i 14 (12 * c + k)).toNatClampNeg = a ∧ V.l 17 (V.i 14 (12 * c + k)).toNatClampNeg = b
/-- class c has what class d has -/
def II (V : PV) (c d : Nat) : Prop := (V.i 4 d).toInt ≤ (V.i 4 c).toInt ∧ ∀ a b, fnd V d a b → fnd V c a b
theorem II.rf {V : PV} {c : Nat} : II V c c := ⟨Int.le_refl _, fun _ _ h => h⟩
theorem II.tr {V : PV} {c d e : Nat} (h1 : II V c d) (h2 : II V d e) : II V c e := ⟨Int.le_trans h2.1 h1.1, fun a b h => h1.2 a b (h2.2 a b h)⟩
/-- x is a node of height at most h, read in class d -/
def EV (V : PV) (x : Int32) (h : Int) (d : Nat) : Prop := 0 ≤ x.toInt ∧ x.toInt < (V.n 57).toInt ∧ (V.i 51 x.toNatClampNeg).toInt ≤ h ∧ (V.i 54 x.toNatClampNeg).toNatClampNeg = d
def varOK (V : PV) (v : Int32) (d : Nat) : Prop := (0 ≤ v.toInt ∧ v.toInt ≤ 9 ∧ v.toInt < (V.i 4 d).toInt) ∨ (1000 ≤ v.toInt ∧ v.toInt ≤ 1002) ∨ (2000 ≤ v.toInt ∧ v.toInt ≤ 2007)
def nodeOK (V : PV) (n : Nat) : Prop :=
  1 ≤ (V.i 51 n).toInt ∧ (V.i 51 n).toInt ≤ 13 ∧ ((V.i 54 n).toNatClampNeg : Int) < (V.n 0).toInt ∧
  ((V.i 47 n).toInt = 2 → varOK V (V.i 50 n) (V.i 54 n).toNatClampNeg ∧ ((V.i 48 n).toInt = -1 ∨ EV V (V.i 48 n) ((V.i 51 n).toInt - 1) (V.i 54 n).toNatClampNeg)) ∧
  ((V.i 47 n).toInt = 3 ∨ (V.i 47 n).toInt = 9 → (V.i 52 n).toInt ≤ 3 ∧ ∀ k : Nat, (k : Int) < (V.i 52 n).toInt → EV V (V.i 53 (3 * n + k)) ((V.i 51 n).toInt - 1) (V.i 54 n).toNatClampNeg) ∧
  ((V.i 47 n).toInt = 3 → fnd V (V.i 54 n).toNatClampNeg (V.l 55 n) (V.l 56 n)) ∧
  ((V.i 47 n).toInt = 9 → 0 ≤ (V.i 3 (V.i 54 n).toNatClampNeg).toInt ∧ fnd V (V.i 3 (V.i 54 n).toNatClampNeg).toNatClampNeg (V.l 55 n) (V.l 56 n)) ∧
  ((V.i 47 n).toInt = 4 → EV V (V.i 48 n) ((V.i 51 n).toInt - 1) (V.i 54 n).toNatClampNeg ∧ (V.i 47 (V.i 48 n).toNatClampNeg).toInt = 2) ∧
  ((V.i 47 n).toInt = 6 → 0 ≤ (V.i 50 n).toInt ∧ (V.i 50 n).toInt ≤ 9) ∧
  ((V.i 47 n).toInt = 7 ∨ (V.i 47 n).toInt = 8 ∨ (V.i 47 n).toInt < 1 ∨ 9 < (V.i 47 n).toInt → EV V (V.i 48 n) ((V.i 51 n).toInt - 1) (V.i 54 n).toNatClampNeg) ∧
  ((V.i 47 n).toInt < 1 ∨ 9 < (V.i 47 n).toInt → EV V (V.i 49 n) ((V.i 51 n).toInt - 1) (V.i 54 n).toNatClampNeg)
/-- s is no statement, or one at level b of member m -/
def TS (V : PV) (δ : Nat → Nat) (s : Int32) (b m : Nat) : Prop := s.toInt = -1 ∨ (0 ≤ s.toInt ∧ s.toInt < (V.n 46).toInt ∧ δ s.toNatClampNeg = b ∧ (V.i 42 s.toNatClampNeg).toNatClampNeg = m)
def stOK (V : PV) (δ : Nat → Nat) (s : Nat) : Prop :=
  1 ≤ δ s ∧ δ s ≤ 8 ∧ ((V.i 42 s).toNatClampNeg : Int) < (V.n 27).toInt ∧ TS V δ (V.i 41 s) (δ s) (V.i 42 s).toNatClampNeg ∧
  ((V.i 34 s).toInt = 1 → 0 ≤ (V.i 35 s).toInt ∧ (V.i 35 s).toInt ≤ 7) ∧
  ((V.i 34 s).toInt = 2 → varOK V (V.i 35 s) (V.i 18 (V.i 42 s).toNatClampNeg).toNatClampNeg ∧ ((V.i 37 s).toInt = -1 ∨ EV V (V.i 37 s) 13 (V.i 18 (V.i 42 s).toNatClampNeg).toNatClampNeg)) ∧
  (1 ≤ (V.i 34 s).toInt ∧ (V.i 34 s).toInt ≤ 5 → EV V (V.i 38 s) 13 (V.i 18 (V.i 42 s).toNatClampNeg).toNatClampNeg) ∧
  ((V.i 34 s).toInt = 3 ∨ (V.i 34 s).toInt = 4 → TS V δ (V.i 39 s) (δ s + 1) (V.i 42 s).toNatClampNeg) ∧
  ((V.i 34 s).toInt = 3 → TS V δ (V.i 40 s) (δ s + 1) (V.i 42 s).toNatClampNeg) ∧
  ((V.i 34 s).toInt < 1 ∨ 6 < (V.i 34 s).toInt → EV V (V.i 36 s) 13 (V.i 18 (V.i 42 s).toNatClampNeg).toNatClampNeg ∧ ((V.i 47 (V.i 36 s).toNatClampNeg).toInt = 3 ∨ (V.i 47 (V.i 36 s).toNatClampNeg).toInt = 9))
def claOK (V : PV) (c : Nat) : Prop :=
  ((V.i 3 c).toInt = -1 ∨ (0 ≤ (V.i 3 c).toInt ∧ (V.i 3 c).toInt < (c : Int) ∧ II V c (V.i 3 c).toNatClampNeg)) ∧
  (∀ k : Nat, (k : Int) < (V.i 15 c).toInt → ((V.i 14 (12 * c + k)).toNatClampNeg : Int) < (V.n 27).toInt ∧ II V c (V.i 18 (V.i 14 (12 * c + k)).toNatClampNeg).toNatClampNeg) ∧
  (∀ v : Nat, (v : Int) < (V.i 4 c).toInt → (V.i 9 (10 * c + v)).toInt ≤ 23 ∧ (V.i 9 (10 * c + v)).toInt + (V.i 8 (10 * c + v)).toInt ≤ 24) ∧
  (∀ k : Nat, (k : Int) < (V.i 13 c).toInt → EV V (V.i 11 (8 * c + k)) 13 c)
def memOK (V : PV) (δ : Nat → Nat) (m : Nat) : Prop :=
  ((V.i 18 m).toNatClampNeg : Int) < (V.n 0).toInt ∧ TS V δ (V.i 23 m) 1 m ∧
  (∀ k : Nat, (k : Int) < (V.i 22 m).toInt → ((V.i 28 (8 * m + k)).toInt = 1 ∨ (V.i 28 (8 * m + k)).toInt = 2 → EV V (V.i 29 (8 * m + k)) 13 (V.i 18 m).toNatClampNeg) ∧ ((V.i 28 (8 * m + k)).toInt = 5 → (V.i 29 (8 * m + k)).toInt = -1 ∨ EV V (V.i 29 (8 * m + k)) 13 (V.i 18 m).toNatClampNeg)) ∧
  (∀ k : Nat, (k : Int) < (V.i 19 m).toInt → (V.i 20 (3 * m + k)).toInt ≤ (V.i 21 (3 * m + k)).toInt)
def wfP (V : PV) (δ : Nat → Nat) : Prop :=
  (∀ n : Nat, (n : Int) < (V.n 57).toInt → nodeOK V n) ∧ (∀ s : Nat, (s : Int) < (V.n 46).toInt → stOK V δ s) ∧ (∀ c : Nat, (c : Int) < (V.n 0).toInt → claOK V c) ∧ (∀ m : Nat, (m : Int) < (V.n 27).toInt → memOK V δ m) ∧ (V.n 57).toInt ≤ 2500 ∧ (V.n 46).toInt ≤ 700 ∧ (V.n 27).toInt ≤ 110 ∧ (V.n 0).toInt ≤ 8
/-- an object of class c runs what was read in class d -/
def cAt (V : PV) (c : Int32) (d : Nat) : Prop := 0 ≤ c.toInt ∧ c.toInt < (V.n 0).toInt ∧ II V c.toNatClampNeg d
theorem tnZ {i : Int32} (h : 0 ≤ i.toInt) : (i.toNatClampNeg : Int) = i.toInt := by
  have h9 : i.toNatClampNeg = i.toInt.toNat := rfl
  omega
section WFP
variable {V : PV} {δ : Nat → Nat} {x y n op : Int32} {h : Int} {d m b : Nat}
theorem EV.node (hW : wfP V δ) (hE : EV V n h d) : nodeOK V n.toNatClampNeg := hW.1 _ (by rw [tnZ hE.1]; exact hE.2.1)
theorem EV.hi (hW : wfP V δ) (hE : EV V n h d) : 1 ≤ h := Int.le_trans (EV.node hW hE).1 hE.2.2.1
theorem EV.up {h' : Int} (hE : EV V n h d) (hh : h ≤ h') : EV V n h' d := ⟨hE.1, hE.2.1, Int.le_trans hE.2.2.1 hh, hE.2.2.2⟩
theorem EV.cls (hW : wfP V δ) (hE : EV V n h d) : (d : Int) < (V.n 0).toInt := by
  have h1 := (EV.node hW hE).2.2.1
  rw [hE.2.2.2] at h1
  exact h1
theorem ch_ {z : Int32} {e : Nat} (h1 : EV V z ((V.i 51 n.toNatClampNeg).toInt - 1) (V.i 54 n.toNatClampNeg).toNatClampNeg) (hE : EV V n h d) (hz : x = z) : EV V x (h - 1) d := by
  rw [hz]
  obtain ⟨a1, a2, a3, a4⟩ := h1
  obtain ⟨b1, b2, b3, b4⟩ := hE
  exact ⟨a1, a2, by omega, by rw [a4, b4]⟩
/-- the first child of a node with one or two, or of an old -/
theorem ev_x (hW : wfP V δ) (hE : EV V n h d) (ho : op = V.i 47 n.toNatClampNeg) (hc : op.toInt = 4 ∨ op.toInt = 7 ∨ op.toInt = 8 ∨ op.toInt < 1 ∨ 9 < op.toInt) (hx : x = V.i 48 n.toNatClampNeg) : EV V x (h - 1) d := by
  obtain ⟨-, -, -, -, -, -, -, h4, -, h7, -⟩ := EV.node hW hE
  rw [← ho] at h4 h7
  rcases hc with q | q
  · exact ch_ (e := 0) (h4 q).1 hE hx
  · exact ch_ (e := 0) (h7 q) hE hx
theorem ev_y (hW : wfP V δ) (hE : EV V n h d) (ho : op = V.i 47 n.toNatClampNeg) (hc : op.toInt < 1 ∨ 9 < op.toInt) (hx : x = V.i 49 n.toNatClampNeg) : EV V x (h - 1) d := by
  obtain ⟨-, -, -, -, -, -, -, -, -, -, h7⟩ := EV.node hW hE
  rw [← ho] at h7
  exact ch_ (e := 0) (h7 hc) hE hx
/-- the index of a place -/
theorem ev_i (hW : wfP V δ) (hE : EV V n h d) (ho : (V.i 47 n.toNatClampNeg).toInt = 2) (hx : x = V.i 48 n.toNatClampNeg) (hc : x.toInt ≠ -1) : EV V x (h - 1) d := by
  obtain ⟨-, -, -, h2, -⟩ := EV.node hW hE
  rcases (h2 ho).2 with q | q
  · rw [← hx] at q
    exact absurd q hc
  · exact ch_ (e := 0) q hE hx
theorem ev_v (hW : wfP V δ) (hE : EV V n h d) (ho : (V.i 47 n.toNatClampNeg).toInt = 2) (hx : x = V.i 50 n.toNatClampNeg) : varOK V x d := by
  obtain ⟨-, -, -, h2, -⟩ := EV.node hW hE
  have := (h2 ho).1
  rw [hE.2.2.2, ← hx] at this
  exact this
/-- an old's child is a place -/
theorem ev_o (hW : wfP V δ) (hE : EV V n h d) (ho : op = V.i 47 n.toNatClampNeg) (hc : op.toInt = 4) (hx : x = V.i 48 n.toNatClampNeg) : (V.i 47 x.toNatClampNeg).toInt = 2 := by
  obtain ⟨-, -, -, -, -, -, -, h4, -⟩ := EV.node hW hE
  rw [← ho] at h4
  rw [hx]
  exact (h4 hc).2
theorem ev_s (hW : wfP V δ) (hE : EV V n h d) (ho : op = V.i 47 n.toNatClampNeg) (hc : op.toInt = 6) (hx : x = V.i 50 n.toNatClampNeg) : 0 ≤ x.toInt ∧ x.toInt ≤ 9 := by
  obtain ⟨-, -, -, -, -, -, -, -, h6, -⟩ := EV.node hW hE
  rw [← ho] at h6
  rw [hx]
  exact h6 hc
/-- what a call's node says -/
def isC (V : PV) (n : Int32) : Prop := (V.i 47 n.toNatClampNeg).toInt = 3 ∨ (V.i 47 n.toNatClampNeg).toInt = 9
theorem ev_a (hW : wfP V δ) (hE : EV V n h d) (ho : isC V n) {k i : Int32} {mn : Int32} (hm : mn = V.i 52 n.toNatClampNeg) (hk : k.toInt < mn.toInt) (h0 : 0 ≤ k.toInt) (hi : i.toInt = 3 * n.toInt + k.toInt) (hx : x = V.i 53 i.toNatClampNeg) : EV V x (h - 1) d := by
  obtain ⟨-, -, -, -, h3, -⟩ := EV.node hW hE
  have e1 : i.toNatClampNeg = 3 * n.toNatClampNeg + k.toNatClampNeg := by
    have h1 := tnZ h0
    have h2 := tnZ hE.1
    have h4 := tnZ (i := i) (by have := hE.1; omega)
    omega
  rw [e1] at hx
  exact ch_ (e := 0) ((h3 ho).2 k.toNatClampNeg (by rw [tnZ h0, ← hm]; exact hk)) hE hx
theorem ev_c (hW : wfP V δ) (hE : EV V n h d) (ho : op = V.i 47 n.toNatClampNeg) (hC : isC V n) (hc : op.toInt ≠ 9) : fnd V d (V.l 55 n.toNatClampNeg) (V.l 56 n.toNatClampNeg) := by
  obtain ⟨-, -, -, -, -, h3, -⟩ := EV.node hW hE
  rw [hE.2.2.2] at h3
  unfold isC at hC
  rw [← ho] at hC h3
  exact h3 (by omega)
theorem ev_u (hW : wfP V δ) (hE : EV V n h d) (ho : op = V.i 47 n.toNatClampNeg) (hc : op.toInt = 9) {u : Int32} (hu : u = V.i 3 d) : 0 ≤ u.toInt ∧ fnd V u.toNatClampNeg (V.l 55 n.toNatClampNeg) (V.l 56 n.toNatClampNeg) ∧ II V d u.toNatClampNeg ∧ u.toInt < (V.n 0).toInt := by
  obtain ⟨-, -, -, -, -, -, h9, -⟩ := EV.node hW hE
  rw [hE.2.2.2, ← ho] at h9
  have hd := EV.cls hW hE
  have hk := (hW.2.2.1 d hd).1
  rw [← hu] at hk h9
  obtain ⟨q1, q2⟩ := h9 hc
  rcases hk with q | ⟨q3, q4, q5⟩
  · omega
  · exact ⟨q1, q2, q5, by omega⟩
/-- what find gives is a member that class c may run -/
theorem fnd_m (hW : wfP V δ) {c : Nat} (hc : (c : Int) < (V.n 0).toInt) {k : Nat} (hk : (k : Int) < (V.i 15 c).toInt) (hx : x = V.i 14 (12 * c + k)) : ((x.toNatClampNeg : Int) < (V.n 27).toInt) ∧ II V c (V.i 18 x.toNatClampNeg).toNatClampNeg := by
  have h1 := (hW.2.2.1 c hc).2.1 k hk
  rw [← hx] at h1
  exact h1
theorem fld_ok (hW : wfP V δ) {c : Int32} (hc : cAt V c d) {v i : Int32} (hv : 0 ≤ v.toInt ∧ v.toInt ≤ 9 ∧ v.toInt < (V.i 4 d).toInt) (hi : i.toInt = 10 * c.toInt + v.toInt) (hx : x = V.i 9 i.toNatClampNeg) (hy : y = V.i 8 i.toNatClampNeg) : x.toInt ≤ 23 ∧ x.toInt + y.toInt ≤ 24 := by
  obtain ⟨h0, h1, h2, -⟩ := hc
  have hc' := tnZ h0
  have hv' := tnZ hv.1
  have hv2 := hv.2.2
  have h3 := (hW.2.2.1 c.toNatClampNeg (by omega)).2.2.1 v.toNatClampNeg (by omega)
  have e1 : i.toNatClampNeg = 10 * c.toNatClampNeg + v.toNatClampNeg := by
    have h4 := tnZ (i := i) (by omega)
    omega
  rw [← e1, ← hx, ← hy] at h3
  exact h3
theorem TS.ok (hW : wfP V δ) (h : TS V δ x b m) (hx : x.toInt ≠ -1) : stOK V δ x.toNatClampNeg ∧ 0 ≤ x.toInt ∧ x.toInt < (V.n 46).toInt ∧ δ x.toNatClampNeg = b ∧ (V.i 42 x.toNatClampNeg).toNatClampNeg = m := by
  rcases h with q | ⟨h1, h2, h3, h4⟩
  · exact absurd q hx
  · exact ⟨hW.2.1 _ (by rw [tnZ h1]; exact h2), h1, h2, h3, h4⟩
/-- statement s, at level b of member m, which was told in class d -/
def SS (V : PV) (δ : Nat → Nat) (s : Int32) (b m d : Nat) : Prop := 0 ≤ s.toInt ∧ s.toInt < (V.n 46).toInt ∧ δ s.toNatClampNeg = b ∧ (V.i 42 s.toNatClampNeg).toNatClampNeg = m ∧ (V.i 18 m).toNatClampNeg = d
theorem TS.ss (h : TS V δ x b m) (hx : x.toInt ≠ -1) (hd : (V.i 18 m).toNatClampNeg = d) : SS V δ x b m d := by
  rcases h with q | ⟨h1, h2, h3, h4⟩
  · exact absurd q hx
  · exact ⟨h1, h2, h3, h4, hd⟩
theorem SS.ok (hW : wfP V δ) (h : SS V δ n b m d) : stOK V δ n.toNatClampNeg := hW.2.1 _ (by rw [tnZ h.1]; exact h.2.1)
theorem SS.lev (hW : wfP V δ) (h : SS V δ n b m d) : 1 ≤ b ∧ b ≤ 8 := by
  have := SS.ok hW h
  rw [← h.2.2.1]
  exact ⟨this.1, this.2.1⟩
theorem ss_next (hW : wfP V δ) (h : SS V δ n b m d) (hx : x = V.i 41 n.toNatClampNeg) : TS V δ x b m := by
  have h1 := (SS.ok hW h).2.2.2.1
  rw [h.2.2.1, h.2.2.2.1, ← hx] at h1
  exact h1
theorem ss_let (hW : wfP V δ) (h : SS V δ n b m d) (ho : op = V.i 34 n.toNatClampNeg) (hc : op.toInt = 1) (hx : x = V.i 35 n.toNatClampNeg) : 0 ≤ x.toInt ∧ x.toInt ≤ 7 := by
  have h1 := (SS.ok hW h).2.2.2.2.1
  rw [← ho, ← hx] at h1
  exact h1 hc
theorem ss_asg (hW : wfP V δ) (h : SS V δ n b m d) (hc : (V.i 34 n.toNatClampNeg).toInt = 2) (hx : x = V.i 35 n.toNatClampNeg) : varOK V x d := by
  have h1 := ((SS.ok hW h).2.2.2.2.2.1 hc).1
  rw [h.2.2.2.1, h.2.2.2.2, ← hx] at h1
  exact h1
theorem ss_idx (hW : wfP V δ) (h : SS V δ n b m d) (hc : (V.i 34 n.toNatClampNeg).toInt = 2) (hx : x = V.i 37 n.toNatClampNeg) (hn : x.toInt ≠ -1) : EV V x 13 d := by
  have h1 := ((SS.ok hW h).2.2.2.2.2.1 hc).2
  rw [h.2.2.2.1, h.2.2.2.2, ← hx] at h1
  exact h1.resolve_left hn
theorem ss_ex (hW : wfP V δ) (h : SS V δ n b m d) (hc : 1 ≤ (V.i 34 n.toNatClampNeg).toInt ∧ (V.i 34 n.toNatClampNeg).toInt ≤ 5) (hx : x = V.i 38 n.toNatClampNeg) : EV V x 13 d := by
  have h1 := (SS.ok hW h).2.2.2.2.2.2.1 hc
  rw [h.2.2.2.1, h.2.2.2.2, ← hx] at h1
  exact h1
theorem ss_blk (hW : wfP V δ) (h : SS V δ n b m d) (hc : (V.i 34 n.toNatClampNeg).toInt = 3 ∨ (V.i 34 n.toNatClampNeg).toInt = 4) (hx : x = V.i 39 n.toNatClampNeg) : TS V δ x (b + 1) m := by
  have h1 := (SS.ok hW h).2.2.2.2.2.2.2.1 hc
  rw [h.2.2.1, h.2.2.2.1, ← hx] at h1
  exact h1
theorem ss_els (hW : wfP V δ) (h : SS V δ n b m d) (hc : (V.i 34 n.toNatClampNeg).toInt = 3) (hx : x = V.i 40 n.toNatClampNeg) : TS V δ x (b + 1) m := by
  have h1 := (SS.ok hW h).2.2.2.2.2.2.2.2.1 hc
  rw [h.2.2.1, h.2.2.2.1, ← hx] at h1
  exact h1
theorem ss_do (hW : wfP V δ) (h : SS V δ n b m d) (hc : (V.i 34 n.toNatClampNeg).toInt < 1 ∨ 6 < (V.i 34 n.toNatClampNeg).toInt) (hx : x = V.i 36 n.toNatClampNeg) : EV V x 13 d ∧ isC V x := by
  have h1 := (SS.ok hW h).2.2.2.2.2.2.2.2.2 hc
  rw [h.2.2.2.1, h.2.2.2.2, ← hx] at h1
  exact h1
theorem EV.bd (hW : wfP V δ) (hE : EV V n h d) : 0 ≤ n.toInt ∧ n.toInt ≤ 2499 := ⟨hE.1, by have := hE.2.1; have := hW.2.2.2.2.1; omega⟩
theorem SS.bd (hW : wfP V δ) (hE : SS V δ n b m d) : 0 ≤ n.toInt ∧ n.toInt ≤ 699 := ⟨hE.1, by have := hE.2.1; have := hW.2.2.2.2.2.1; omega⟩
end WFP
/-- r is the member of that name which class c has -/
def fndR (V : PV) (c : Nat) (a b : Int64) (r : Int32) : Prop := ∃ k : Nat, (k : Int) < (V.i 15 c).toInt ∧ r = V.i 14 (12 * c + k) ∧ V.l 16 r.toNatClampNeg = a ∧ V.l 17 r.toNatClampNeg = b
/-- none of the first k has that name -/
def nfn (V : PV) (c : Nat) (a b : Int64) (k : Int32) : Prop := ∀ j : Nat, (j : Int) < k.toInt → ¬ (V.l 16 (V.i 14 (12 * c + j)).toNatClampNeg = a ∧ V.l 17 (V.i 14 (12 * c + j)).toNatClampNeg = b)
theorem nfn_0 {V : PV} {c : Nat} {a b : Int64} : nfn V c a b 0 := fun j hj => by
  have : (0 : Int32).toInt = 0 := by decide
  omega
theorem fnd_no {V : PV} {c : Nat} {a b : Int64} {k h : Int32} (hI : nfn V c a b k) (hh : h = V.i 15 c) (hs : h.toInt ≤ k.toInt) : ¬ fnd V c a b := by
  rintro ⟨j, h1, h2, h3⟩
  rw [← hh] at h1
  exact hI j (by omega) ⟨h2, h3⟩
theorem lev_top {V : PV} {O Z : Nat → Int32} {o : Int32} {k d : Nat} (h : cAt V (O o.toNatClampNeg) d) : cAt V (O ((fun j => if j = k then o else Z j) k).toNatClampNeg) d := by
  simp only [if_true]
  exact h
theorem mem_blk {V : PV} {δ : Nat → Nat} {m x : Int32} (hW : wfP V δ) (hm : ((m.toNatClampNeg : Nat) : Int) < (V.n 27).toInt) (hx : x = V.i 23 m.toNatClampNeg) : TS V δ x 1 m.toNatClampNeg := by
  rw [hx]
  exact (hW.2.2.2.1 _ hm).2.1
theorem nfn_s {V : PV} {c : Nat} {a b : Int64} {k k1 i r : Int32} (hI : nfn V c a b k) (hk : 0 ≤ k.toInt) (h1 : k1.toInt = k.toInt + 1) (hc : i.toNatClampNeg = 12 * c + k.toNatClampNeg) (hr : r = V.i 14 i.toNatClampNeg) (hn : ¬ (V.l 16 r.toNatClampNeg = a ∧ V.l 17 r.toNatClampNeg = b)) : nfn V c a b k1 := by
  intro j hj
  have hk' := tnZ hk
  by_cases hjk : (j : Int) < k.toInt
  · exact hI j hjk
  · have : j = k.toNatClampNeg := by omega
    subst this
    rw [hc] at hr
    rw [← hr]
    exact hn
theorem fndR_of {V : PV} {c : Nat} {a b : Int64} {k h i r : Int32} (hk : 0 ≤ k.toInt) (hh : h = V.i 15 c) (hlt : k.toInt < h.toInt) (hc : i.toNatClampNeg = 12 * c + k.toNatClampNeg) (hr : r = V.i 14 i.toNatClampNeg) (h1 : V.l 16 r.toNatClampNeg = a) (h2 : V.l 17 r.toNatClampNeg = b) : fndR V c a b r := by
  refine ⟨k.toNatClampNeg, ?_, ?_, h1, h2⟩
  · rw [tnZ hk, ← hh]
    exact hlt
  · rw [hr, hc]
theorem ix12 {c k i : Int32} (hc : 0 ≤ c.toInt) (hk : 0 ≤ k.toInt) (h : i.toInt = 12 * c.toInt + k.toInt) : i.toNatClampNeg = 12 * c.toNatClampNeg + k.toNatClampNeg := by
  have h1 := tnZ hc
  have h2 := tnZ hk
  have h3 := tnZ (i := i) (by omega)
  omega
theorem fndR.mem {V : PV} {δ : Nat → Nat} {c : Int32} {a b : Int64} {r : Int32} (h : fndR V c.toNatClampNeg a b r) (hW : wfP V δ) (hc : 0 ≤ c.toInt ∧ c.toInt < (V.n 0).toInt) : ((r.toNatClampNeg : Nat) : Int) < (V.n 27).toInt ∧ II V c.toNatClampNeg (V.i 18 r.toNatClampNeg).toNatClampNeg := by
  obtain ⟨k, h1, h2, -⟩ := h
  exact fnd_m hW (by rw [tnZ hc.1]; exact hc.2) h1 h2
theorem cAt.tr {V : PV} {c : Int32} {d e : Nat} (h : cAt V c d) (h2 : II V c.toNatClampNeg e) : cAt V c e := ⟨h.1, h.2.1, h2⟩
/-- c is a class -/
def okc (V : PV) (c : Int32) : Prop := 0 ≤ c.toInt ∧ c.toInt < (V.n 0).toInt
theorem okc.at {V : PV} {c : Int32} (h : okc V c) : cAt V c c.toNatClampNeg := ⟨h.1, h.2, II.rf⟩
/-- c is no class, or one above x's -/
def cN (V : PV) (x c : Int32) : Prop := c.toInt = -1 ∨ (okc V c ∧ cAt V x c.toNatClampNeg)
theorem cN.of {V : PV} {x c : Int32} (h : okc V x) (e : c = x) : cN V x c := by
  subst e
  exact Or.inr ⟨h, h.at⟩
theorem cN.is {V : PV} {x c : Int32} (h : cN V x c) (hn : c.toInt ≠ -1) : okc V c ∧ cAt V x c.toNatClampNeg := h.resolve_left hn
theorem cN.above {V : PV} {δ : Nat → Nat} {x c d : Int32} (hW : wfP V δ) (h : okc V c) (e : d = V.i 3 c.toNatClampNeg) : (d.toInt = -1 ∨ (okc V d ∧ II V c.toNatClampNeg d.toNatClampNeg)) ∧ d.toInt < c.toInt := by
  have h1 := tnZ h.1
  have h2 := (hW.2.2.1 c.toNatClampNeg (by rw [h1]; exact h.2)).1
  rw [← e] at h2
  have h3 := h.1
  have h4 := h.2
  rcases h2 with q | ⟨q1, q2, q3⟩
  · exact ⟨Or.inl q, by omega⟩
  · exact ⟨Or.inr ⟨⟨q1, by omega⟩, q3⟩, by omega⟩
theorem cN.step {V : PV} {δ : Nat → Nat} {x c d : Int32} (hW : wfP V δ) (h : cN V x c) (hn : c.toInt ≠ -1) (e : d = V.i 3 c.toNatClampNeg) : cN V x d := by
  obtain ⟨h1, h2⟩ := h.is hn
  rcases (cN.above (x := x) hW h1 e).1 with q | ⟨q1, q2⟩
  · exact Or.inl q
  · exact Or.inr ⟨q1, h2.1, h2.2.1, h2.2.2.tr q2⟩
theorem kept_ok {V : PV} {δ : Nat → Nat} {c k x mn : Int32} (hW : wfP V δ) (h : okc V c) (hm : mn = V.i 13 c.toNatClampNeg) (h1 : 8 * c.toInt ≤ k.toInt) (h2 : k.toInt < 8 * c.toInt + mn.toInt) (hx : x = V.i 11 k.toNatClampNeg) : EV V x 13 c.toNatClampNeg := by
  have e1 := tnZ h.1
  have h0 := h.1
  have e2 := tnZ (i := k) (by omega)
  have h3 := (hW.2.2.1 c.toNatClampNeg (by rw [e1]; exact h.2)).2.2.2 (k.toNatClampNeg - 8 * c.toNatClampNeg) (by rw [← hm]; omega)
  rw [show 8 * c.toNatClampNeg + (k.toNatClampNeg - 8 * c.toNatClampNeg) = k.toNatClampNeg by omega, ← hx] at h3
  exact h3
/-- t is a telling of class c -/
def tB (V : PV) (c t : Int32) : Prop := 0 ≤ t.toInt ∧ t.toInt < (V.n 27).toInt ∧ V.i 18 t.toNatClampNeg = c
theorem mark_at {V : PV} {δ : Nat → Nat} {c t k mn : Int32} (hW : wfP V δ) (h : tB V c t) (hm : mn = V.i 22 t.toNatClampNeg) (h1 : 8 * t.toInt ≤ k.toInt) (h2 : k.toInt < 8 * t.toInt + mn.toInt) :
    ((V.i 28 k.toNatClampNeg).toInt = 1 ∨ (V.i 28 k.toNatClampNeg).toInt = 2 → EV V (V.i 29 k.toNatClampNeg) 13 c.toNatClampNeg) ∧ ((V.i 28 k.toNatClampNeg).toInt = 5 → (V.i 29 k.toNatClampNeg).toInt = -1 ∨ EV V (V.i 29 k.toNatClampNeg) 13 c.toNatClampNeg) := by
  have e1 := tnZ h.1
  have h0 := h.1
  have e2 := tnZ (i := k) (by omega)
  have h3 := (hW.2.2.2.1 t.toNatClampNeg (by rw [e1]; exact h.2.1)).2.2.1 (k.toNatClampNeg - 8 * t.toNatClampNeg) (by rw [← hm]; omega)
  rw [show 8 * t.toNatClampNeg + (k.toNatClampNeg - 8 * t.toNatClampNeg) = k.toNatClampNeg by omega, h.2.2] at h3
  exact h3
theorem mark_ok {V : PV} {δ : Nat → Nat} {c t k x a mn : Int32} (hW : wfP V δ) (h : tB V c t) (hm : mn = V.i 22 t.toNatClampNeg) (h1 : 8 * t.toInt ≤ k.toInt) (h2 : k.toInt < 8 * t.toInt + mn.toInt) (ha : a = V.i 28 k.toNatClampNeg) (hc : a.toInt = 1 ∨ a.toInt = 2) (hx : x = V.i 29 k.toNatClampNeg) : EV V x 13 c.toNatClampNeg := by
  rw [ha] at hc
  rw [hx]
  exact (mark_at hW h hm h1 h2).1 hc
theorem mark_w {V : PV} {δ : Nat → Nat} {c t k x a mn : Int32} (hW : wfP V δ) (h : tB V c t) (hm : mn = V.i 22 t.toNatClampNeg) (h1 : 8 * t.toInt ≤ k.toInt) (h2 : k.toInt < 8 * t.toInt + mn.toInt) (ha : a = V.i 28 k.toNatClampNeg) (hc : a.toInt = 5) (hx : x = V.i 29 k.toNatClampNeg) (hn : x.toInt ≠ -1) : EV V x 13 c.toNatClampNeg := by
  rw [ha] at hc
  rw [hx] at hn ⊢
  exact ((mark_at hW h hm h1 h2).2 hc).resolve_left hn
theorem fld_at {V : PV} {δ : Nat → Nat} {c v i x y nf : Int32} (hW : wfP V δ) (h : okc V c) (h0 : 0 ≤ v.toInt) (hn : nf = V.i 4 c.toNatClampNeg) (hv : v.toInt < nf.toInt) (hi : i.toInt = 10 * c.toInt + v.toInt) (hx : x = V.i 9 i.toNatClampNeg) (hy : y = V.i 8 i.toNatClampNeg) : x.toInt ≤ 23 ∧ x.toInt + y.toInt ≤ 24 := by
  have e1 := tnZ h.1
  have e2 := tnZ h0
  have h3 := h.1
  have e3 := tnZ (i := i) (by omega)
  have h4 := (hW.2.2.1 c.toNatClampNeg (by rw [e1]; exact h.2)).2.2.1 v.toNatClampNeg (by rw [e2, ← hn]; exact hv)
  rw [show 10 * c.toNatClampNeg + v.toNatClampNeg = i.toNatClampNeg by omega, ← hx, ← hy] at h4
  exact h4
section PVF
variable {p : Program} {l : Launch} {e : Env} {R : Room} {s : State} {m : MethodId} {args : Array Value} {below : List Frame} {meth : Method} {c : Code} {H : Heap} {locs : List Loc} {cells slots : Nat} {Q : State → Prop} {cc : ByteArray} {pc : Nat} {ls : Array Slot} {rest : List Value} {D : va_G} {tys : List (ClassId × FieldType)} {L : List Nat} {kd : Nat → Nat} {f0 f f1 : Nat → va_E} {md : List (Nat × Nat)} {ma : List Nat} {fx : List Fct} {a q t : Nat} {V : PV} {δ : Nat → Nat}
def aJ (f : Nat → va_E) (a i : Nat) : Int64 := match f a with
  | .inl (_, _, .inr (.inl h)) => h i
  | _ => 0
def rf (f : Nat → va_E) (q j : Nat) : Nat := match fV f q j with
  | .ref a => a
  | _ => 0
theorem rf_eq {j : Nat} (h : fV f q j = .ref a) : rf f q j = a := by unfold rf; rw [h]
theorem g_laldX {K n : Nat} {lo hi : Int} {i : Int32} (hx : p.tables.exec = Jvm.exec) (hb : c.code = cc) (hK : va_K D vwCl tys s) (g : G3 D L kd tys s f0 md ma f H locs fx) (ha : a ∈ L) (hk : kd a = K) (hK1 : 100 ≤ K) (hA : AT K = (3, n, lo, hi)) (hin : vp_in i n) (hdg : decode cc pc = .ok (.laload, 1)) (kk : ∀ x : Int64, x = aJ f a i.toNatClampNeg → W p l e R s m args below meth c H locs cells slots Q (F0 m (pc + 1) ls (.long x :: rest))) : W p l e R s m args below meth c H locs cells slots Q (F0 m pc ls (.int i :: .ref a :: rest)) := by
  obtain ⟨q0, h1, h2⟩ := ok_arr g ha hk
  rw [okE_l hK1 hA] at h2
  obtain ⟨cA, t0, h, e1, e2⟩ := h2
  rw [e1] at h1
  exact va_lald hx hb hK g.1 q0 t0 h1 e2 hin hdg (kk _ (by unfold aJ; rw [e1]))
/-- the program at q is V -/
def isV (f : Nat → va_E) (q : Nat) (V : PV) : Prop := (∀ j, jI j = true → ∀ k, aI f (rf f q j) k = V.i j k) ∧ (∀ j, jL j = true → ∀ k, aJ f (rf f q j) k = V.l j k) ∧ ∀ j, jN j = true → fV f q j = .int (V.n j)
def chkJ (j : Nat) : Bool := match (FS 12)[j]? with
  | some (2, a, b) => a == b && 157 ≤ a && a ≤ 210 && a != 200
  | _ => false
theorem chk_lt : ∀ j, j < 60 → (jI j || jL j) = true → chkJ j = true := by decide +kernel
theorem chk_all {j : Nat} (h : (jI j || jL j) = true) : chkJ j = true := by
  by_cases hj : j < 60
  · exact chk_lt j hj h
  · exfalso
    unfold jI jL at h
    simp at h
    omega
theorem ref_of (hW : WT L kd tys f) (ha : a ∈ L) {ci : Nat} (hk : kd a = ci) (hci : ci < 100) {j : Nat} {lo hi : Int} (ht : (FS ci)[j]? = some (2, lo, hi)) : ∃ b, fV f a j = .ref b ∧ b ∈ L ∧ lo ≤ kd b ∧ kd b ≤ hi := by
  have h1 := hW a ha
  rw [hk] at h1
  unfold okE at h1
  rw [if_pos hci] at h1
  obtain ⟨fs, e1, e2, e3⟩ := h1
  obtain ⟨b, e4, e5, e6, e7⟩ := e3 j _ ht
  refine ⟨b, ?_, e5, e6, e7⟩
  unfold fV
  rw [e1]
  exact e4
theorem arr_of (hW : WT L kd tys f) (hq : q ∈ L) (hk : kd q = 12) {j : Nat} (h : (jI j || jL j) = true) : ∃ b, fV f q j = .ref b ∧ b ∈ L ∧ 157 ≤ kd b ∧ kd b ≤ 210 ∧ kd b ≠ 200 := by
  have h1 := chk_all h
  unfold chkJ at h1
  split at h1
  · rename_i a b hs
    simp only [Bool.and_eq_true, beq_iff_eq, decide_eq_true_eq, bne_iff_ne] at h1
    obtain ⟨⟨⟨h2, h3⟩, h4⟩, h5⟩ := h1
    obtain ⟨r, r1, r2, r3, r4⟩ := ref_of hW hq hk (by decide) hs
    exact ⟨r, r1, r2, by omega, by omega, by omega⟩
  · cases h1
theorem isV.frame (hM : Md L kd md ma f f1) (hW : WT L kd tys f) (hq : q ∈ L) (hk : kd q = 12) (h1 : (md.all fun x => x.1 != 12) = true) (h2 : (ma.all fun k => decide (k < 157) || k == 200 || decide (210 < k)) = true) (h : isV f q V) : isV f1 q V := by
  have hm : ∀ j, fV f1 q j = fV f q j := fun j => (hM q hq).1 j (by rw [hk]; decide) (fun hc => by
    have := List.all_eq_true.mp h1 _ hc
    rw [hk] at this
    simp at this)
  have hr : ∀ j, rf f1 q j = rf f q j := fun j => by unfold rf; rw [hm j]
  have he : ∀ j, (jI j || jL j) = true → f1 (rf f q j) = f (rf f q j) := fun j hj => by
    obtain ⟨b, b1, b2, b3, b4, b5⟩ := arr_of hW hq hk hj
    rw [rf_eq b1]
    refine (hM b b2).2.1 (by omega) (fun hc => ?_)
    have := List.all_eq_true.mp h2 _ hc
    simp at this
    omega
  refine ⟨fun j hj k => ?_, fun j hj k => ?_, fun j hj => ?_⟩
  · rw [hr j, ← h.1 j hj k]
    unfold aI
    rw [he j (by rw [hj]; rfl)]
  · rw [hr j, ← h.2.1 j hj k]
    unfold aJ
    rw [he j (by rw [hj]; exact Bool.or_true _)]
  · rw [hm j]
    exact h.2.2 j hj
theorem isV.at (h : isV f q V) (g : G3 D L kd tys s f0 md ma f H locs fx) (k0 : Nat) {j i : Nat} (e : fx[k0]? = some (12, j, q, .ref a)) (hj : jI j = true) {x : Int32} (c : x = aI f a i) : x = V.i j i := by
  rw [← h.1 j hj i, rf_eq (fx_at g e).2.2.2]
  exact c
theorem isV.atL (h : isV f q V) (g : G3 D L kd tys s f0 md ma f H locs fx) (k0 : Nat) {j i : Nat} (e : fx[k0]? = some (12, j, q, .ref a)) (hj : jL j = true) {x : Int64} (c : x = aJ f a i) : x = V.l j i := by
  rw [← h.2.1 j hj i, rf_eq (fx_at g e).2.2.2]
  exact c
theorem isV.nn (h : isV f q V) (g : G3 D L kd tys s f0 md ma f H locs fx) (k0 : Nat) {j : Nat} {x : Int32} (e : fx[k0]? = some (12, j, q, .int x)) (hj : jN j = true) : x = V.n j := by
  have h1 := (fx_at g e).2.2.2
  rw [show fV f q j = .int (V.n j) from h.2.2 j hj] at h1
  simp only at h1
  cases h1
  rfl
/-- up to level w the objects of the levels are Z; the objects' classes are O -/
def RA (f : Nat → va_E) (t : Nat) (w : Int32) (Z O : Nat → Int32) : Prop := (∀ j : Nat, j ≤ w.toNatClampNeg → aI f (rf f t 43) j = Z j) ∧ ∀ j : Nat, aI f (rf f t 27) j = O j
/-- the objects' classes are O -/
def OA (f : Nat → va_E) (t : Nat) (O : Nat → Int32) : Prop := ∀ j : Nat, aI f (rf f t 27) j = O j
theorem OA.refl : OA f t (fun j => aI f (rf f t 27) j) := fun _ => rfl
theorem OA.frame {O : Nat → Int32} (hM : Md L kd md ma f f1) (hW : WT L kd tys f) (hq : t ∈ L) (hk : kd t = 14) (h1 : (md.all fun x => x != (14, 27)) = true) (h2 : (ma.all fun k => k != 215) = true) (h : OA f t O) : OA f1 t O := by
  obtain ⟨b, b1, b2, b3, b4⟩ := ref_of hW hq hk (by decide) (j := 27) rfl
  have hm : fV f1 t 27 = fV f t 27 := (hM t hq).1 27 (by rw [hk]; decide) (fun hc => by
    have := List.all_eq_true.mp h1 _ hc
    rw [hk] at this
    simp at this)
  have e1 : f1 b = f b := (hM b b2).2.1 (by omega) (fun hc => by
    have := List.all_eq_true.mp h2 _ hc
    simp at this
    omega)
  intro j
  have h3 := h j
  rw [rf_eq b1] at h3
  rw [rf_eq (hm.trans b1), ← h3]
  unfold aI
  rw [e1]
theorem OA.cls {O : Nat → Int32} (h : OA f t O) (g : G3 D L kd tys s f0 md ma f H locs fx) (k0 : Nat) (e : fx[k0]? = some (14, 27, t, .ref a)) {c : Int32} {i : Nat} (hc : c = aI f a i) : c = O i := by
  rw [← h i, rf_eq (fx_at g e).2.2.2]
  exact hc
theorem g_recv (g : G3 D L kd tys s f0 md ma f H locs fx) (hK : va_K D vwCl tys s) (ha : a ∈ L) {ci : Nat} (hk : kd a = ci) (hci : ci < 100) {q : vw_C} (hc : vwCl[ci]? = some q) : ∃ cell : Cell, H[a]? = some cell ∧ cell.vm.isStatics = false ∧ s.vm.findClass q.1 = some cell.cls := by
  obtain ⟨q0, fs, h1, -⟩ := g_open g ha hk hci
  exact va_recv hK g.1 hc h1
theorem RA.frame {w : Int32} {Z O : Nat → Int32} (hM : Md L kd md ma f f1) (hW : WT L kd tys f) (hq : t ∈ L) (hk : kd t = 14) (h1 : (md.all fun x => x != (14, 27) && x != (14, 43)) = true) (h2 : (ma.all fun k => k != 215 && k != 220) = true) (h : RA f t w Z O) : RA f1 t w Z O := by
  have hm : ∀ j, j = 27 ∨ j = 43 → fV f1 t j = fV f t j := fun j hj => (hM t hq).1 j (by rw [hk]; decide) (fun hc => by
    have := List.all_eq_true.mp h1 _ hc
    rw [hk] at this
    rcases hj with rfl | rfl <;> simp at this)
  obtain ⟨b, b1, b2, b3, b4⟩ := ref_of hW hq hk (by decide) (j := 27) rfl
  obtain ⟨b', b1', b2', b3', b4'⟩ := ref_of hW hq hk (by decide) (j := 43) rfl
  have e1 : f1 b = f b := (hM b b2).2.1 (by omega) (fun hc => by
    have := List.all_eq_true.mp h2 _ hc
    simp at this
    omega)
  have e2 : f1 b' = f b' := (hM b' b2').2.1 (by omega) (fun hc => by
    have := List.all_eq_true.mp h2 _ hc
    simp at this
    omega)
  have r1 : rf f1 t 27 = b := rf_eq (by rw [hm 27 (Or.inl rfl)]; exact b1)
  have r2 : rf f1 t 43 = b' := rf_eq (by rw [hm 43 (Or.inr rfl)]; exact b1')
  obtain ⟨h3, h4⟩ := h
  rw [rf_eq b1'] at h3
  rw [rf_eq b1] at h4
  refine ⟨fun j hj => ?_, fun j => ?_⟩
  · rw [r2, ← h3 j hj]
    unfold aI
    rw [e2]
  · rw [r1, ← h4 j]
    unfold aI
    rw [e1]
theorem RA.self {w : Int32} {Z O : Nat → Int32} (h : RA f t w Z O) (g : G3 D L kd tys s f0 md ma f H locs fx) (k0 : Nat) (e : fx[k0]? = some (14, 43, t, .ref a)) {o : Int32} (ho : o = aI f a w.toNatClampNeg) : o = Z w.toNatClampNeg := by
  rw [← h.1 _ (Nat.le_refl _), rf_eq (fx_at g e).2.2.2]
  exact ho
theorem RA.cls {w : Int32} {Z O : Nat → Int32} (h : RA f t w Z O) (g : G3 D L kd tys s f0 md ma f H locs fx) (k0 : Nat) (e : fx[k0]? = some (14, 27, t, .ref a)) {c : Int32} {i : Nat} (hc : c = aI f a i) : c = O i := by
  rw [← h.2 i, rf_eq (fx_at g e).2.2.2]
  exact hc
theorem OA.ra {O : Nat → Int32} (h : OA f t O) {w : Int32} : RA f t w (fun j => aI f (rf f t 43) j) O := ⟨fun _ _ => rfl, h⟩
theorem OA.push0 {o z : Int32} {O : Nat → Int32} (h : OA f1 t O) (g : G3 D L kd tys s f0 md ma f H locs fx) (k0 : Nat) (e : fx[k0]? = some (14, 43, t, .ref a)) (ht : t ∈ L) (hk : kd t = 14) (ha : kd a = 220) (u : uA f f1 a z.toNatClampNeg o) (hz : z = 0) : RA f1 t 0 (fun _ => o) O := by
  have e43 := (fx_at g e).2.2.2
  simp only at e43
  have hty : t ≠ a := fun q => by rw [q] at hk; omega
  have r2 : rf f1 t 43 = a := rf_eq (by rw [u.fV hty]; exact e43)
  refine ⟨fun j hj => ?_, h⟩
  have h0 : (0 : Int32).toNatClampNeg = 0 := by decide
  rw [r2, u.2, hz, if_pos (by omega)]
theorem RA.push {w w1 o : Int32} {Z O : Nat → Int32} (h : RA f t w Z O) (g : G3 D L kd tys s f0 md ma f H locs fx) (k0 : Nat) (e : fx[k0]? = some (14, 43, t, .ref a)) (ht : t ∈ L) (hk : kd t = 14) (ha : kd a = 220) (u : uA f f1 a w1.toNatClampNeg o) (h0 : 0 ≤ w.toInt) (hw : w1.toInt = w.toInt + 1) :
    RA f1 t w1 (fun j => if j = w1.toNatClampNeg then o else Z j) O := by
  have e43 := (fx_at g e).2.2.2
  simp only at e43
  obtain ⟨x, x1, x2, x3, x4⟩ := ref_of g.2.2.2.1 ht hk (by decide) (j := 27) rfl
  have hxy : x ≠ a := fun q => by rw [q] at x4; omega
  have hty : t ≠ a := fun q => by rw [q] at hk; omega
  have r1 : rf f1 t 27 = x := rf_eq (by rw [u.fV hty]; exact x1)
  have r2 : rf f1 t 43 = a := rf_eq (by rw [u.fV hty]; exact e43)
  refine ⟨fun j hj => ?_, fun j => ?_⟩
  · rw [r2, u.2]
    by_cases hj1 : j = w1.toNatClampNeg
    · simp only [if_pos hj1]
    · simp only [if_neg hj1]
      have h2 := h.1 j (by
        have := tnZ h0
        have := tnZ (i := w1) (by omega)
        omega)
      rw [rf_eq e43] at h2
      exact h2
  · rw [r1, u.aI hxy]
    have h2 := h.2 j
    rw [rf_eq x1] at h2
    exact h2
theorem RA.pop {w w1 o : Int32} {Z O : Nat → Int32} (h : RA f t w1 (fun j => if j = w1.toNatClampNeg then o else Z j) O) (h0 : 0 ≤ w.toInt) (hw : w1.toInt = w.toInt + 1) : RA f t w Z O := by
  refine ⟨fun j hj => ?_, h.2⟩
  have h1 := tnZ h0
  have h2 := tnZ (i := w1) (by omega)
  have h3 := h.1 j (by omega)
  simp only [if_neg (show ¬ j = w1.toNatClampNeg by omega)] at h3
  exact h3
theorem rem_blk {a b c lo hi : Int} {x y z : Int32} (e0 : z = x - x / y * y) (hx : bd a b x) (hy : bd c c y) (h : 0 ≤ a ∧ 0 < c ∧ a / c = b / c ∧ lo = a % c ∧ hi = b % c) : bd lo hi z := by
  obtain ⟨h1, h2⟩ := hx
  obtain ⟨h3, h4⟩ := hy
  obtain ⟨g1, g2, g3, g4, g5⟩ := h
  have hy' : y.toInt = c := by omega
  have e1 : z.toInt = x.toInt % c := by
    have q1 := rem_ti (show bd a b x from ⟨h1, h2⟩) (show bd c c y from ⟨h3, h4⟩) (by omega)
    rw [← e0, hy', Int.tmod_eq_emod_of_nonneg (by omega)] at q1
    exact q1
  have d1 : a / c ≤ x.toInt / c := Int.ediv_le_ediv g2 h1
  have d2 : x.toInt / c ≤ b / c := Int.ediv_le_ediv g2 h2
  have d3 : x.toInt / c = a / c := by omega
  have m1 := Int.emod_add_mul_ediv x.toInt c
  have m2 := Int.emod_add_mul_ediv a c
  have m3 := Int.emod_add_mul_ediv b c
  rw [d3] at m1
  rw [← g3] at m3
  unfold bd
  rw [e1, g4, g5]
  constructor <;> omega
end PVF
/-- the row of calls -/
abbrev RW : Type := (Nat → Int32) × (Nat → Int32) × (Nat → Int32) × (Nat → Int32)
def RW.o (R : RW) : Nat → Int32 := R.1
def RW.m (R : RW) : Nat → Int32 := R.2.1
def RW.a (R : RW) : Nat → Int32 := R.2.2.1
def RW.c (R : RW) : Nat → Int32 := R.2.2.2
theorem RW.o_mk {o m a c : Nat → Int32} : RW.o (o, m, a, c) = o := rfl
theorem RW.m_mk {o m a c : Nat → Int32} : RW.m (o, m, a, c) = m := rfl
theorem RW.a_mk {o m a c : Nat → Int32} : RW.a (o, m, a, c) = a := rfl
theorem RW.c_mk {o m a c : Nat → Int32} : RW.c (o, m, a, c) = c := rfl
/-- how many of the first i make an object -/
def cnt (R : RW) : Nat → Nat
  | 0 => 0
  | i + 1 => cnt R i + (if (R.m i).toInt = -1 then 1 else 0)
theorem cnt_le (R : RW) {i j : Nat} (h : i ≤ j) : cnt R i ≤ cnt R j := by
  induction h with
  | refl => exact Nat.le_refl _
  | step _ ih => exact Nat.le_trans ih (Nat.le_add_right _ _)
def rowOK (V : PV) (R : RW) (i : Nat) : Prop :=
  ((R.m i).toInt = -1 ∧ (R.o i).toInt = cnt R i ∧ R.a (3 * i) = R.c (cnt R i) ∧ okc V (R.a (3 * i)) ∧ R.a (3 * i + 1) = 0 ∧ R.a (3 * i + 2) = 0) ∨
  (0 ≤ (R.m i).toInt ∧ 0 ≤ (R.o i).toInt ∧ (R.o i).toInt < cnt R i ∧ (R.m i).toInt < (V.i 15 (R.c (R.o i).toNatClampNeg).toNatClampNeg).toInt)
def rwOK (V : PV) (R : RW) (n k : Int32) : Prop := (∀ i : Nat, (i : Int) < n.toInt → rowOK V R i) ∧ (cnt R n.toNatClampNeg : Int) = k.toInt
/-- the objects of the first n numbers have classes; so have those beside, or none -/
def objOK (V : PV) (O : Nat → Int32) (n : Int32) : Prop := ∀ j : Nat, (j : Int) < n.toInt → okc V (O j) ∧ ((O (j + 3)).toInt = -1 ∨ okc V (O (j + 3)))
/-- behind the first i calls -/
def rnOK (V : PV) (R : RW) (O : Nat → Int32) (i n : Int32) : Prop := n.toInt = cnt R i.toNatClampNeg ∧ objOK V O n ∧ ∀ j : Nat, (j : Int) < n.toInt → O j = R.c j
theorem objOK.at {V : PV} {O : Nat → Int32} {n o : Int32} (h : objOK V O n) (h0 : 0 ≤ o.toInt) (h1 : o.toInt < n.toInt) : okc V (O o.toNatClampNeg) := (h o.toNatClampNeg (by rw [tnZ h0]; exact h1)).1
theorem objOK.bes {V : PV} {O : Nat → Int32} {n o j : Int32} (h : objOK V O n) (h0 : 0 ≤ o.toInt) (h1 : o.toInt < n.toInt) (hj : j.toInt = 3 + o.toInt) : (O j.toNatClampNeg).toInt = -1 ∨ okc V (O j.toNatClampNeg) := by
  have e1 := tnZ h0
  have e2 := tnZ (i := j) (by omega)
  have h2 := (h o.toNatClampNeg (by omega)).2
  rw [show j.toNatClampNeg = o.toNatClampNeg + 3 by omega]
  exact h2
theorem objOK.zero {V : PV} {O : Nat → Int32} : objOK V O 0 := fun j hj => by
  have : (0 : Int32).toInt = 0 := by decide
  omega
theorem rnOK.zero {V : PV} {R : RW} {O : Nat → Int32} : rnOK V R O 0 0 := by
  have h0 : (0 : Int32).toInt = 0 := by decide
  have h1 : (0 : Int32).toNatClampNeg = 0 := by decide
  refine ⟨by rw [h0, h1]; rfl, objOK.zero, fun j hj => by omega⟩
/-- the o-th object is made: of class c, beside it b or none -/
def mkO (V : PV) (O O1 : Nat → Int32) (n c : Int32) : Prop := (∀ j : Nat, j ≠ n.toNatClampNeg → j ≠ n.toNatClampNeg + 3 → O1 j = O j) ∧ O1 n.toNatClampNeg = c ∧ ((O1 (n.toNatClampNeg + 3)).toInt = -1 ∨ okc V (O1 (n.toNatClampNeg + 3)))
theorem rn_make {V : PV} {R : RW} {O O1 : Nat → Int32} {i i1 n n1 rw k c : Int32} (h : rnOK V R O i n) (hr : rwOK V R rw k) (h0 : 0 ≤ i.toInt) (hi : i.toInt < rw.toInt) (hm : (R.m i.toNatClampNeg).toInt = -1) (h1 : i1.toInt = i.toInt + 1) (hn : n1.toInt = n.toInt + 1) (h3 : n.toInt ≤ 2) (hc : c = R.a (3 * i.toNatClampNeg)) (hO : mkO V O O1 n c) : rnOK V R O1 i1 n1 := by
  obtain ⟨a1, a2, a3⟩ := h
  have e0 := tnZ h0
  have e1 := tnZ (i := i1) (by omega)
  have en := tnZ (i := n) (by omega)
  have hs : i1.toNatClampNeg = i.toNatClampNeg + 1 := by omega
  have hcnt : cnt R i1.toNatClampNeg = cnt R i.toNatClampNeg + 1 := by rw [hs]; simp only [cnt, if_pos hm]
  have hrow := hr.1 i.toNatClampNeg (by omega)
  obtain ⟨m1, m2, m3⟩ := hO
  have hnn : n.toNatClampNeg = cnt R i.toNatClampNeg := by omega
  obtain ⟨r1, r2, r3, r4, -⟩ := hrow.resolve_right (fun h9 => by have := h9.1; omega)
  refine ⟨by rw [hcnt]; omega, fun j hj => ?_, fun j hj => ?_⟩
  · by_cases hjn : j = n.toNatClampNeg
    · subst hjn
      rw [m2, hc]
      exact ⟨r4, m3⟩
    · rw [m1 j hjn (by omega), m1 (j + 3) (by omega) (by omega)]
      exact a2 j (by omega)
  · by_cases hjn : j = n.toNatClampNeg
    · subst hjn
      rw [m2, hc, r3, hnn]
    · rw [m1 j hjn (by omega)]
      exact a3 j (by omega)
theorem rn_max {V : PV} {R : RW} {O : Nat → Int32} {i n rw k : Int32} (h : rnOK V R O i n) (hr : rwOK V R rw k) (h0 : 0 ≤ i.toInt) (hi : i.toInt < rw.toInt) (hm : (R.m i.toNatClampNeg).toInt = -1) (hk : k.toInt ≤ 3) : n.toInt ≤ 2 := by
  have e0 := tnZ h0
  have e1 := tnZ (i := rw) (by omega)
  have h1 : cnt R (i.toNatClampNeg + 1) ≤ cnt R rw.toNatClampNeg := cnt_le R (by omega)
  have hcnt : cnt R (i.toNatClampNeg + 1) = cnt R i.toNatClampNeg + 1 := by simp only [cnt, if_pos hm]
  have := h.1
  have := hr.2
  omega
theorem rn_cls {V : PV} {R : RW} {i rw k : Int32} (hr : rwOK V R rw k) (h0 : 0 ≤ i.toInt) (hi : i.toInt < rw.toInt) (hm : (R.m i.toNatClampNeg).toInt = -1) : okc V (R.a (3 * i.toNatClampNeg)) := by
  rcases hr.1 i.toNatClampNeg (by rw [tnZ h0]; exact hi) with ⟨-, -, -, r4, -⟩ | ⟨r1, -⟩
  · exact r4
  · omega
/-- what a call of the row asks of object and member -/
def doOK (V : PV) (R : RW) (O : Nat → Int32) (i n : Int32) : Prop := (R.o i.toNatClampNeg).toInt < n.toInt ∧ 0 ≤ (R.m i.toNatClampNeg).toInt ∧ (R.m i.toNatClampNeg).toInt < (V.i 15 (O (R.o i.toNatClampNeg).toNatClampNeg).toNatClampNeg).toInt
theorem rn_do {V : PV} {R : RW} {O : Nat → Int32} {i n rw k : Int32} (h : rnOK V R O i n) (hr : rwOK V R rw k) (h0 : 0 ≤ i.toInt) (hi : i.toInt < rw.toInt) (hm : ¬ (R.m i.toNatClampNeg).toInt = -1) : doOK V R O i n := by
  obtain ⟨a1, a2, a3⟩ := h
  rcases hr.1 i.toNatClampNeg (by rw [tnZ h0]; exact hi) with ⟨r1, -⟩ | ⟨r1, r2, r3, r4⟩
  · exact absurd r1 hm
  · refine ⟨by omega, r1, ?_⟩
    rw [a3 _ (by rw [tnZ r2]; omega)]
    exact r4
theorem rn_next {V : PV} {R : RW} {O : Nat → Int32} {i i1 n : Int32} (h : rnOK V R O i n) (h0 : 0 ≤ i.toInt) (hm : ¬ (R.m i.toNatClampNeg).toInt = -1) (h1 : i1.toInt = i.toInt + 1) : rnOK V R O i1 n := by
  have e0 := tnZ h0
  have e1 := tnZ (i := i1) (by omega)
  refine ⟨?_, h.2⟩
  rw [show i1.toNatClampNeg = i.toNatClampNeg + 1 by omega]
  simp only [cnt, if_neg hm]
  exact h.1
theorem do_mem {V : PV} {δ : Nat → Nat} {R : RW} {O : Nat → Int32} {i n o c mm j r : Int32} (hW : wfP V δ) (hd : doOK V R O i n) (ho : objOK V O n) (e1 : o = R.o i.toNatClampNeg) (h0 : 0 ≤ o.toInt) (e2 : c = O o.toNatClampNeg) (e3 : mm = R.m i.toNatClampNeg) (hj : j.toInt = 12 * c.toInt + mm.toInt) (hr : r = V.i 14 j.toNatClampNeg) :
    ((r.toNatClampNeg : Nat) : Int) < (V.n 27).toInt ∧ cAt V (O o.toNatClampNeg) (V.i 18 r.toNatClampNeg).toNatClampNeg := by
  obtain ⟨d1, d2, d3⟩ := hd
  rw [← e1] at d1 d3
  rw [← e3] at d2 d3
  rw [← e2] at d3 ⊢
  have hc : okc V c := by rw [e2]; exact ho.at h0 d1
  have q1 := tnZ hc.1
  have q2 := tnZ d2
  have q3 := tnZ (i := j) (by have := hc.1; omega)
  have h := fnd_m hW (c := c.toNatClampNeg) (k := mm.toNatClampNeg) (x := r) (by rw [q1]; exact hc.2) (by rw [q2]; exact d3) (by rw [hr]; congr 1; omega)
  exact ⟨h.1, hc.1, hc.2, h.2⟩
theorem do_ix {V : PV} {R : RW} {O : Nat → Int32} {i n o c : Int32} (hd : doOK V R O i n) (ho : objOK V O n) (e1 : o = R.o i.toNatClampNeg) (h0 : 0 ≤ o.toInt) (e2 : c = O o.toNatClampNeg) : okc V c := by
  rw [e2]
  exact ho.at h0 (by rw [e1]; exact hd.1)
theorem tri3 {i y : Int32} (h : y.toInt = 3 * i.toInt) (h0 : 0 ≤ i.toInt) : y.toNatClampNeg = 3 * i.toNatClampNeg := by
  have e1 := tnZ h0
  have e2 := tnZ (i := y) (by omega)
  omega
theorem mk_here {V : PV} {O : Nat → Int32} {n c b k : Int32} (h : okc V c) (h0 : 0 ≤ n.toInt) (hk : k.toInt = 3 + n.toInt) : okc V ((fun j => if j = k.toNatClampNeg then b else (fun j => if j = n.toNatClampNeg then c else O j) j) n.toNatClampNeg) := by
  have e1 := tnZ h0
  have e2 := tnZ (i := k) (by omega)
  simp only [if_neg (show ¬ n.toNatClampNeg = k.toNatClampNeg by omega), if_true]
  exact h
section PVG
variable {p : Program} {l : Launch} {e : Env} {R : Room} {s : State} {m : MethodId} {args : Array Value} {below : List Frame} {meth : Method} {c : Code} {H : Heap} {locs : List Loc} {cells slots : Nat} {Q : State → Prop} {D : va_G} {tys : List (ClassId × FieldType)} {L : List Nat} {kd : Nat → Nat} {f0 f f1 : Nat → va_E} {md : List (Nat × Nat)} {ma : List Nat} {fx : List Fct} {a q t : Nat} {V : PV} {δ : Nat → Nat}
/-- an array of t's stays -/
theorem arr_fr (hM : Md L kd md ma f f1) (hW : WT L kd tys f) (hq : t ∈ L) {ci : Nat} (hk : kd t = ci) (hci : ci < 100) {j K : Nat} (ht : (FS ci)[j]? = some ((2, (K : Int), (K : Int)) : rS)) (h1 : (ci, j) ∉ md) (hK : 100 ≤ K) (h2 : K ∉ ma) (k : Nat) : aI f1 (rf f1 t j) k = aI f (rf f t j) k := by
  obtain ⟨b, b1, b2, b3, b4⟩ := ref_of hW hq hk hci ht
  have hm : fV f1 t j = fV f t j := (hM t hq).1 j (by rw [hk]; exact hci) (by rw [hk]; exact h1)
  have hkb : kd b = K := by omega
  have e1 : f1 b = f b := (hM b b2).2.1 (by omega) (by rw [hkb]; exact h2)
  rw [rf_eq b1, rf_eq (hm.trans b1)]
  unfold aI
  rw [e1]
def isW (f : Nat → va_E) (t : Nat) (R : RW) : Prop := (∀ j, aI f (rf f t 46) j = R.o j) ∧ (∀ j, aI f (rf f t 47) j = R.m j) ∧ (∀ j, aI f (rf f t 48) j = R.a j) ∧ ∀ j, aI f (rf f t 54) j = R.c j
theorem not_all {α : Type} [BEq α] [LawfulBEq α] {l : List α} {x : α} (h : (l.all fun y => y != x) = true) : x ∉ l := fun hc => by
  have := List.all_eq_true.mp h _ hc
  simp at this
def wMd (md : List (Nat × Nat)) : Bool := (md.all fun y => y != (14, 46)) && (md.all fun y => y != (14, 47)) && (md.all fun y => y != (14, 48)) && (md.all fun y => y != (14, 54))
def wMa (ma : List Nat) : Bool := (ma.all fun y => y != 222) && (ma.all fun y => y != 223) && (ma.all fun y => y != 224) && (ma.all fun y => y != 227)
theorem isW.frame {R : RW} (hM : Md L kd md ma f f1) (hW : WT L kd tys f) (hq : t ∈ L) (hk : kd t = 14) (h1 : wMd md = true) (h2 : wMa ma = true) (h : isW f t R) : isW f1 t R := by
  unfold wMd at h1
  unfold wMa at h2
  simp only [Bool.and_eq_true] at h1 h2
  obtain ⟨⟨⟨d1, d2⟩, d3⟩, d4⟩ := h1
  obtain ⟨⟨⟨a1, a2⟩, a3⟩, a4⟩ := h2
  obtain ⟨w1, w2, w3, w4⟩ := h
  refine ⟨fun j => ?_, fun j => ?_, fun j => ?_, fun j => ?_⟩
  · rw [arr_fr hM hW hq hk (by decide) (K := 222) rfl (not_all d1) (by decide) (not_all a1)]; exact w1 j
  · rw [arr_fr hM hW hq hk (by decide) (K := 223) rfl (not_all d2) (by decide) (not_all a2)]; exact w2 j
  · rw [arr_fr hM hW hq hk (by decide) (K := 224) rfl (not_all d3) (by decide) (not_all a3)]; exact w3 j
  · rw [arr_fr hM hW hq hk (by decide) (K := 227) rfl (not_all d4) (by decide) (not_all a4)]; exact w4 j
theorem isW.at46 {R : RW} (h : isW f t R) (g : G3 D L kd tys s f0 md ma f H locs fx) (k0 : Nat) (e : fx[k0]? = some (14, 46, t, .ref a)) {x : Int32} {i : Nat} (hc : x = aI f a i) : x = R.o i := by
  rw [← h.1 i, rf_eq (fx_at g e).2.2.2]; exact hc
theorem isW.at47 {R : RW} (h : isW f t R) (g : G3 D L kd tys s f0 md ma f H locs fx) (k0 : Nat) (e : fx[k0]? = some (14, 47, t, .ref a)) {x : Int32} {i : Nat} (hc : x = aI f a i) : x = R.m i := by
  rw [← h.2.1 i, rf_eq (fx_at g e).2.2.2]; exact hc
theorem isW.at48 {R : RW} (h : isW f t R) (g : G3 D L kd tys s f0 md ma f H locs fx) (k0 : Nat) (e : fx[k0]? = some (14, 48, t, .ref a)) {x : Int32} {i : Nat} (hc : x = aI f a i) : x = R.a i := by
  rw [← h.2.2.1 i, rf_eq (fx_at g e).2.2.2]; exact hc
theorem isW.at54 {R : RW} (h : isW f t R) (g : G3 D L kd tys s f0 md ma f H locs fx) (k0 : Nat) (e : fx[k0]? = some (14, 54, t, .ref a)) {x : Int32} {i : Nat} (hc : x = aI f a i) : x = R.c i := by
  rw [← h.2.2.2 i, rf_eq (fx_at g e).2.2.2]; exact hc
/-- the models are classes -/
def mOK (f : Nat → va_E) (q : Nat) (V : PV) : Prop := ∀ j : Nat, (j : Int) < (V.n 0).toInt → (aI f (rf f q 59) j).toInt = -1 ∨ okc V (aI f (rf f q 59) j)
theorem mOK.frame (hM : Md L kd md ma f f1) (hW : WT L kd tys f) (hq : q ∈ L) (hk : kd q = 12) (h1 : (md.all fun y => y != (12, 59)) = true) (h2 : (ma.all fun y => y != 211) = true) (h : mOK f q V) : mOK f1 q V := fun j hj => by
  rw [arr_fr hM hW hq hk (by decide) (K := 211) rfl (not_all h1) (by decide) (not_all h2)]
  exact h j hj
theorem mOK.at (h : mOK f q V) (g : G3 D L kd tys s f0 md ma f H locs fx) (k0 : Nat) (e : fx[k0]? = some (12, 59, q, .ref a)) {x c : Int32} (hx : x = aI f a c.toNatClampNeg) (hc : okc V c) : x.toInt = -1 ∨ okc V x := by
  have h1 := h c.toNatClampNeg (by rw [tnZ hc.1]; exact hc.2)
  rw [rf_eq (fx_at g e).2.2.2, ← hx] at h1
  exact h1
theorem OA.put {o x : Int32} {O : Nat → Int32} (h : OA f t O) (g : G3 D L kd tys s f0 md ma f H locs fx) (k0 : Nat) (e : fx[k0]? = some (14, 27, t, .ref a)) (ht : kd t = 14) (ha : kd a = 215) (u : uA f f1 a o.toNatClampNeg x) : OA f1 t (fun j => if j = o.toNatClampNeg then x else O j) := by
  have e27 := (fx_at g e).2.2.2
  simp only at e27
  have hty : t ≠ a := fun q => by rw [q] at ht; omega
  have r2 : rf f1 t 27 = a := rf_eq (by rw [u.fV hty]; exact e27)
  intro j
  rw [r2, u.2]
  have h2 := h j
  rw [rf_eq e27] at h2
  rw [h2]
theorem mk_of {O : Nat → Int32} {n c b k : Int32} (hb : b.toInt = -1 ∨ okc V b) (h0 : 0 ≤ n.toInt) (hk : k.toInt = 3 + n.toInt) : mkO V O (fun j => if j = k.toNatClampNeg then b else (fun j => if j = n.toNatClampNeg then c else O j) j) n c := by
  have e1 := tnZ h0
  have e2 := tnZ (i := k) (by omega)
  have e3 : k.toNatClampNeg = n.toNatClampNeg + 3 := by omega
  refine ⟨fun j h1 h2 => ?_, ?_, ?_⟩
  · simp only [e3, if_neg h2, if_neg h1]
  · simp only [e3, if_neg (show ¬ n.toNatClampNeg = n.toNatClampNeg + 3 by omega), if_true]
  · simp only [e3, if_true]
    exact hb
/-- every object made has a class -/
def oOK (f : Nat → va_E) (t : Nat) (V : PV) : Prop := ∀ n : Int32, fV f t 30 = .int n → objOK V (fun j => aI f (rf f t 27) j) n
theorem oOK.of {O : Nat → Int32} {n : Int32} (h : OA f t O) (g : G3 D L kd tys s f0 md ma f H locs fx) (k0 : Nat) (e : fx[k0]? = some (14, 30, t, .int n)) (ho : objOK V O n) : oOK f t V := fun n' hn => by
  have e1 := (fx_at g e).2.2.2
  simp only at e1
  rw [hn] at e1
  cases e1
  intro j hj
  have h1 := ho j hj
  rw [← h j, ← h (j + 3)] at h1
  exact h1
theorem oOK.frame (hM : Md L kd md ma f f1) (hW : WT L kd tys f) (hq : t ∈ L) (hk : kd t = 14) (h1 : ((md.all fun y => y != (14, 27)) && (md.all fun y => y != (14, 30))) = true) (h2 : (ma.all fun y => y != 215) = true) (h : oOK f t V) : oOK f1 t V := fun n hn => by
  simp only [Bool.and_eq_true] at h1
  have hm : fV f1 t 30 = fV f t 30 := (hM t hq).1 30 (by rw [hk]; decide) (by rw [hk]; exact not_all h1.2)
  rw [hm] at hn
  intro j hj
  have h3 := h n hn j hj
  have e1 := arr_fr hM hW hq hk (by decide) (K := 215) rfl (not_all h1.1) (by decide) (not_all h2)
  simp only [e1]
  exact h3
end PVG
def RW.uo (R : RW) (i : Nat) (x : Int32) : RW := (fun j => if j = i then x else R.o j, R.m, R.a, R.c)
def RW.um (R : RW) (i : Nat) (x : Int32) : RW := (R.o, fun j => if j = i then x else R.m j, R.a, R.c)
def RW.ua (R : RW) (i : Nat) (x : Int32) : RW := (R.o, R.m, fun j => if j = i then x else R.a j, R.c)
def RW.uc (R : RW) (i : Nat) (x : Int32) : RW := (R.o, R.m, R.a, fun j => if j = i then x else R.c j)
/-- the first r calls and k objects are the same -/
def pfx (R R1 : RW) (r k : Int32) : Prop := (∀ i : Nat, (i : Int) < r.toInt → R1.o i = R.o i ∧ R1.m i = R.m i) ∧ (∀ j : Nat, (j : Int) < 3 * r.toInt → R1.a j = R.a j) ∧ ∀ j : Nat, (j : Int) < k.toInt → R1.c j = R.c j
theorem pfx.rf {R : RW} {r k : Int32} : pfx R R r k := ⟨fun _ _ => ⟨rfl, rfl⟩, fun _ _ => rfl, fun _ _ => rfl⟩
theorem pfx.tr {R R1 R2 : RW} {r k r1 k1 : Int32} (h : pfx R R1 r k) (h1 : pfx R1 R2 r1 k1) (hr : r.toInt ≤ r1.toInt) (hk : k.toInt ≤ k1.toInt) : pfx R R2 r k := by
  refine ⟨fun i hi => ?_, fun j hj => ?_, fun j hj => ?_⟩
  · obtain ⟨a1, a2⟩ := h.1 i hi
    obtain ⟨b1, b2⟩ := h1.1 i (by omega)
    exact ⟨b1.trans a1, b2.trans a2⟩
  · exact (h1.2.1 j (by omega)).trans (h.2.1 j hj)
  · exact (h1.2.2 j (by omega)).trans (h.2.2 j hj)
theorem cnt_pfx {R R1 : RW} {n : Nat} (h : ∀ i : Nat, i < n → R1.m i = R.m i) : cnt R1 n = cnt R n := by
  induction n with
  | zero => rfl
  | succ n ih => simp only [cnt]; rw [ih (fun i hi => h i (by omega)), h n (by omega)]
theorem rwOK.lt {V : PV} {R : RW} {r k : Int32} (h : rwOK V R r k) {i : Nat} (hi : (i : Int) < r.toInt) (hm : (R.m i).toInt = -1) : (cnt R i : Int) < k.toInt := by
  have e := tnZ (i := r) (by omega)
  have h1 : cnt R (i + 1) ≤ cnt R r.toNatClampNeg := cnt_le R (by omega)
  have h2 : cnt R (i + 1) = cnt R i + 1 := by simp only [cnt, if_pos hm]
  have := h.2
  omega
theorem rwOK.le {V : PV} {R : RW} {r k : Int32} (h : rwOK V R r k) {i : Nat} (hi : (i : Int) ≤ r.toInt) : (cnt R i : Int) ≤ k.toInt := by
  have e := tnZ (i := r) (by omega)
  have h1 : cnt R i ≤ cnt R r.toNatClampNeg := cnt_le R (by omega)
  have := h.2
  omega
theorem rwOK.keep {V : PV} {R R1 : RW} {r k : Int32} (h0 : 0 ≤ r.toInt) (h : rwOK V R r k) (hp : pfx R R1 r k) : rwOK V R1 r k := by
  have e := tnZ h0
  have hc : ∀ i : Nat, (i : Int) ≤ r.toInt → cnt R1 i = cnt R i := fun i hi => cnt_pfx (fun j hj => (hp.1 j (by omega)).2)
  refine ⟨fun i hi => ?_, by rw [hc _ (by omega)]; exact h.2⟩
  obtain ⟨p1, p2⟩ := hp.1 i hi
  unfold rowOK
  rw [hc i (by omega), p1, p2, hp.2.1 (3 * i) (by omega), hp.2.1 (3 * i + 1) (by omega), hp.2.1 (3 * i + 2) (by omega)]
  rcases h.1 i hi with ⟨a1, a2, a3, a4⟩ | ⟨a1, a2, a3, a4⟩
  · refine Or.inl ⟨a1, a2, ?_, a4⟩
    rw [hp.2.2 _ (h.lt hi a1)]
    exact a3
  · refine Or.inr ⟨a1, a2, a3, ?_⟩
    rw [hp.2.2 _ (by rw [tnZ a2]; have := h.le (i := i) (by omega); omega)]
    exact a4
def adOK (V : PV) (R R1 : RW) (r k : Int32) (dk : Int) : Prop := (∀ r1 k1 : Int32, r1.toInt = r.toInt + 1 → k1.toInt = k.toInt + dk → rwOK V R1 r1 k1) ∧ pfx R R1 r k
def RW.adM (R : RW) (r k c : Int32) : RW := (fun j => if j = r.toNatClampNeg then k else R.o j, fun j => if j = r.toNatClampNeg then -1 else R.m j, fun j => if j = 3 * r.toNatClampNeg then c else if j = 3 * r.toNatClampNeg + 1 then 0 else if j = 3 * r.toNatClampNeg + 2 then 0 else R.a j, fun j => if j = k.toNatClampNeg then c else R.c j)
def RW.adC (R : RW) (r o m a b d : Int32) : RW := (fun j => if j = r.toNatClampNeg then o else R.o j, fun j => if j = r.toNatClampNeg then m else R.m j, fun j => if j = 3 * r.toNatClampNeg then a else if j = 3 * r.toNatClampNeg + 1 then b else if j = 3 * r.toNatClampNeg + 2 then d else R.a j, R.c)
theorem m1i : (-1 : Int32).toInt = -1 := by decide
theorem adM_ok {V : PV} {R : RW} {r k c : Int32} (h : rwOK V R r k) (h0 : 0 ≤ r.toInt) (hk0 : 0 ≤ k.toInt) (hc : okc V c) : adOK V R (R.adM r k c) r k 1 := by
  have t0 := tnZ h0
  have tk := tnZ hk0
  have hp : pfx R (R.adM r k c) r k := by
    refine ⟨fun i hi => ?_, fun j hj => ?_, fun j hj => ?_⟩
    · simp only [RW.o_mk, RW.m_mk, RW.a_mk, RW.c_mk, RW.adM]
      rw [if_neg (by omega), if_neg (by omega)]
      exact ⟨rfl, rfl⟩
    · simp only [RW.o_mk, RW.m_mk, RW.a_mk, RW.c_mk, RW.adM]
      rw [if_neg (by omega), if_neg (by omega), if_neg (by omega)]
    · simp only [RW.o_mk, RW.m_mk, RW.a_mk, RW.c_mk, RW.adM]
      rw [if_neg (by omega)]
  refine ⟨fun r1 k1 hr1 hk1 => ?_, hp⟩
  have hB := h.keep h0 hp
  generalize hR1 : R.adM r k c = R1 at hB hp
  have qm : R1.m r.toNatClampNeg = -1 := by rw [← hR1]; simp only [RW.o_mk, RW.m_mk, RW.a_mk, RW.c_mk, RW.adM, if_true]
  have qo : R1.o r.toNatClampNeg = k := by rw [← hR1]; simp only [RW.o_mk, RW.m_mk, RW.a_mk, RW.c_mk, RW.adM, if_true]
  have qa : R1.a (3 * r.toNatClampNeg) = c := by rw [← hR1]; simp only [RW.o_mk, RW.m_mk, RW.a_mk, RW.c_mk, RW.adM, if_true]
  have qb : R1.a (3 * r.toNatClampNeg + 1) = 0 := by
    rw [← hR1]
    simp only [RW.o_mk, RW.m_mk, RW.a_mk, RW.c_mk, RW.adM, if_neg (show ¬ 3 * r.toNatClampNeg + 1 = 3 * r.toNatClampNeg by omega), if_true]
  have qd : R1.a (3 * r.toNatClampNeg + 2) = 0 := by
    rw [← hR1]
    simp only [RW.o_mk, RW.m_mk, RW.a_mk, RW.c_mk, RW.adM, if_neg (show ¬ 3 * r.toNatClampNeg + 2 = 3 * r.toNatClampNeg by omega), if_neg (show ¬ 3 * r.toNatClampNeg + 2 = 3 * r.toNatClampNeg + 1 by omega), if_true]
  have qc : R1.c k.toNatClampNeg = c := by rw [← hR1]; simp only [RW.o_mk, RW.m_mk, RW.a_mk, RW.c_mk, RW.adM, if_true]
  have er : r1.toNatClampNeg = r.toNatClampNeg + 1 := by have := tnZ (i := r1) (by omega); omega
  have hcnt : cnt R1 r.toNatClampNeg = k.toNatClampNeg := by have := hB.2; omega
  refine ⟨fun i hi => ?_, ?_⟩
  · by_cases hir : (i : Int) < r.toInt
    · exact hB.1 i hir
    · have : i = r.toNatClampNeg := by omega
      subst this
      refine Or.inl ⟨by rw [qm]; exact m1i, by rw [qo, hcnt]; omega, by rw [qa, hcnt, qc], by rw [qa]; exact hc, qb, qd⟩
  · rw [er]
    simp only [cnt]
    rw [if_pos (by rw [qm]; exact m1i), hcnt]
    omega
theorem adC_ok {V : PV} {R : RW} {r k o m a b d : Int32} (h : rwOK V R r k) (h0 : 0 ≤ r.toInt) (ho : 0 ≤ o.toInt ∧ o.toInt < k.toInt) (hm : 0 ≤ m.toInt ∧ m.toInt < (V.i 15 (R.c o.toNatClampNeg).toNatClampNeg).toInt) : adOK V R (R.adC r o m a b d) r k 0 := by
  have t0 := tnZ h0
  have hp : pfx R (R.adC r o m a b d) r k := by
    refine ⟨fun i hi => ?_, fun j hj => ?_, fun j hj => rfl⟩
    · simp only [RW.o_mk, RW.m_mk, RW.a_mk, RW.c_mk, RW.adC]
      rw [if_neg (by omega), if_neg (by omega)]
      exact ⟨rfl, rfl⟩
    · simp only [RW.o_mk, RW.m_mk, RW.a_mk, RW.c_mk, RW.adC]
      rw [if_neg (by omega), if_neg (by omega), if_neg (by omega)]
  refine ⟨fun r1 k1 hr1 hk1 => ?_, hp⟩
  have hB := h.keep h0 hp
  have qc : ∀ j, (R.adC r o m a b d).c j = R.c j := fun j => rfl
  generalize hR1 : R.adC r o m a b d = R1 at hB hp qc
  have qm : R1.m r.toNatClampNeg = m := by rw [← hR1]; simp only [RW.o_mk, RW.m_mk, RW.a_mk, RW.c_mk, RW.adC, if_true]
  have qo : R1.o r.toNatClampNeg = o := by rw [← hR1]; simp only [RW.o_mk, RW.m_mk, RW.a_mk, RW.c_mk, RW.adC, if_true]
  have er : r1.toNatClampNeg = r.toNatClampNeg + 1 := by have := tnZ (i := r1) (by omega); omega
  refine ⟨fun i hi => ?_, ?_⟩
  · by_cases hir : (i : Int) < r.toInt
    · exact hB.1 i hir
    · have : i = r.toNatClampNeg := by omega
      subst this
      refine Or.inr ⟨by rw [qm]; exact hm.1, by rw [qo]; exact ho.1, by rw [qo, hB.2]; exact ho.2, ?_⟩
      rw [qm, qo, qc]
      exact hm.2
  · rw [er]
    simp only [cnt]
    rw [if_neg (by rw [qm]; omega)]
    have := hB.2
    omega
theorem rwOK.zero {V : PV} {R : RW} : rwOK V R 0 0 := by
  have h0 : (0 : Int32).toInt = 0 := by decide
  have h1 : (0 : Int32).toNatClampNeg = 0 := by decide
  exact ⟨fun i hi => by omega, by rw [h1, h0]; rfl⟩
/-- the objects of the row are of class c -/
def allC (R : RW) (k c : Int32) : Prop := ∀ j : Nat, (j : Int) < k.toInt → R.c j = c
section PVH
variable {p : Program} {l : Launch} {e : Env} {R : Room} {s : State} {m : MethodId} {args : Array Value} {below : List Frame} {meth : Method} {c : Code} {H : Heap} {locs : List Loc} {cells slots : Nat} {Q : State → Prop} {D : va_G} {tys : List (ClassId × FieldType)} {L : List Nat} {kd : Nat → Nat} {f0 f f1 : Nat → va_E} {md : List (Nat × Nat)} {ma : List Nat} {fx : List Fct} {a q t : Nat} {V : PV} {δ : Nat → Nat}
theorem w_refs (g : G3 D L kd tys s f0 md ma f H locs fx) (ht : t ∈ L) (hk : kd t = 14) : (∃ b, fV f t 46 = .ref b ∧ kd b = 222) ∧ (∃ b, fV f t 47 = .ref b ∧ kd b = 223) ∧ (∃ b, fV f t 48 = .ref b ∧ kd b = 224) ∧ ∃ b, fV f t 54 = .ref b ∧ kd b = 227 := by
  obtain ⟨b1, p1, -, q1, r1⟩ := ref_of g.2.2.2.1 ht hk (by decide) (j := 46) rfl
  obtain ⟨b2, p2, -, q2, r2⟩ := ref_of g.2.2.2.1 ht hk (by decide) (j := 47) rfl
  obtain ⟨b3, p3, -, q3, r3⟩ := ref_of g.2.2.2.1 ht hk (by decide) (j := 48) rfl
  obtain ⟨b4, p4, -, q4, r4⟩ := ref_of g.2.2.2.1 ht hk (by decide) (j := 54) rfl
  exact ⟨⟨b1, p1, by omega⟩, ⟨b2, p2, by omega⟩, ⟨b3, p3, by omega⟩, ⟨b4, p4, by omega⟩⟩
theorem uA_oth {b i j0 : Nat} {x : Int32} (u : uA f f1 a i x) (hta : t ≠ a) (hb : fV f t j0 = .ref b) (hne : b ≠ a) (j : Nat) : aI f1 (rf f1 t j0) j = aI f (rf f t j0) j := by
  rw [rf_eq (by rw [u.fV hta]; exact hb), rf_eq hb, u.aI hne]
theorem uA_own {i j0 : Nat} {x : Int32} (u : uA f f1 a i x) (hta : t ≠ a) (hb : fV f t j0 = .ref a) (j : Nat) : aI f1 (rf f1 t j0) j = if j = i then x else aI f (rf f t j0) j := by
  rw [rf_eq (by rw [u.fV hta]; exact hb), rf_eq hb, u.2]
theorem isW.put46 {W : RW} {i : Nat} {x : Int32} (h : isW f t W) (g : G3 D L kd tys s f0 md ma f H locs fx) (k0 : Nat) (e : fx[k0]? = some (14, 46, t, .ref a)) (ht : t ∈ L) (hk : kd t = 14) (ha : kd a = 222) (u : uA f f1 a i x) : isW f1 t (W.uo i x) := by
  obtain ⟨-, ⟨b2, p2, q2⟩, ⟨b3, p3, q3⟩, ⟨b4, p4, q4⟩⟩ := w_refs g ht hk
  have hta : t ≠ a := fun q => by rw [q] at hk; omega
  have hb := (fx_at g e).2.2.2
  simp only at hb
  obtain ⟨w1, w2, w3, w4⟩ := h
  refine ⟨fun j => ?_, fun j => ?_, fun j => ?_, fun j => ?_⟩
  · rw [uA_own u hta hb, w1]; rfl
  · rw [uA_oth u hta p2 (fun q => by rw [q] at q2; omega), w2]; rfl
  · rw [uA_oth u hta p3 (fun q => by rw [q] at q3; omega), w3]; rfl
  · rw [uA_oth u hta p4 (fun q => by rw [q] at q4; omega), w4]; rfl
theorem isW.put47 {W : RW} {i : Nat} {x : Int32} (h : isW f t W) (g : G3 D L kd tys s f0 md ma f H locs fx) (k0 : Nat) (e : fx[k0]? = some (14, 47, t, .ref a)) (ht : t ∈ L) (hk : kd t = 14) (ha : kd a = 223) (u : uA f f1 a i x) : isW f1 t (W.um i x) := by
  obtain ⟨⟨b1, p1, q1⟩, -, ⟨b3, p3, q3⟩, ⟨b4, p4, q4⟩⟩ := w_refs g ht hk
  have hta : t ≠ a := fun q => by rw [q] at hk; omega
  have hb := (fx_at g e).2.2.2
  simp only at hb
  obtain ⟨w1, w2, w3, w4⟩ := h
  refine ⟨fun j => ?_, fun j => ?_, fun j => ?_, fun j => ?_⟩
  · rw [uA_oth u hta p1 (fun q => by rw [q] at q1; omega), w1]; rfl
  · rw [uA_own u hta hb, w2]; rfl
  · rw [uA_oth u hta p3 (fun q => by rw [q] at q3; omega), w3]; rfl
  · rw [uA_oth u hta p4 (fun q => by rw [q] at q4; omega), w4]; rfl
theorem isW.put48 {W : RW} {i : Nat} {x : Int32} (h : isW f t W) (g : G3 D L kd tys s f0 md ma f H locs fx) (k0 : Nat) (e : fx[k0]? = some (14, 48, t, .ref a)) (ht : t ∈ L) (hk : kd t = 14) (ha : kd a = 224) (u : uA f f1 a i x) : isW f1 t (W.ua i x) := by
  obtain ⟨⟨b1, p1, q1⟩, ⟨b2, p2, q2⟩, -, ⟨b4, p4, q4⟩⟩ := w_refs g ht hk
  have hta : t ≠ a := fun q => by rw [q] at hk; omega
  have hb := (fx_at g e).2.2.2
  simp only at hb
  obtain ⟨w1, w2, w3, w4⟩ := h
  refine ⟨fun j => ?_, fun j => ?_, fun j => ?_, fun j => ?_⟩
  · rw [uA_oth u hta p1 (fun q => by rw [q] at q1; omega), w1]; rfl
  · rw [uA_oth u hta p2 (fun q => by rw [q] at q2; omega), w2]; rfl
  · rw [uA_own u hta hb, w3]; rfl
  · rw [uA_oth u hta p4 (fun q => by rw [q] at q4; omega), w4]; rfl
theorem isW.put54 {W : RW} {i : Nat} {x : Int32} (h : isW f t W) (g : G3 D L kd tys s f0 md ma f H locs fx) (k0 : Nat) (e : fx[k0]? = some (14, 54, t, .ref a)) (ht : t ∈ L) (hk : kd t = 14) (ha : kd a = 227) (u : uA f f1 a i x) : isW f1 t (W.uc i x) := by
  obtain ⟨⟨b1, p1, q1⟩, ⟨b2, p2, q2⟩, ⟨b3, p3, q3⟩, -⟩ := w_refs g ht hk
  have hta : t ≠ a := fun q => by rw [q] at hk; omega
  have hb := (fx_at g e).2.2.2
  simp only at hb
  obtain ⟨w1, w2, w3, w4⟩ := h
  refine ⟨fun j => ?_, fun j => ?_, fun j => ?_, fun j => ?_⟩
  · rw [uA_oth u hta p1 (fun q => by rw [q] at q1; omega), w1]; rfl
  · rw [uA_oth u hta p2 (fun q => by rw [q] at q2; omega), w2]; rfl
  · rw [uA_oth u hta p3 (fun q => by rw [q] at q3; omega), w3]; rfl
  · rw [uA_own u hta hb, w4]; rfl
def wOf (f : Nat → va_E) (t : Nat) : RW := (fun j => aI f (rf f t 46) j, fun j => aI f (rf f t 47) j, fun j => aI f (rf f t 48) j, fun j => aI f (rf f t 54) j)
theorem isW.refl : isW f t (wOf f t) := ⟨fun _ => rfl, fun _ => rfl, fun _ => rfl, fun _ => rfl⟩
theorem isW.adM {W : RW} {r k c x z1 z2 y0 y1 y2 : Int32} (h : isW f t ((((((W.uo r.toNatClampNeg k).um r.toNatClampNeg x).ua y0.toNatClampNeg c).ua y1.toNatClampNeg z1).ua y2.toNatClampNeg z2).uc k.toNatClampNeg c)) (h0 : 0 ≤ r.toInt) (hx : x = -1) (h1 : z1 = 0) (h2 : z2 = 0) (e0 : y0.toInt = 3 * r.toInt) (e1 : y1.toInt = 3 * r.toInt + 1) (e2 : y2.toInt = 3 * r.toInt + 2) : isW f t (W.adM r k c) := by
  have t0 := tnZ h0
  have u0 := tnZ (i := y0) (by omega)
  have u1 := tnZ (i := y1) (by omega)
  have u2 := tnZ (i := y2) (by omega)
  have v0 : y0.toNatClampNeg = 3 * r.toNatClampNeg := by omega
  have v1 : y1.toNatClampNeg = 3 * r.toNatClampNeg + 1 := by omega
  have v2 : y2.toNatClampNeg = 3 * r.toNatClampNeg + 2 := by omega
  obtain ⟨w1, w2, w3, w4⟩ := h
  subst hx; subst h1; subst h2
  refine ⟨w1, w2, fun j => ?_, w4⟩
  rw [w3 j]
  simp only [RW.o_mk, RW.m_mk, RW.a_mk, RW.c_mk, RW.uo, RW.um, RW.ua, RW.uc, RW.adM, v0, v1, v2]
  by_cases q0 : j = 3 * r.toNatClampNeg
  · rw [if_neg (by omega), if_neg (by omega), if_pos q0, if_pos q0]
  · by_cases q1 : j = 3 * r.toNatClampNeg + 1
    · rw [if_neg (by omega), if_pos q1, if_neg q0, if_pos q1]
    · by_cases q2 : j = 3 * r.toNatClampNeg + 2
      · rw [if_pos q2, if_neg q0, if_neg q1, if_pos q2]
      · rw [if_neg q2, if_neg q1, if_neg q0, if_neg q0, if_neg q1, if_neg q2]
theorem isW.adC {W : RW} {r o m' a' b' d' y0 y1 y2 : Int32} (h : isW f t (((((W.uo r.toNatClampNeg o).um r.toNatClampNeg m').ua y0.toNatClampNeg a').ua y1.toNatClampNeg b').ua y2.toNatClampNeg d')) (h0 : 0 ≤ r.toInt) (e0 : y0.toInt = 3 * r.toInt) (e1 : y1.toInt = 3 * r.toInt + 1) (e2 : y2.toInt = 3 * r.toInt + 2) : isW f t (W.adC r o m' a' b' d') := by
  have t0 := tnZ h0
  have u0 := tnZ (i := y0) (by omega)
  have u1 := tnZ (i := y1) (by omega)
  have u2 := tnZ (i := y2) (by omega)
  have v0 : y0.toNatClampNeg = 3 * r.toNatClampNeg := by omega
  have v1 : y1.toNatClampNeg = 3 * r.toNatClampNeg + 1 := by omega
  have v2 : y2.toNatClampNeg = 3 * r.toNatClampNeg + 2 := by omega
  obtain ⟨w1, w2, w3, w4⟩ := h
  refine ⟨w1, w2, fun j => ?_, w4⟩
  rw [w3 j]
  simp only [RW.o_mk, RW.m_mk, RW.a_mk, RW.c_mk, RW.uo, RW.um, RW.ua, RW.adC, v0, v1, v2]
  by_cases q0 : j = 3 * r.toNatClampNeg
  · rw [if_neg (by omega), if_neg (by omega), if_pos q0, if_pos q0]
  · by_cases q1 : j = 3 * r.toNatClampNeg + 1
    · rw [if_neg (by omega), if_pos q1, if_neg q0, if_pos q1]
    · by_cases q2 : j = 3 * r.toNatClampNeg + 2
      · rw [if_pos q2, if_neg q0, if_neg q1, if_pos q2]
      · rw [if_neg q2, if_neg q1, if_neg q0, if_neg q0, if_neg q1, if_neg q2]
/-- the row of calls is whole -/
def rOK (f : Nat → va_E) (t : Nat) (V : PV) : Prop := ∃ W : RW, isW f t W ∧ ∀ r k : Int32, fV f t 51 = .int r → fV f t 52 = .int k → rwOK V W r k
theorem rOK.of {W : RW} {r k : Int32} (h : isW f t W) (g : G3 D L kd tys s f0 md ma f H locs fx) (k0 k1 : Nat) (e0 : fx[k0]? = some (14, 51, t, .int r)) (e1 : fx[k1]? = some (14, 52, t, .int k)) (ho : rwOK V W r k) : rOK f t V := ⟨W, h, fun r' k' hr hk => by
  have q0 := (fx_at g e0).2.2.2
  have q1 := (fx_at g e1).2.2.2
  simp only at q0 q1
  rw [hr] at q0
  rw [hk] at q1
  cases q0
  cases q1
  exact ho⟩
theorem rOK.frame (hM : Md L kd md ma f f1) (hW : WT L kd tys f) (hq : t ∈ L) (hk : kd t = 14) (h1 : (wMd md && (md.all fun y => y != (14, 51)) && (md.all fun y => y != (14, 52))) = true) (h2 : wMa ma = true) (h : rOK f t V) : rOK f1 t V := by
  simp only [Bool.and_eq_true] at h1
  obtain ⟨⟨d1, d2⟩, d3⟩ := h1
  obtain ⟨W, w1, w2⟩ := h
  refine ⟨W, w1.frame hM hW hq hk d1 h2, fun r k hr hk' => w2 r k ?_ ?_⟩
  · rw [← hr]
    exact ((hM t hq).1 51 (by rw [hk]; decide) (by rw [hk]; exact not_all d2)).symm
  · rw [← hk']
    exact ((hM t hq).1 52 (by rw [hk]; decide) (by rw [hk]; exact not_all d3)).symm
end PVH
theorem lnz_arg {h l : Int32} {y1 y2 y3 y4 : Int64} (e1 : y1 = h.toInt64) (e2 : y2 = l.toInt64) (e3 : y3 = y1 - y2) (e4 : y4 = y3 + 1) (hle : l.toInt ≤ h.toInt) : ¬ y4 = 0 := by
  intro q
  have h1 := Int32.toInt_toInt64 h
  have h2 := Int32.toInt_toInt64 l
  have b1 := bdT h
  have b2 := bdT l
  unfold bd at b1 b2
  have e5 : y3.toInt = h.toInt - l.toInt := by
    rw [e3, e1, e2, Int64.toInt_sub, h1, h2]
    exact Int.bmod_eq_of_le (by omega) (by omega)
  have e6 : y4.toInt = h.toInt - l.toInt + 1 := by
    rw [e4, Int64.toInt_add, e5]
    have : (1 : Int64).toInt = 1 := by decide
    rw [this]
    exact Int.bmod_eq_of_le (by omega) (by omega)
  rw [q] at e6
  have : (0 : Int64).toInt = 0 := by decide
  omega
theorem lohi {V : PV} {δ : Nat → Nat} {m k i pm lo hi : Int32} (hW : wfP V δ) (h0 : 0 ≤ m.toInt) (hm : ((m.toNatClampNeg : Nat) : Int) < (V.n 27).toInt) (hk0 : 0 ≤ k.toInt) (hp : pm = V.i 19 m.toNatClampNeg) (hk : k.toInt < pm.toInt) (hi0 : i.toInt = 3 * m.toInt + k.toInt) (hl : lo = V.i 20 i.toNatClampNeg) (hh : hi = V.i 21 i.toNatClampNeg) : lo.toInt ≤ hi.toInt := by
  have e0 := tnZ h0
  have e1 := tnZ hk0
  have e2 := tnZ (i := i) (by omega)
  have h1 := (hW.2.2.2.1 m.toNatClampNeg hm).2.2.2 k.toNatClampNeg (by rw [e1, ← hp]; exact hk)
  rw [show 3 * m.toNatClampNeg + k.toNatClampNeg = i.toNatClampNeg by omega, ← hl, ← hh] at h1
  exact h1
theorem allC.ad {V : PV} {R R1 : RW} {r k k1 c : Int32} {dk : Int} (h : allC R k c) (hd : adOK V R R1 r k dk) (hn : dk = 0 ∨ (dk = 1 ∧ R1.c k.toNatClampNeg = c)) (h0 : 0 ≤ k.toInt) (h1 : k1.toInt = k.toInt + dk) : allC R1 k1 c := by
  have e0 := tnZ h0
  intro j hj
  by_cases hjk : (j : Int) < k.toInt
  · rw [hd.2.2.2 j hjk]
    exact h j hjk
  · rcases hn with q | ⟨q, q1⟩
    · omega
    · have : j = k.toNatClampNeg := by omega
      subst this
      exact q1
theorem adM_c {R : RW} {r k c : Int32} : (R.adM r k c).c k.toNatClampNeg = c := by simp only [RW.o_mk, RW.m_mk, RW.a_mk, RW.c_mk, RW.adM, if_true]
theorem allC.one {R : RW} {k c : Int32} (h : R.c (0 : Int32).toNatClampNeg = c) (hk : k.toInt ≤ 1) : allC R k c := fun j hj => by
  have e : (0 : Int32).toNatClampNeg = 0 := by decide
  obtain rfl : j = 0 := by omega
  rw [e] at h
  exact h
theorem rem_ltv {a b c d : Int} {x y z : Int32} (e : z = x - x / y * y) (hx : bd a b x) (hy : bd c d y) (h : 0 ≤ a ∧ 1 ≤ c) : z.toInt < y.toInt := by
  have h1 := rem_ti hx hy h.2
  rw [← e] at h1
  have h2 := hx.1
  have h3 := hy.1
  rw [Int.tmod_eq_emod_of_nonneg (by omega)] at h1
  have h6 := Int.emod_lt_of_pos x.toInt (b := y.toInt) (by omega)
  omega
theorem pfx.zero {R R1 : RW} : pfx R R1 0 0 := by
  have h0 : (0 : Int32).toInt = 0 := by decide
  exact ⟨fun i hi => by omega, fun j hj => by omega, fun j hj => by omega⟩
theorem pfx.cnt_ {R R1 : RW} {r k : Int32} (h : pfx R R1 r k) {i : Nat} (hi : (i : Int) ≤ r.toInt) : cnt R1 i = cnt R i := cnt_pfx (fun j hj => (h.1 j (by omega)).2)
theorem tk_k {V : PV} {T R : RW} {r k : Int32} (h : rwOK V R r k) (hp : pfx T R r k) (h0 : 0 ≤ r.toInt) : (cnt T r.toNatClampNeg : Int) = k.toInt := by
  rw [← hp.cnt_ (by rw [tnZ h0]; exact Int.le_refl _)]
  exact h.2
theorem tk_mk {V : PV} {T R : RW} {tr tk r k r1 k1 c : Int32} (hT : rwOK V T tr tk) (h : rwOK V R r k) (hp : pfx T R r k) (h0 : 0 ≤ r.toInt) (hk0 : 0 ≤ k.toInt) (hr : r.toInt < tr.toInt) (hm : (T.m r.toNatClampNeg).toInt = -1) (hc : c = T.a (3 * r.toNatClampNeg)) (h1 : r1.toInt = r.toInt + 1) (h2 : k1.toInt = k.toInt + 1) : pfx T (R.adM r k c) r1 k1 := by
  have t0 := tnZ h0
  have tk0 := tnZ hk0
  have hk := tk_k h hp h0
  obtain ⟨q1, q2, q3, q4, q5, q6⟩ := (hT.1 r.toNatClampNeg (by omega)).resolve_right (fun h9 => by have := h9.1; omega)
  have hkn : cnt T r.toNatClampNeg = k.toNatClampNeg := by omega
  rw [hkn] at q2 q3
  refine ⟨fun i hi => ?_, fun j hj => ?_, fun j hj => ?_⟩
  · simp only [RW.o_mk, RW.m_mk, RW.a_mk, RW.c_mk, RW.adM]
    by_cases hir : i = r.toNatClampNeg
    · rw [if_pos hir, if_pos hir, hir]
      exact ⟨Int32.toInt_inj.mp (by omega), Int32.toInt_inj.mp (by rw [hm]; exact m1i)⟩
    · rw [if_neg hir, if_neg hir]
      exact hp.1 i (by omega)
  · simp only [RW.o_mk, RW.m_mk, RW.a_mk, RW.c_mk, RW.adM]
    by_cases e0 : j = 3 * r.toNatClampNeg
    · rw [if_pos e0, e0]; exact hc
    · by_cases e1 : j = 3 * r.toNatClampNeg + 1
      · rw [if_neg e0, if_pos e1, e1]; exact q5.symm
      · by_cases e2 : j = 3 * r.toNatClampNeg + 2
        · rw [if_neg e0, if_neg e1, if_pos e2, e2]; exact q6.symm
        · rw [if_neg e0, if_neg e1, if_neg e2]
          exact hp.2.1 j (by omega)
  · simp only [RW.o_mk, RW.m_mk, RW.a_mk, RW.c_mk, RW.adM]
    by_cases e0 : j = k.toNatClampNeg
    · rw [if_pos e0, e0, hc]; exact q3
    · rw [if_neg e0]
      exact hp.2.2 j (by omega)
theorem tk_ok {V : PV} {T R : RW} {tr tk r k : Int32} (hT : rwOK V T tr tk) (h : rwOK V R r k) (hp : pfx T R r k) (h0 : 0 ≤ r.toInt) (hr : r.toInt < tr.toInt) (hm : ¬ (T.m r.toNatClampNeg).toInt = -1) : (T.o r.toNatClampNeg).toInt < k.toInt ∧ (T.m r.toNatClampNeg).toInt < (V.i 15 (R.c (T.o r.toNatClampNeg).toNatClampNeg).toNatClampNeg).toInt := by
  have t0 := tnZ h0
  have hk := tk_k h hp h0
  obtain ⟨q1, q2, q3, q4⟩ := (hT.1 r.toNatClampNeg (by omega)).resolve_left (fun h9 => hm h9.1)
  refine ⟨by omega, ?_⟩
  rw [hp.2.2 _ (by rw [tnZ q2]; omega)]
  exact q4
theorem tk_ca {T R : RW} {r k r1 o m a b d : Int32} (hp : pfx T R r k) (h0 : 0 ≤ r.toInt) (ho : o = T.o r.toNatClampNeg) (hm : m = T.m r.toNatClampNeg) (ha : a = T.a (3 * r.toNatClampNeg)) (hb : b = T.a (3 * r.toNatClampNeg + 1)) (hd : d = T.a (3 * r.toNatClampNeg + 2)) (h1 : r1.toInt = r.toInt + 1) : pfx T (R.adC r o m a b d) r1 k := by
  have t0 := tnZ h0
  refine ⟨fun i hi => ?_, fun j hj => ?_, fun j hj => hp.2.2 j hj⟩
  · simp only [RW.o_mk, RW.m_mk, RW.a_mk, RW.c_mk, RW.adC]
    by_cases hir : i = r.toNatClampNeg
    · rw [if_pos hir, if_pos hir, hir]
      exact ⟨ho, hm⟩
    · rw [if_neg hir, if_neg hir]
      exact hp.1 i (by omega)
  · simp only [RW.o_mk, RW.m_mk, RW.a_mk, RW.c_mk, RW.adC]
    by_cases e0 : j = 3 * r.toNatClampNeg
    · rw [if_pos e0, e0]; exact ha
    · by_cases e1 : j = 3 * r.toNatClampNeg + 1
      · rw [if_neg e0, if_pos e1, e1]; exact hb
      · by_cases e2 : j = 3 * r.toNatClampNeg + 2
        · rw [if_neg e0, if_neg e1, if_pos e2, e2]; exact hd
        · rw [if_neg e0, if_neg e1, if_neg e2]
          exact hp.2.1 j (by omega)
theorem tk_mk2 {V : PV} {T R : RW} {tr tk r k r1 k1 c i : Int32} (ei : r = i) (hT : rwOK V T tr tk) (h : rwOK V R r k) (hp : pfx T R r k) (h0 : 0 ≤ i.toInt) (hk0 : 0 ≤ k.toInt) (hr : i.toInt < tr.toInt) (hm : (T.m i.toNatClampNeg).toInt = -1) (hc : c = T.a (3 * i.toNatClampNeg)) (h1 : r1.toInt = r.toInt + 1) (h2 : k1.toInt = k.toInt + 1) : pfx T (R.adM r k c) r1 k1 := by subst ei; exact tk_mk hT h hp h0 hk0 hr hm hc h1 h2
theorem tk_ok2 {V : PV} {T R : RW} {tr tk r k i : Int32} (ei : r = i) (hT : rwOK V T tr tk) (h : rwOK V R r k) (hp : pfx T R r k) (h0 : 0 ≤ i.toInt) (hr : i.toInt < tr.toInt) (hm : ¬ (T.m i.toNatClampNeg).toInt = -1) : (T.o i.toNatClampNeg).toInt < k.toInt ∧ (T.m i.toNatClampNeg).toInt < (V.i 15 (R.c (T.o i.toNatClampNeg).toNatClampNeg).toNatClampNeg).toInt ∧ 0 ≤ (T.m i.toNatClampNeg).toInt := by
  subst ei
  have h1 := tk_ok hT h hp h0 hr hm
  have t0 := tnZ h0
  obtain ⟨q1, -⟩ := (hT.1 r.toNatClampNeg (by omega)).resolve_left (fun h9 => hm h9.1)
  exact ⟨h1.1, h1.2, q1⟩
theorem tk_max {V : PV} {T R : RW} {tr tk r k i : Int32} (ei : r = i) (hT : rwOK V T tr tk) (h : rwOK V R r k) (hp : pfx T R r k) (h0 : 0 ≤ i.toInt) (hr : i.toInt < tr.toInt) (hm : (T.m i.toNatClampNeg).toInt = -1) (ht : tk.toInt ≤ 3) : k.toInt ≤ 2 := by
  subst ei
  have t0 := tnZ h0
  have h1 := hT.lt (i := r.toNatClampNeg) (by omega) hm
  have h2 := tk_k h hp h0
  omega
theorem tk_ca2 {T R : RW} {r k r1 o m a b d i y0 y1 y2 : Int32} (ei : r = i) (hp : pfx T R r k) (h0 : 0 ≤ i.toInt) (ho : o = T.o i.toNatClampNeg) (hm : m = T.m i.toNatClampNeg) (ha : a = T.a y0.toNatClampNeg) (hb : b = T.a y1.toNatClampNeg) (hd : d = T.a y2.toNatClampNeg) (e0 : y0.toInt = 3 * i.toInt) (e1 : y1.toInt = 3 * i.toInt + 1) (e2 : y2.toInt = 3 * i.toInt + 2) (h1 : r1.toInt = r.toInt + 1) : pfx T (R.adC r o m a b d) r1 k := by
  subst ei
  have t0 := tnZ h0
  have u0 := tnZ (i := y0) (by omega)
  have u1 := tnZ (i := y1) (by omega)
  have u2 := tnZ (i := y2) (by omega)
  rw [show y0.toNatClampNeg = 3 * r.toNatClampNeg by omega] at ha
  rw [show y1.toNatClampNeg = 3 * r.toNatClampNeg + 1 by omega] at hb
  rw [show y2.toNatClampNeg = 3 * r.toNatClampNeg + 2 by omega] at hd
  exact tk_ca hp h0 ho hm ha hb hd h1
theorem tk_end {V : PV} {T R : RW} {tr tk r k : Int32} (hT : rwOK V T tr tk) (h : rwOK V R r k) (hp : pfx T R r k) (e : r.toInt = tr.toInt) (h0 : 0 ≤ r.toInt) : k.toInt = tk.toInt ∧ pfx T R tr tk ∧ ∀ r1 k1 : Int32, r1.toInt = tr.toInt → k1.toInt = tk.toInt → rwOK V R r1 k1 := by
  obtain rfl : r = tr := Int32.toInt_inj.mp e
  have hk := tk_k h hp h0
  obtain rfl : k = tk := Int32.toInt_inj.mp (by rw [← hk]; exact hT.2)
  refine ⟨rfl, hp, fun r1 k1 h1 h2 => ?_⟩
  obtain rfl : r1 = r := Int32.toInt_inj.mp h1
  obtain rfl : k1 = k := Int32.toInt_inj.mp h2
  exact h
/-- without object g (none: -1): the number of object o -/
def shO (g o : Int) : Int := if 0 ≤ g ∧ g < o then o - 1 else o
def woOK (V : PV) (T R : RW) (k g r kk : Int32) : Prop := rwOK V R r kk ∧ kk.toInt = (cnt T k.toNatClampNeg : Int) - (if 0 ≤ g.toInt ∧ g.toInt < (cnt T k.toNatClampNeg : Int) then 1 else 0) ∧ ∀ o : Nat, o < cnt T k.toNatClampNeg → (o : Int) ≠ g.toInt → R.c (shO g.toInt o).toNat = T.c o
theorem wo_0 {V : PV} {T R : RW} {g : Int32} : woOK V T R 0 g 0 0 := by
  have h1 : (0 : Int32).toNatClampNeg = 0 := by decide
  have h0 : (0 : Int32).toInt = 0 := by decide
  refine ⟨rwOK.zero, ?_, fun o ho => ?_⟩
  · rw [h1, h0, if_neg (by simp only [cnt]; omega)]
    rfl
  · rw [h1] at ho
    simp only [cnt] at ho
    omega
/-- a call that is left out makes no object but g -/
theorem wo_skip {V : PV} {T R : RW} {tr tk k k1 g r kk : Int32} (hT : rwOK V T tr tk) (h : woOK V T R k g r kk) (h0 : 0 ≤ k.toInt) (hk : k.toInt < tr.toInt) (h1 : k1.toInt = k.toInt + 1) (hs : (T.m k.toNatClampNeg).toInt = -1 → (T.o k.toNatClampNeg).toInt = g.toInt) : woOK V T R k1 g r kk := by
  have t0 := tnZ h0
  have t1 := tnZ (i := k1) (by omega)
  have e : k1.toNatClampNeg = k.toNatClampNeg + 1 := by omega
  obtain ⟨a1, a2, a3⟩ := h
  by_cases hm : (T.m k.toNatClampNeg).toInt = -1
  · have hg := hs hm
    obtain ⟨q1, q2, -⟩ := (hT.1 k.toNatClampNeg (by omega)).resolve_right (fun h9 => by have := h9.1; omega)
    have hc : cnt T k1.toNatClampNeg = cnt T k.toNatClampNeg + 1 := by rw [e]; simp only [cnt, if_pos hm]
    refine ⟨a1, ?_, fun o ho hog => ?_⟩
    · rw [hc]
      rw [if_neg (by omega)] at a2
      rw [if_pos (by omega)]
      omega
    · rw [hc] at ho
      exact a3 o (by omega) hog
  · have hc : cnt T k1.toNatClampNeg = cnt T k.toNatClampNeg := by rw [e]; simp only [cnt, if_neg hm, Nat.add_zero]
    refine ⟨a1, by rw [hc]; exact a2, fun o ho => ?_⟩
    rw [hc] at ho
    exact a3 o ho
theorem wo_mk {V : PV} {T R : RW} {tr tk k k1 g r kk r1 kk1 c : Int32} (hT : rwOK V T tr tk) (h : woOK V T R k g r kk) (h0 : 0 ≤ k.toInt) (hk : k.toInt < tr.toInt) (h1 : k1.toInt = k.toInt + 1) (hm : (T.m k.toNatClampNeg).toInt = -1) (hg : (T.o k.toNatClampNeg).toInt ≠ g.toInt) (hkk : 0 ≤ kk.toInt) (hc : c = T.a (3 * k.toNatClampNeg)) (had : rwOK V (R.adM r kk c) r1 kk1) (h2 : kk1.toInt = kk.toInt + 1) : woOK V T (R.adM r kk c) k1 g r1 kk1 := by
  have t0 := tnZ h0
  have t1 := tnZ (i := k1) (by omega)
  have tk0 := tnZ hkk
  have e : k1.toNatClampNeg = k.toNatClampNeg + 1 := by omega
  obtain ⟨a1, a2, a3⟩ := h
  obtain ⟨q1, q2, q3, -⟩ := (hT.1 k.toNatClampNeg (by omega)).resolve_right (fun h9 => by have := h9.1; omega)
  have hcn : cnt T k1.toNatClampNeg = cnt T k.toNatClampNeg + 1 := by rw [e]; simp only [cnt, if_pos hm]
  refine ⟨had, ?_, fun o ho hog => ?_⟩
  · rw [hcn]
    by_cases hq : 0 ≤ g.toInt ∧ g.toInt < (cnt T k.toNatClampNeg : Int)
    · rw [if_pos hq] at a2
      rw [if_pos (by omega)]
      omega
    · rw [if_neg hq] at a2
      rw [if_neg (by omega)]
      omega
  · rw [hcn] at ho
    simp only [RW.o_mk, RW.m_mk, RW.a_mk, RW.c_mk, RW.adM]
    have hsh : (0 ≤ shO g.toInt o) ∧ ((o < cnt T k.toNatClampNeg → shO g.toInt o < kk.toInt) ∧ (o = cnt T k.toNatClampNeg → shO g.toInt o = kk.toInt)) := by
      unfold shO
      by_cases hq : 0 ≤ g.toInt ∧ g.toInt < (cnt T k.toNatClampNeg : Int)
      · rw [if_pos hq] at a2
        split <;> refine ⟨by omega, fun _ => by omega, fun _ => by omega⟩
      · rw [if_neg hq] at a2
        split <;> refine ⟨by omega, fun _ => by omega, fun _ => by omega⟩
    by_cases hon : o < cnt T k.toNatClampNeg
    · rw [if_neg (by have := hsh.2.1 hon; omega)]
      exact a3 o hon hog
    · have ho' : o = cnt T k.toNatClampNeg := by omega
      rw [if_pos (by have := hsh.2.2 ho'; omega), hc, q3, ho']
theorem wo_in {V : PV} {T R : RW} {tr tk k g r kk o : Int32} (hT : rwOK V T tr tk) (h : woOK V T R k g r kk) (h0 : 0 ≤ k.toInt) (hk : k.toInt < tr.toInt) (hm : ¬ (T.m k.toNatClampNeg).toInt = -1) (hg : (T.o k.toNatClampNeg).toInt ≠ g.toInt) (ho : o.toInt = shO g.toInt (T.o k.toNatClampNeg).toInt) : 0 ≤ o.toInt ∧ o.toInt < kk.toInt ∧ (T.m k.toNatClampNeg).toInt < (V.i 15 (R.c o.toNatClampNeg).toNatClampNeg).toInt := by
  have t0 := tnZ h0
  obtain ⟨a1, a2, a3⟩ := h
  obtain ⟨q1, q2, q3, q4⟩ := (hT.1 k.toNatClampNeg (by omega)).resolve_left (fun h9 => hm h9.1)
  have tq := tnZ q2
  have hsh : 0 ≤ o.toInt ∧ o.toInt < kk.toInt := by
    rw [ho]
    unfold shO
    by_cases hq : 0 ≤ g.toInt ∧ g.toInt < (cnt T k.toNatClampNeg : Int)
    · rw [if_pos hq] at a2
      split <;> omega
    · rw [if_neg hq] at a2
      split <;> omega
  refine ⟨hsh.1, hsh.2, ?_⟩
  have e1 := a3 (T.o k.toNatClampNeg).toNatClampNeg (by omega) (by rw [tq]; exact hg)
  rw [tq, ← ho] at e1
  have e2 : o.toInt.toNat = o.toNatClampNeg := rfl
  rw [e2] at e1
  rw [e1]
  exact q4
theorem wo_ca {V : PV} {T R : RW} {tr tk k k1 g r kk r1 o m a b d : Int32} (hT : rwOK V T tr tk) (h : woOK V T R k g r kk) (h0 : 0 ≤ k.toInt) (h1 : k1.toInt = k.toInt + 1) (hm : ¬ (T.m k.toNatClampNeg).toInt = -1) (had : rwOK V (R.adC r o m a b d) r1 kk) : woOK V T (R.adC r o m a b d) k1 g r1 kk := by
  have t0 := tnZ h0
  have t1 := tnZ (i := k1) (by omega)
  have e : k1.toNatClampNeg = k.toNatClampNeg + 1 := by omega
  have hc : cnt T k1.toNatClampNeg = cnt T k.toNatClampNeg := by rw [e]; simp only [cnt, if_neg hm, Nat.add_zero]
  obtain ⟨a1, a2, a3⟩ := h
  refine ⟨had, by rw [hc]; exact a2, fun o' ho => ?_⟩
  rw [hc] at ho
  exact a3 o' ho
theorem wo_max {V : PV} {T R : RW} {tr tk k g r kk : Int32} (hT : rwOK V T tr tk) (h : woOK V T R k g r kk) (h0 : 0 ≤ k.toInt) (hk : k.toInt < tr.toInt) (hm : (T.m k.toNatClampNeg).toInt = -1) (ht : tk.toInt ≤ 3) : kk.toInt ≤ 2 := by
  have t0 := tnZ h0
  have h1 := hT.lt (i := k.toNatClampNeg) (by omega) hm
  have h2 := h.2.1
  split at h2 <;> omega
section PVT
variable {p : Program} {l : Launch} {e : Env} {R : Room} {s : State} {m : MethodId} {args : Array Value} {below : List Frame} {meth : Method} {c : Code} {H : Heap} {locs : List Loc} {cells slots : Nat} {Q : State → Prop} {D : va_G} {tys : List (ClassId × FieldType)} {L : List Nat} {kd : Nat → Nat} {f0 f f1 f2 : Nat → va_E} {md : List (Nat × Nat)} {ma : List Nat} {fx : List Fct} {a q t : Nat} {V : PV} {δ : Nat → Nat}
/-- the row kept aside -/
def cp2 (f : Nat → va_E) (t : Nat) (W : RW) (n : Int) : Prop := ∀ j : Nat, (j : Int) < n → aI f (rf f t 62) j = W.o j ∧ aI f (rf f t 63) j = W.m j
def cp3 (f : Nat → va_E) (t : Nat) (W : RW) (n : Int) : Prop := ∀ j : Nat, (j : Int) < n → aI f (rf f t 64) j = W.a j
def isT (f : Nat → va_E) (t : Nat) (W : RW) : Prop := cp2 f t W 10 ∧ cp3 f t W 30
theorem cp2.frame {W : RW} {n : Int} (hM : Md L kd md ma f f1) (hW : WT L kd tys f) (hq : t ∈ L) (hk : kd t = 14) (h1 : ((md.all fun y => y != (14, 62)) && (md.all fun y => y != (14, 63))) = true) (h2 : ((ma.all fun y => y != 230) && (ma.all fun y => y != 231)) = true) (h : cp2 f t W n) : cp2 f1 t W n := fun j hj => by
  simp only [Bool.and_eq_true] at h1 h2
  rw [arr_fr hM hW hq hk (by decide) (K := 230) rfl (not_all h1.1) (by decide) (not_all h2.1), arr_fr hM hW hq hk (by decide) (K := 231) rfl (not_all h1.2) (by decide) (not_all h2.2)]
  exact h j hj
theorem cp3.frame {W : RW} {n : Int} (hM : Md L kd md ma f f1) (hW : WT L kd tys f) (hq : t ∈ L) (hk : kd t = 14) (h1 : (md.all fun y => y != (14, 64)) = true) (h2 : (ma.all fun y => y != 232) = true) (h : cp3 f t W n) : cp3 f1 t W n := fun j hj => by
  rw [arr_fr hM hW hq hk (by decide) (K := 232) rfl (not_all h1) (by decide) (not_all h2)]
  exact h j hj
theorem isT.frame {W : RW} (hM : Md L kd md ma f f1) (hW : WT L kd tys f) (hq : t ∈ L) (hk : kd t = 14) (h1 : ((md.all fun y => y != (14, 62)) && (md.all fun y => y != (14, 63)) && (md.all fun y => y != (14, 64))) = true) (h2 : ((ma.all fun y => y != 230) && (ma.all fun y => y != 231) && (ma.all fun y => y != 232)) = true) (h : isT f t W) : isT f1 t W := by
  rw [Bool.and_eq_true] at h1 h2
  exact ⟨h.1.frame hM hW hq hk h1.1 h2.1, h.2.frame hM hW hq hk h1.2 h2.2⟩
theorem isT.at62 {W : RW} (h : isT f t W) (g : G3 D L kd tys s f0 md ma f H locs fx) (k0 : Nat) (e : fx[k0]? = some (14, 62, t, .ref a)) {x i : Int32} (hi : 0 ≤ i.toInt ∧ i.toInt < 10) (hc : x = aI f a i.toNatClampNeg) : x = W.o i.toNatClampNeg := by
  rw [← (h.1 i.toNatClampNeg (by rw [tnZ hi.1]; exact hi.2)).1, rf_eq (fx_at g e).2.2.2]; exact hc
theorem isT.at63 {W : RW} (h : isT f t W) (g : G3 D L kd tys s f0 md ma f H locs fx) (k0 : Nat) (e : fx[k0]? = some (14, 63, t, .ref a)) {x i : Int32} (hi : 0 ≤ i.toInt ∧ i.toInt < 10) (hc : x = aI f a i.toNatClampNeg) : x = W.m i.toNatClampNeg := by
  rw [← (h.1 i.toNatClampNeg (by rw [tnZ hi.1]; exact hi.2)).2, rf_eq (fx_at g e).2.2.2]; exact hc
theorem isT.at64 {W : RW} (h : isT f t W) (g : G3 D L kd tys s f0 md ma f H locs fx) (k0 : Nat) (e : fx[k0]? = some (14, 64, t, .ref a)) {x i : Int32} (hi : 0 ≤ i.toInt ∧ i.toInt < 30) (hc : x = aI f a i.toNatClampNeg) : x = W.a i.toNatClampNeg := by
  rw [← h.2 i.toNatClampNeg (by rw [tnZ hi.1]; exact hi.2), rf_eq (fx_at g e).2.2.2]; exact hc
theorem cp2.step {W : RW} {a b : Nat} {i i1 x y : Int32} (h : cp2 f t W i.toInt) (ht : kd t = 14) (ha : fV f t 62 = .ref a) (hb1 : fV f1 t 63 = .ref b) (hka : kd a = 230) (hkb : kd b = 231) (u : uA f f1 a i.toNatClampNeg x) (v : uA f1 f2 b i.toNatClampNeg y) (hx : x = W.o i.toNatClampNeg) (hy : y = W.m i.toNatClampNeg) (h0 : 0 ≤ i.toInt) (h1 : i1.toInt = i.toInt + 1) : cp2 f2 t W i1.toInt := fun j hj => by
  have hta : t ≠ a := fun q => by rw [q] at ht; omega
  have htb : t ≠ b := fun q => by rw [q] at ht; omega
  have hab : a ≠ b := fun q => by rw [q] at hka; omega
  have t0 := tnZ h0
  have hb : fV f t 63 = .ref b := by rw [← u.fV hta]; exact hb1
  have ha1 : fV f1 t 62 = .ref a := by rw [u.fV hta]; exact ha
  rw [uA_oth v htb ha1 hab, uA_own u hta ha, uA_own v htb hb1, uA_oth u hta hb (Ne.symm hab)]
  by_cases hji : j = i.toNatClampNeg
  · rw [if_pos hji, if_pos hji, hji]
    exact ⟨hx, hy⟩
  · rw [if_neg hji, if_neg hji]
    exact h j (by omega)
theorem cp3.step {W : RW} {a : Nat} {i i1 x : Int32} (h : cp3 f t W i.toInt) (ht : kd t = 14) (ha : fV f t 64 = .ref a) (hka : kd a = 232) (u : uA f f1 a i.toNatClampNeg x) (hx : x = W.a i.toNatClampNeg) (h0 : 0 ≤ i.toInt) (h1 : i1.toInt = i.toInt + 1) : cp3 f1 t W i1.toInt := fun j hj => by
  have hta : t ≠ a := fun q => by rw [q] at ht; omega
  have t0 := tnZ h0
  rw [uA_own u hta ha]
  by_cases hji : j = i.toNatClampNeg
  · rw [if_pos hji, hji]
    exact hx
  · rw [if_neg hji]
    exact h j (by omega)
theorem cp2.z {W : RW} : cp2 f t W (0 : Int32).toInt := fun j hj => absurd hj (by rw [show (0 : Int32).toInt = 0 from by decide]; omega)
theorem cp3.z {W : RW} : cp3 f t W (0 : Int32).toInt := fun j hj => absurd hj (by rw [show (0 : Int32).toInt = 0 from by decide]; omega)
theorem cp2.to {W : RW} {i : Int32} {n : Int} (h : cp2 f t W i.toInt) (hn : n ≤ i.toInt) : cp2 f t W n := fun j hj => h j (by omega)
theorem cp3.to {W : RW} {i : Int32} {n : Int} (h : cp3 f t W i.toInt) (hn : n ≤ i.toInt) : cp3 f t W n := fun j hj => h j (by omega)
/-- what is kept aside is a whole row -/
def tOK (f : Nat → va_E) (t : Nat) (V : PV) : Prop := ∃ W : RW, isT f t W ∧ ∀ r k : Int32, fV f t 65 = .int r → fV f t 66 = .int k → rwOK V W r k
theorem tOK.of {W : RW} {r k : Int32} (h : isT f t W) (g : G3 D L kd tys s f0 md ma f H locs fx) (k0 k1 : Nat) (e0 : fx[k0]? = some (14, 65, t, .int r)) (e1 : fx[k1]? = some (14, 66, t, .int k)) (ho : rwOK V W r k) : tOK f t V := ⟨W, h, fun r' k' hr hk => by
  have q0 := (fx_at g e0).2.2.2
  have q1 := (fx_at g e1).2.2.2
  simp only at q0 q1
  rw [hr] at q0
  rw [hk] at q1
  cases q0
  cases q1
  exact ho⟩
theorem tOK.frame (hM : Md L kd md ma f f1) (hW : WT L kd tys f) (hq : t ∈ L) (hk : kd t = 14) (h1 : (((md.all fun y => y != (14, 62)) && (md.all fun y => y != (14, 63)) && (md.all fun y => y != (14, 64))) && (md.all fun y => y != (14, 65)) && (md.all fun y => y != (14, 66))) = true) (h2 : ((ma.all fun y => y != 230) && (ma.all fun y => y != 231) && (ma.all fun y => y != 232)) = true) (h : tOK f t V) : tOK f1 t V := by
  rw [Bool.and_eq_true, Bool.and_eq_true] at h1
  obtain ⟨⟨d1, d2⟩, d3⟩ := h1
  obtain ⟨W, w1, w2⟩ := h
  refine ⟨W, w1.frame hM hW hq hk d1 h2, fun r k hr hk' => w2 r k ?_ ?_⟩
  · rw [← hr]
    exact ((hM t hq).1 65 (by rw [hk]; decide) (by rw [hk]; exact not_all d2)).symm
  · rw [← hk']
    exact ((hM t hq).1 66 (by rw [hk]; decide) (by rw [hk]; exact not_all d3)).symm
theorem rw_at {W : RW} {r k : Int32} (g : G3 D L kd tys s f0 md ma f H locs fx) (k0 k1 : Nat) (e0 : fx[k0]? = some (14, 51, t, .int r)) (e1 : fx[k1]? = some (14, 52, t, .int k)) (ho : rwOK V W r k) : ∀ r k : Int32, fV f t 51 = .int r → fV f t 52 = .int k → rwOK V W r k := fun r' k' hr hk => by
  have q0 := (fx_at g e0).2.2.2
  have q1 := (fx_at g e1).2.2.2
  simp only at q0 q1
  rw [hr] at q0
  rw [hk] at q1
  cases q0
  cases q1
  exact ho
end PVT
theorem allC.zero {R : RW} {c : Int32} : allC R 0 c := fun j hj => absurd hj (by rw [show (0 : Int32).toInt = 0 from by decide]; omega)
theorem allC.pf {R R1 : RW} {r k c : Int32} (h : allC R k c) (hp : pfx R R1 r k) : allC R1 k c := fun j hj => (hp.2.2 j hj).trans (h j hj)
theorem rwOK.z0 {V : PV} {R : RW} {r k : Int32} (h : rwOK V R r k) (hr : r.toInt = 0) : k.toInt = 0 := by
  have e : r.toNatClampNeg = 0 := by have := tnZ (i := r) (by omega); omega
  have := h.2
  rw [e] at this
  exact this.symm
theorem mul_bd {a b c d : Int} {x y z : Int32} (e : z = x * y) (hx : bd a b x) (hy : bd c d y) (h : 0 ≤ a ∧ 0 ≤ c ∧ b * d ≤ 2147483647) : bd (a * c) (b * d) z := by
  obtain ⟨h1, h2⟩ := hx
  obtain ⟨h3, h4⟩ := hy
  have m1 : a * c ≤ x.toInt * y.toInt := Int.mul_le_mul h1 h3 h.2.1 (by omega)
  have m2 : x.toInt * y.toInt ≤ b * d := Int.mul_le_mul h2 h4 (by omega) (by omega)
  have m3 : 0 ≤ a * c := Int.mul_nonneg h.1 h.2.1
  have e1 : z.toInt = x.toInt * y.toInt := by
    rw [e, Int32.toInt_mul]
    exact Int.bmod_eq_of_le (by omega) (by omega)
  unfold bd
  omega
theorem mul_rg {a b c d lo hi : Int} {x y z : Int32} (e : z = x * y) (hx : bd a b x) (hy : bd c d y) (h : (0 ≤ a ∧ 0 ≤ c ∧ b * d ≤ 2147483647) ∧ lo = a * c ∧ hi = b * d) : bd lo hi z := by
  obtain ⟨h1, rfl, rfl⟩ := h
  exact mul_bd e hx hy h1
/-- the least that an argument may come to -/
def fstV (V : PV) (m k : Nat) : Int := if (V.i 20 (3 * m + k)).toInt ≤ 0 ∧ 0 ≤ (V.i 21 (3 * m + k)).toInt then 0 else (V.i 20 (3 * m + k)).toInt
def dkV (V : PV) (m k : Nat) (v : Int32) : Nat := if (k : Int) < (V.i 19 m).toInt then (v.toInt - fstV V m k).natAbs else 0
def memV (V : PV) (R : RW) (i : Nat) : Nat := (V.i 14 (12 * (R.c (R.o i).toNatClampNeg).toNatClampNeg + (R.m i).toNatClampNeg)).toNatClampNeg
def dstV (V : PV) (R : RW) (i : Nat) : Nat := if (R.m i).toInt = -1 then 0 else dkV V (memV V R i) 0 (R.a (3 * i)) + dkV V (memV V R i) 1 (R.a (3 * i + 1)) + dkV V (memV V R i) 2 (R.a (3 * i + 2))
def dsum (V : PV) (R : RW) : Nat → Nat
  | 0 => 0
  | i + 1 => dsum V R i + dstV V R i
/-- how much there is still to be made less -/
def muR (V : PV) (R : RW) (r : Int32) : Nat := r.toNatClampNeg * 1099511627776 + dsum V R r.toNatClampNeg
theorem dkV_le {V : PV} {m k : Nat} {v : Int32} : dkV V m k v ≤ 8589934592 := by
  unfold dkV fstV
  have h1 := bdT v
  have h2 := bdT (V.i 20 (3 * m + k))
  unfold bd at h1 h2
  split
  · split <;> omega
  · omega
theorem dsum_le {V : PV} {R : RW} {n : Nat} : dsum V R n ≤ n * 25769803776 := by
  induction n with
  | zero => exact Nat.le_refl _
  | succ n ih =>
    simp only [dsum]
    have h : dstV V R n ≤ 25769803776 := by
      unfold dstV
      split
      · omega
      · have a := dkV_le (V := V) (m := memV V R n) (k := 0) (v := R.a (3 * n))
        have b := dkV_le (V := V) (m := memV V R n) (k := 1) (v := R.a (3 * n + 1))
        have c := dkV_le (V := V) (m := memV V R n) (k := 2) (v := R.a (3 * n + 2))
        omega
    omega
theorem mu_less {V : PV} {R R1 : RW} {r r1 : Int32} (h : r1.toInt + 1 ≤ r.toInt) (h0 : 0 ≤ r1.toInt) (h9 : r.toInt ≤ 10) : muR V R1 r1 < muR V R r := by
  have t0 := tnZ h0
  have t1 := tnZ (i := r) (by omega)
  have h1 := dsum_le (V := V) (R := R1) (n := r1.toNatClampNeg)
  unfold muR
  omega
theorem dst_pfx {V : PV} {R R1 : RW} {r k : Int32} (h : rwOK V R r k) (hp : pfx R R1 r k) {i : Nat} (hi : (i : Int) < r.toInt) : dstV V R1 i = dstV V R i := by
  obtain ⟨p1, p2⟩ := hp.1 i hi
  unfold dstV memV
  rw [p1, p2, hp.2.1 (3 * i) (by omega), hp.2.1 (3 * i + 1) (by omega), hp.2.1 (3 * i + 2) (by omega)]
  by_cases hm : (R.m i).toInt = -1
  · rw [if_pos hm, if_pos hm]
  · obtain ⟨q1, q2, q3, q4⟩ := (h.1 i hi).resolve_left (fun h9 => hm h9.1)
    rw [if_neg hm, if_neg hm, hp.2.2 _ (by rw [tnZ q2]; have := h.le (i := i) (by omega); omega)]
theorem dsum_pfx {V : PV} {R R1 : RW} {r k : Int32} (h : rwOK V R r k) (hp : pfx R R1 r k) {n : Nat} (hn : (n : Int) ≤ r.toInt) : dsum V R1 n = dsum V R n := by
  induction n with
  | zero => rfl
  | succ n ih => simp only [dsum]; rw [ih (by omega), dst_pfx h hp (by omega)]
theorem dsum_lt {V : PV} {R R1 : RW} {n i : Nat} (hi : i < n) (h1 : dstV V R1 i < dstV V R i) (h2 : ∀ j, j ≠ i → j < n → dstV V R1 j = dstV V R j) : dsum V R1 n < dsum V R n := by
  induction n with
  | zero => omega
  | succ n ih =>
    simp only [dsum]
    by_cases hin : i = n
    · subst hin
      have : dsum V R1 i = dsum V R i := by
        clear ih h1
        have hk : ∀ m, m ≤ i → dsum V R1 m = dsum V R m := by
          intro m hm
          induction m with
          | zero => rfl
          | succ m ih2 => simp only [dsum]; rw [ih2 (by omega), h2 m (by omega) (by omega)]
        exact hk i (Nat.le_refl _)
      omega
    · have := ih (by omega) (fun j hj hjn => h2 j hj (by omega))
      have := h2 n (fun q => hin q.symm) (by omega)
      omega
theorem ua_rw {V : PV} {R : RW} {r k i j e x : Int32} (h : rwOK V R r k) (h0 : 0 ≤ i.toInt) (hi : i.toInt < r.toInt) (hm : ¬ (R.m i.toNatClampNeg).toInt = -1) (he : 0 ≤ e.toInt ∧ e.toInt < 3) (hj : j.toInt = 3 * i.toInt + e.toInt) : rwOK V (R.ua j.toNatClampNeg x) r k := by
  have t0 := tnZ h0
  have t1 := tnZ (i := j) (by omega)
  have hc : ∀ n, cnt (R.ua j.toNatClampNeg x) n = cnt R n := fun n => cnt_pfx (fun _ _ => rfl)
  refine ⟨fun n hn => ?_, by rw [hc]; exact h.2⟩
  unfold rowOK
  rw [hc]
  rcases h.1 n hn with ⟨q1, q2, q3, q4, q5, q6⟩ | q
  · have hne : n ≠ i.toNatClampNeg := fun q => hm (by rw [← q]; exact q1)
    refine Or.inl ⟨q1, q2, ?_, ?_, ?_, ?_⟩ <;> simp only [RW.o_mk, RW.m_mk, RW.a_mk, RW.c_mk, RW.ua] <;> rw [if_neg (by omega)] <;> assumption
  · exact Or.inr q
theorem td2 (d : Int) : (0 ≤ d → 2 * d.tdiv 2 ≤ d ∧ d ≤ 2 * d.tdiv 2 + 1) ∧ (d < 0 → d ≤ 2 * d.tdiv 2 ∧ 2 * d.tdiv 2 - 1 ≤ d) := by
  refine ⟨fun h => ?_, fun h => ?_⟩
  · rw [Int.tdiv_eq_ediv_of_nonneg h]
    omega
  · have e : d.tdiv 2 = -((-d).tdiv 2) := by rw [Int.neg_tdiv, Int.neg_neg]
    rw [e, Int.tdiv_eq_ediv_of_nonneg (by omega)]
    omega
theorem half_lt {v fs hf : Int32} {y1 y2 y3 y4 y5 y6 : Int64} (e1 : y1 = v.toInt64) (e2 : y2 = fs.toInt64) (e3 : y3 = y1 - y2) (e4 : y4 = y3 / 2) (e6 : y6 = fs.toInt64) (e5 : y5 = y6 + y4) (eh : hf = y5.toInt32) (hne : hf.toInt ≠ fs.toInt) : (hf.toInt - fs.toInt).natAbs < (v.toInt - fs.toInt).natAbs := by
  have h1 := Int32.toInt_toInt64 v
  have h2 := Int32.toInt_toInt64 fs
  have b1 := bdT v
  have b2 := bdT fs
  unfold bd at b1 b2
  have q3 : y3.toInt = v.toInt - fs.toInt := by
    rw [e3, e1, e2, Int64.toInt_sub, h1, h2]
    exact Int.bmod_eq_of_le (by omega) (by omega)
  have tt := td2 (v.toInt - fs.toInt)
  have q4 : y4.toInt = (v.toInt - fs.toInt).tdiv 2 := by
    rw [e4, Int64.toInt_div, q3]
    have : (2 : Int64).toInt = 2 := by decide
    rw [this]
    exact Int.bmod_eq_of_le (by omega) (by omega)
  have q5 : y5.toInt = fs.toInt + (v.toInt - fs.toInt).tdiv 2 := by
    rw [e5, e6, Int64.toInt_add, h2, q4]
    exact Int.bmod_eq_of_le (by omega) (by omega)
  have q6 : hf.toInt = fs.toInt + (v.toInt - fs.toInt).tdiv 2 := by
    rw [eh, Int64.toInt_toInt32, q5]
    exact Int.bmod_eq_of_le (by omega) (by omega)
  rw [q6]
  omega
theorem in0_ {a b c : Int64} {l z h : Int} (hn : ¬ (a ≤ b ∧ b ≤ c)) (ea : a.toInt = l) (eb : b.toInt = z) (ec : c.toInt = h) : ¬ (l ≤ z ∧ z ≤ h) := by
  rw [Int64.le_iff_toInt_le, Int64.le_iff_toInt_le, ea, eb, ec] at hn
  exact hn
theorem dkV_lt {V : PV} {m k : Nat} {v x : Int32} (hk : (k : Int) < (V.i 19 m).toInt) (hd : (x.toInt - fstV V m k).natAbs < (v.toInt - fstV V m k).natAbs) : dkV V m k x < dkV V m k v := by
  unfold dkV
  rw [if_pos hk, if_pos hk]
  exact hd
theorem mu_ua {V : PV} {W R R0 R1 : RW} {r k z i e j o c mm jj m pm v x : Int32} (h : rwOK V W r k) (hp : pfx W R r k) (hp0 : pfx W R0 r k) (hz : z.toInt = r.toInt) (h0 : 0 ≤ i.toInt) (hi : i.toInt < r.toInt) (hm : ¬ (W.m i.toNatClampNeg).toInt = -1) (he : 0 ≤ e.toInt ∧ e.toInt < 3)
    (ho : o = W.o i.toNatClampNeg) (hc : c = R0.c o.toNatClampNeg) (hmm : mm = W.m i.toNatClampNeg) (c0 : 0 ≤ c.toInt) (hjj : jj.toInt = 12 * c.toInt + mm.toInt) (hM : m = V.i 14 jj.toNatClampNeg) (hpm : pm = V.i 19 m.toNatClampNeg) (hek : e.toInt < pm.toInt)
    (hj : j.toInt = 3 * i.toInt + e.toInt) (hv : v = W.a j.toNatClampNeg) (hd : (x.toInt - fstV V m.toNatClampNeg e.toNatClampNeg).natAbs < (v.toInt - fstV V m.toNatClampNeg e.toNatClampNeg).natAbs)
    (hR : R1.o = R.o ∧ R1.m = R.m ∧ R1.c = R.c ∧ ∀ n, R1.a n = if n = j.toNatClampNeg then x else R.a n) : muR V R1 z < muR V W r := by
  obtain rfl : z = r := Int32.toInt_inj.mp hz
  have t0 := tnZ h0
  have t1 := tnZ (i := j) (by omega)
  have t2 := tnZ he.1
  have t3 := tnZ (i := z) (by omega)
  have t4 := tnZ c0
  obtain ⟨q1, q2, q3, q4⟩ := (h.1 i.toNatClampNeg (by omega)).resolve_left (fun h9 => hm h9.1)
  have hmem : memV V R i.toNatClampNeg = m.toNatClampNeg := by
    unfold memV
    obtain ⟨p1, p2⟩ := hp.1 i.toNatClampNeg (by omega)
    have hok : (o.toNatClampNeg : Int) < k.toInt := by rw [ho, tnZ q2]; have := h.le (i := i.toNatClampNeg) (by omega); omega
    rw [p1, p2, ← ho, hp.2.2 _ hok, ← hp0.2.2 _ hok, ← hc, ← hmm, hM]
    have t5 := tnZ (i := mm) (by rw [hmm]; exact q1)
    have t6 := tnZ (i := jj) (by rw [hmm] at hjj; omega)
    rw [show 12 * c.toNatClampNeg + mm.toNatClampNeg = jj.toNatClampNeg by omega]
  have hmem1 : ∀ n, memV V R1 n = memV V R n := fun n => by unfold memV; rw [hR.1, hR.2.1, hR.2.2.1]
  have hmi : ¬ (R.m i.toNatClampNeg).toInt = -1 := by rw [(hp.1 i.toNatClampNeg (by omega)).2]; exact hm
  have hvR : v = R.a j.toNatClampNeg := by rw [hp.2.1 _ (by omega)]; exact hv
  have hpm' : (e.toNatClampNeg : Int) < (V.i 19 m.toNatClampNeg).toInt := by rw [t2, ← hpm]; exact hek
  have hk := dkV_lt (V := V) (v := v) (x := x) hpm' hd
  have hs : dsum V R1 z.toNatClampNeg < dsum V R z.toNatClampNeg := by
    refine dsum_lt (i := i.toNatClampNeg) (by omega) ?_ (fun n hn hnz => ?_)
    · unfold dstV
      rw [hR.2.1, if_neg hmi, if_neg hmi, hmem1, hmem, hR.2.2.2, hR.2.2.2, hR.2.2.2]
      rcases (show e.toInt = 0 ∨ e.toInt = 1 ∨ e.toInt = 2 by omega) with q | q | q
      · have e0 : e.toNatClampNeg = 0 := by omega
        rw [e0] at hk
        rw [if_pos (by omega), if_neg (by omega), if_neg (by omega), show 3 * i.toNatClampNeg = j.toNatClampNeg by omega, ← hvR]
        omega
      · have e0 : e.toNatClampNeg = 1 := by omega
        rw [e0] at hk
        rw [if_neg (by omega), if_pos (by omega), if_neg (by omega), show 3 * i.toNatClampNeg + 1 = j.toNatClampNeg by omega, ← hvR]
        omega
      · have e0 : e.toNatClampNeg = 2 := by omega
        rw [e0] at hk
        rw [if_neg (by omega), if_neg (by omega), if_pos (by omega), show 3 * i.toNatClampNeg + 2 = j.toNatClampNeg by omega, ← hvR]
        omega
    · unfold dstV
      rw [hR.2.1, hmem1, hR.2.2.2, hR.2.2.2, hR.2.2.2]
      simp only [if_neg (show ¬ 3 * n = j.toNatClampNeg by omega), if_neg (show ¬ 3 * n + 1 = j.toNatClampNeg by omega), if_neg (show ¬ 3 * n + 2 = j.toNatClampNeg by omega)]
  have he2 := dsum_pfx (V := V) h hp (n := z.toNatClampNeg) (by omega)
  unfold muR
  omega
theorem ua_1 {R : RW} {j : Nat} {x : Int32} : (R.ua j x).o = R.o ∧ (R.ua j x).m = R.m ∧ (R.ua j x).c = R.c ∧ ∀ n, (R.ua j x).a n = if n = j then x else R.a n := ⟨rfl, rfl, rfl, fun _ => rfl⟩
theorem ua_2 {R : RW} {j : Nat} {x y : Int32} : ((R.ua j y).ua j x).o = R.o ∧ ((R.ua j y).ua j x).m = R.m ∧ ((R.ua j y).ua j x).c = R.c ∧ ∀ n, ((R.ua j y).ua j x).a n = if n = j then x else R.a n := by
  refine ⟨rfl, rfl, rfl, fun n => ?_⟩
  simp only [RW.o_mk, RW.m_mk, RW.a_mk, RW.c_mk, RW.ua]
  by_cases h : n = j
  · rw [if_pos h, if_pos h]
  · rw [if_neg h, if_neg h, if_neg h]
theorem pfx_ua3 {W R : RW} {r k v x y : Int32} {j : Nat} (hp : pfx W R r k) (hv : v = W.a j) : pfx W (((R.ua j x).ua j y).ua j v) r k := by
  refine ⟨hp.1, fun n hn => ?_, hp.2.2⟩
  simp only [RW.o_mk, RW.m_mk, RW.a_mk, RW.c_mk, RW.ua]
  by_cases h : n = j
  · rw [if_pos h, h]; exact hv
  · rw [if_neg h, if_neg h, if_neg h]
    exact hp.2.1 n hn
theorem fst_0 {V : PV} {m e y lo hi z : Int32} (m0 : 0 ≤ m.toInt) (e0 : 0 ≤ e.toInt) (hy : y.toInt = 3 * m.toInt + e.toInt) (hl : lo = V.i 20 y.toNatClampNeg) (hh : hi = V.i 21 y.toNatClampNeg) (hz : z.toInt = 0) (h : lo.toInt ≤ 0 ∧ 0 ≤ hi.toInt) : fstV V m.toNatClampNeg e.toNatClampNeg = z.toInt := by
  have t0 := tnZ m0
  have t1 := tnZ e0
  have t2 := tnZ (i := y) (by omega)
  unfold fstV
  rw [show 3 * m.toNatClampNeg + e.toNatClampNeg = y.toNatClampNeg by omega, ← hl, ← hh, if_pos h, hz]
theorem fst_lo {V : PV} {m e y lo hi : Int32} (m0 : 0 ≤ m.toInt) (e0 : 0 ≤ e.toInt) (hy : y.toInt = 3 * m.toInt + e.toInt) (hl : lo = V.i 20 y.toNatClampNeg) (hh : hi = V.i 21 y.toNatClampNeg) (h : ¬ (lo.toInt ≤ 0 ∧ 0 ≤ hi.toInt)) : fstV V m.toNatClampNeg e.toNatClampNeg = lo.toInt := by
  have t0 := tnZ m0
  have t1 := tnZ e0
  have t2 := tnZ (i := y) (by omega)
  unfold fstV
  rw [show 3 * m.toNatClampNeg + e.toNatClampNeg = y.toNatClampNeg by omega, ← hl, ← hh, if_neg h]
section PVU
variable {s : State} {H : Heap} {locs : List Loc} {D : va_G} {tys : List (ClassId × FieldType)} {L : List Nat} {kd : Nat → Nat} {f0 f : Nat → va_E} {md : List (Nat × Nat)} {ma : List Nat} {fx : List Fct} {t : Nat}
theorem rw_at2 {P : Int32 → Int32 → Prop} {r k : Int32} (g : G3 D L kd tys s f0 md ma f H locs fx) (k0 k1 : Nat) (e0 : fx[k0]? = some (14, 51, t, .int r)) (e1 : fx[k1]? = some (14, 52, t, .int k)) (ho : P r k) : ∀ r k : Int32, fV f t 51 = .int r → fV f t 52 = .int k → P r k := fun r' k' hr hk => by
  have q0 := (fx_at g e0).2.2.2
  have q1 := (fx_at g e1).2.2.2
  simp only at q0 q1
  rw [hr] at q0
  rw [hk] at q1
  cases q0
  cases q1
  exact ho
theorem oOK.at {V : PV} {a : Nat} {n x o : Int32} (h : oOK f t V) (g : G3 D L kd tys s f0 md ma f H locs fx) (k0 k1 : Nat) (e0 : fx[k0]? = some (14, 30, t, .int n)) (e1 : fx[k1]? = some (14, 27, t, .ref a)) (h0 : 0 ≤ o.toInt) (h1 : o.toInt < n.toInt) (hx : x = aI f a o.toNatClampNeg) : okc V x := by
  have q0 := (fx_at g e0).2.2.2
  have q1 := (fx_at g e1).2.2.2
  simp only at q0 q1
  have h2 := (h n q0).at h0 h1
  simp only [rf_eq q1] at h2
  rw [hx]
  exact h2
theorem mOK.put {V : PV} {a q : Nat} {f1 : Nat → va_E} {i x : Int32} (h : mOK f q V) (g : G3 D L kd tys s f0 md ma f H locs fx) (k0 : Nat) (e : fx[k0]? = some (12, 59, q, .ref a)) (hk : kd q = 12) (ha : kd a = 211) (u : uA f f1 a i.toNatClampNeg x) (hx : x.toInt = -1 ∨ okc V x) : mOK f1 q V := fun j hj => by
  have e59 := (fx_at g e).2.2.2
  simp only at e59
  have hta : q ≠ a := fun z => by rw [z] at hk; omega
  rw [uA_own u hta e59]
  by_cases hji : j = i.toNatClampNeg
  · rw [if_pos hji]
    exact hx
  · rw [if_neg hji]
    exact h j hj
end PVU
def PV.ui (V : PV) (j k : Nat) (x : Int32) : PV := (fun j' k' => if j' = j ∧ k' = k then x else V.i j' k', V.l, V.n)
def PV.ul (V : PV) (j k : Nat) (x : Int64) : PV := (V.i, fun j' k' => if j' = j ∧ k' = k then x else V.l j' k', V.n)
def PV.un (V : PV) (j : Nat) (x : Int32) : PV := (V.i, V.l, fun j' => if j' = j then x else V.n j')
def isArr (j : Nat) : Bool := match (FS 12)[j]? with
  | some (2, _, _) => true
  | _ => false
def kJ (j : Nat) : Int := match (FS 12)[j]? with
  | some (2, a, _) => a
  | _ => 0
theorem arr_lt {j : Nat} (h : isArr j = true) : j < 60 := by
  unfold isArr at h
  split at h
  · rename_i hs
    exact (List.getElem?_eq_some_iff.mp hs).1
  · cases h
theorem arr_all : ∀ j, j < 60 → isArr j = true → (FS 12)[j]? = some ((2, kJ j, kJ j) : rS) ∧ 157 ≤ kJ j ∧ kJ j ≤ 211 := by decide +kernel
theorem kJ_inj : ∀ j, j < 60 → ∀ k, k < 60 → isArr j = true → isArr k = true → kJ j = kJ k → j = k := by decide +kernel
theorem jIL_arr {j : Nat} (h : (jI j || jL j) = true) : isArr j = true := by
  have h1 := chk_all h
  unfold chkJ at h1
  unfold isArr
  split at h1
  · rfl
  · cases h1
theorem jI_jL {j : Nat} (h : jI j = true) (h' : jL j = true) : False := by
  unfold jI at h
  unfold jL at h'
  simp at h h'
  omega
section PVW
variable {p : Program} {l : Launch} {e : Env} {R : Room} {s : State} {m : MethodId} {args : Array Value} {below : List Frame} {meth : Method} {c : Code} {H : Heap} {locs : List Loc} {cells slots : Nat} {Q : State → Prop} {cc : ByteArray} {pc : Nat} {ls : Array Slot} {rest : List Value} {D : va_G} {tys : List (ClassId × FieldType)} {L : List Nat} {kd : Nat → Nat} {f0 f f1 f2 : Nat → va_E} {md : List (Nat × Nat)} {ma : List Nat} {fx : List Fct} {a q : Nat} {V : PV}
theorem prog_arr (hW : WT L kd tys f) (hq : q ∈ L) (hk : kd q = 12) {j : Nat} (h : isArr j = true) : ∃ b, fV f q j = .ref b ∧ b ∈ L ∧ (kd b : Int) = kJ j := by
  obtain ⟨h1, -, -⟩ := arr_all j (arr_lt h) h
  obtain ⟨b, b1, b2, b3, b4⟩ := ref_of hW hq hk (by decide) h1
  exact ⟨b, b1, b2, by omega⟩
/-- another array of the program -/
theorem prog_ne (hW : WT L kd tys f) (hq : q ∈ L) (hk : kd q = 12) {j j' : Nat} (h : isArr j = true) (h' : isArr j' = true) (hne : j' ≠ j) (ha : fV f q j = .ref a) : ∃ b, fV f q j' = .ref b ∧ b ≠ a := by
  obtain ⟨b, b1, b2, b3⟩ := prog_arr hW hq hk h
  obtain ⟨b', c1, c2, c3⟩ := prog_arr hW hq hk h'
  rw [b1] at ha
  cases ha
  refine ⟨b', c1, fun q9 => hne ?_⟩
  subst q9
  exact kJ_inj _ (arr_lt h') _ (arr_lt h) h' h (by omega)
theorem prog_self (hW : WT L kd tys f) (hq : q ∈ L) (hk : kd q = 12) {j : Nat} (h : isArr j = true) (ha : fV f q j = .ref a) : q ≠ a := by
  obtain ⟨b, b1, b2, b3⟩ := prog_arr hW hq hk h
  obtain ⟨-, h2, -⟩ := arr_all j (arr_lt h) h
  rw [b1] at ha
  cases ha
  intro q9
  subst q9
  omega
/-- one element of a row of longs is another -/
def uJ (f f1 : Nat → va_E) (a i : Nat) (x : Int64) : Prop := (∀ b, b ≠ a → f1 b = f b) ∧ ∀ j, aJ f1 a j = if j = i then x else aJ f a j
theorem oth_I {b : Nat} (h : ∀ b, b ≠ a → f1 b = f b) (hb : b ≠ a) (k : Nat) : aI f1 b k = aI f b k := by unfold aI; rw [h b hb]
theorem oth_J {b : Nat} (h : ∀ b, b ≠ a → f1 b = f b) (hb : b ≠ a) (k : Nat) : aJ f1 b k = aJ f b k := by unfold aJ; rw [h b hb]
theorem oth_V {b : Nat} (h : ∀ b, b ≠ a → f1 b = f b) (hb : b ≠ a) (k : Nat) : fV f1 b k = fV f b k := by unfold fV; rw [h b hb]
theorem isV.ui {j i : Nat} {x : Int32} (h : isV f q V) (g : G3 D L kd tys s f0 md ma f H locs fx) (k0 : Nat) (e : fx[k0]? = some (12, j, q, .ref a)) (hq : q ∈ L) (hk : kd q = 12) (hj : jI j = true) (u : uA f f1 a i x) : isV f1 q (V.ui j i x) := by
  have ha := (fx_at g e).2.2.2
  simp only at ha
  have hW := g.2.2.2.1
  have hA : isArr j = true := jIL_arr (by rw [hj]; rfl)
  have hqa := prog_self hW hq hk hA ha
  have hr : ∀ k, rf f1 q k = rf f q k := fun k => by unfold rf; rw [oth_V u.1 hqa]
  refine ⟨fun j' hj' k => ?_, fun j' hj' k => ?_, fun j' hj' => ?_⟩
  · rw [hr]
    simp only [PV.ui, PV.i]
    by_cases hjj : j' = j
    · subst hjj
      rw [rf_eq ha, u.2]
      by_cases hki : k = i
      · rw [if_pos hki, if_pos ⟨rfl, hki⟩]
      · rw [if_neg hki, if_neg (fun q9 => hki q9.2)]
        have := h.1 j' hj' k
        rw [rf_eq ha] at this
        exact this
    · rw [if_neg (fun q9 => hjj q9.1)]
      obtain ⟨b, b1, b2⟩ := prog_ne hW hq hk hA (jIL_arr (by rw [hj']; rfl)) hjj ha
      have := h.1 j' hj' k
      rw [rf_eq b1] at this ⊢
      rw [oth_I u.1 b2]
      exact this
  · rw [hr]
    obtain ⟨b, b1, b2⟩ := prog_ne hW hq hk hA (jIL_arr (by rw [hj']; exact Bool.or_true _)) (fun q9 => by subst q9; exact jI_jL hj hj') ha
    have := h.2.1 j' hj' k
    rw [rf_eq b1] at this ⊢
    rw [oth_J u.1 b2]
    exact this
  · rw [oth_V u.1 hqa]
    exact h.2.2 j' hj'
theorem isV.ul {j i : Nat} {x : Int64} (h : isV f q V) (g : G3 D L kd tys s f0 md ma f H locs fx) (k0 : Nat) (e : fx[k0]? = some (12, j, q, .ref a)) (hq : q ∈ L) (hk : kd q = 12) (hj : jL j = true) (u : uJ f f1 a i x) : isV f1 q (V.ul j i x) := by
  have ha := (fx_at g e).2.2.2
  simp only at ha
  have hW := g.2.2.2.1
  have hA : isArr j = true := jIL_arr (by rw [hj]; exact Bool.or_true _)
  have hqa := prog_self hW hq hk hA ha
  have hr : ∀ k, rf f1 q k = rf f q k := fun k => by unfold rf; rw [oth_V u.1 hqa]
  refine ⟨fun j' hj' k => ?_, fun j' hj' k => ?_, fun j' hj' => ?_⟩
  · rw [hr]
    obtain ⟨b, b1, b2⟩ := prog_ne hW hq hk hA (jIL_arr (by rw [hj']; rfl)) (fun q9 => by subst q9; exact jI_jL hj' hj) ha
    have := h.1 j' hj' k
    rw [rf_eq b1] at this ⊢
    rw [oth_I u.1 b2]
    exact this
  · rw [hr]
    simp only [PV.ul, PV.l]
    by_cases hjj : j' = j
    · subst hjj
      rw [rf_eq ha, u.2]
      by_cases hki : k = i
      · rw [if_pos hki, if_pos ⟨rfl, hki⟩]
      · rw [if_neg hki, if_neg (fun q9 => hki q9.2)]
        have := h.2.1 j' hj' k
        rw [rf_eq ha] at this
        exact this
    · rw [if_neg (fun q9 => hjj q9.1)]
      obtain ⟨b, b1, b2⟩ := prog_ne hW hq hk hA (jIL_arr (by rw [hj']; exact Bool.or_true _)) hjj ha
      have := h.2.1 j' hj' k
      rw [rf_eq b1] at this ⊢
      rw [oth_J u.1 b2]
      exact this
  · rw [oth_V u.1 hqa]
    exact h.2.2 j' hj'
/-- an array of the program that the view doesn't show -/
theorem isV.uo {j : Nat} (h : isV f q V) (g : G3 D L kd tys s f0 md ma f H locs fx) (k0 : Nat) (e : fx[k0]? = some (12, j, q, .ref a)) (hq : q ∈ L) (hk : kd q = 12) (hA : isArr j = true) (hj : (jI j || jL j) = false) (u : ∀ b, b ≠ a → f1 b = f b) : isV f1 q V := by
  have ha := (fx_at g e).2.2.2
  simp only at ha
  have hW := g.2.2.2.1
  have hqa := prog_self hW hq hk hA ha
  have hr : ∀ k, rf f1 q k = rf f q k := fun k => by unfold rf; rw [oth_V u hqa]
  refine ⟨fun j' hj' k => ?_, fun j' hj' k => ?_, fun j' hj' => ?_⟩
  · rw [hr]
    obtain ⟨b, b1, b2⟩ := prog_ne hW hq hk hA (jIL_arr (by rw [hj']; rfl)) (fun q9 => by subst q9; rw [hj'] at hj; cases hj) ha
    have := h.1 j' hj' k
    rw [rf_eq b1] at this ⊢
    rw [oth_I u b2]
    exact this
  · rw [hr]
    obtain ⟨b, b1, b2⟩ := prog_ne hW hq hk hA (jIL_arr (by rw [hj']; exact Bool.or_true _)) (fun q9 => by subst q9; rw [hj', Bool.or_true] at hj; cases hj) ha
    have := h.2.1 j' hj' k
    rw [rf_eq b1] at this ⊢
    rw [oth_J u b2]
    exact this
  · rw [oth_V u hqa]
    exact h.2.2 j' hj'
theorem isArr_n {j : Nat} (h : isArr j = true) : jN j = false ∧ j ≠ 58 := by
  have : ∀ j, j < 60 → isArr j = true → jN j = false ∧ j ≠ 58 := by decide +kernel
  exact this j (arr_lt h) h
/-- a number of the program is another -/
theorem isV.un {k : Nat} {x : Int32} (h : isV f q V) (hW : WT L kd tys f) (hq : q ∈ L) (hk : kd q = 12) (hj : jN k = true) (u : uF f f1 q k (.int x)) : isV f1 q (V.un k x) := by
  have hv : ∀ j, isArr j = true → fV f1 q j = fV f q j := fun j hj' => by rw [u.2, if_neg (fun q9 => by subst q9; rw [(isArr_n hj').1] at hj; cases hj)]
  have hx : ∀ j, (jI j || jL j) = true → rf f1 q j = rf f q j ∧ f1 (rf f q j) = f (rf f q j) := fun j hj' => by
    have hA := jIL_arr hj'
    obtain ⟨b, b1, b2, b3⟩ := prog_arr hW hq hk hA
    refine ⟨by unfold rf; rw [hv j hA], ?_⟩
    rw [rf_eq b1]
    exact u.1 b (Ne.symm (prog_self hW hq hk hA b1))
  refine ⟨fun j' hj' i => ?_, fun j' hj' i => ?_, fun j' hj' => ?_⟩
  · obtain ⟨e1, e2⟩ := hx j' (by rw [hj']; rfl)
    rw [e1]
    have := h.1 j' hj' i
    unfold aI at this ⊢
    rw [e2]
    exact this
  · obtain ⟨e1, e2⟩ := hx j' (by rw [hj']; exact Bool.or_true _)
    rw [e1]
    have := h.2.1 j' hj' i
    unfold aJ at this ⊢
    rw [e2]
    exact this
  · rw [u.2]
    simp only [PV.un, PV.n]
    by_cases hjk : j' = k
    · rw [if_pos hjk, if_pos hjk]
    · rw [if_neg hjk, if_neg hjk]
      exact h.2.2 j' hj'
theorem isV.u58 {v : Value} (h : isV f q V) (hW : WT L kd tys f) (hq : q ∈ L) (hk : kd q = 12) (u : uF f f1 q 58 v) : isV f1 q V := by
  have hx : ∀ j, (jI j || jL j) = true → rf f1 q j = rf f q j ∧ f1 (rf f q j) = f (rf f q j) := fun j hj' => by
    have hA := jIL_arr hj'
    obtain ⟨b, b1, b2, b3⟩ := prog_arr hW hq hk hA
    refine ⟨by unfold rf; rw [u.2, if_neg (isArr_n hA).2], ?_⟩
    rw [rf_eq b1]
    exact u.1 b (Ne.symm (prog_self hW hq hk hA b1))
  refine ⟨fun j' hj' i => ?_, fun j' hj' i => ?_, fun j' hj' => ?_⟩
  · obtain ⟨e1, e2⟩ := hx j' (by rw [hj']; rfl)
    rw [e1]
    have := h.1 j' hj' i
    unfold aI at this ⊢
    rw [e2]
    exact this
  · obtain ⟨e1, e2⟩ := hx j' (by rw [hj']; exact Bool.or_true _)
    rw [e1]
    have := h.2.1 j' hj' i
    unfold aJ at this ⊢
    rw [e2]
    exact this
  · rw [u.2, if_neg (fun q9 => by subst q9; revert hj'; decide)]
    exact h.2.2 j' hj'
def famP (k : Nat) : Bool := k == 12 || (decide (157 ≤ k) && decide (k ≤ 211))
/-- of the programs, only q and its arrays have changed -/
def FR (L : List Nat) (kd : Nat → Nat) (f0 f : Nat → va_E) (q : Nat) : Prop := ∀ b ∈ L, famP (kd b) = true → b ≠ q → (∀ j, fV f0 q j ≠ .ref b) → (100 ≤ kd b → f b = f0 b) ∧ (kd b < 100 → ∀ j, fV f b j = fV f0 b j)
theorem FR.refl : FR L kd f f q := fun _ _ _ _ _ => ⟨fun _ => rfl, fun _ _ => rfl⟩
theorem FR.frame (hM : Md L kd md ma f f1) (hW : WT L kd tys f) (hq : q ∈ L) (hk : kd q = 12) (h1 : (md.all fun x => x.1 != 12) = true) (h2 : (ma.all fun k => !famP k) = true) (h : FR L kd f0 f q) : FR L kd f0 f1 q := fun b hb hf hne hj => by
  obtain ⟨a1, a2⟩ := h b hb hf hne hj
  refine ⟨fun hk1 => ?_, fun hk1 j => ?_⟩
  · rw [← a1 hk1]
    refine (hM b hb).2.1 hk1 (fun hc => ?_)
    have := List.all_eq_true.mp h2 _ hc
    rw [hf] at this
    cases this
  · rw [← a2 hk1 j]
    refine (hM b hb).1 j hk1 (fun hc => ?_)
    have h3 := List.all_eq_true.mp h1 _ hc
    unfold famP at hf
    simp only [Bool.or_eq_true, beq_iff_eq, Bool.and_eq_true, decide_eq_true_eq] at hf
    simp at h3
    omega
/-- the program's own arrays stay where they are -/
def fixQ (md : List (Nat × Nat)) : Bool := md.all fun x => x.1 != 12 || !isArr x.2
theorem q_fix (g : G3 D L kd tys s f0 md ma f H locs fx) (hq : q ∈ L) (hk : kd q = 12) (hm : fixQ md = true) {j : Nat} (hA : isArr j = true) : fV f q j = fV f0 q j := (g.2.2.2.2.2 q hq).1 j (by rw [hk]; decide) (fun hc => by
  have := List.all_eq_true.mp hm _ hc
  rw [hk] at this
  simp [hA] at this)
theorem FR.arr {j : Nat} (h : FR L kd f0 f q) (g : G3 D L kd tys s f0 md ma f H locs fx) (k0 : Nat) (e : fx[k0]? = some (12, j, q, .ref a)) (hq : q ∈ L) (hk : kd q = 12) (hA : isArr j = true) (hm : fixQ md = true) (u : ∀ b, b ≠ a → f1 b = f b) : FR L kd f0 f1 q := fun b hb hf hne hj => by
  have ha := (fx_at g e).2.2.2
  simp only at ha
  have hba : b ≠ a := fun q9 => hj j (by rw [← q_fix g hq hk hm hA, ha, q9])
  obtain ⟨a1, a2⟩ := h b hb hf hne hj
  exact ⟨fun hk1 => (u b hba).trans (a1 hk1), fun hk1 j' => (oth_V u hba j').trans (a2 hk1 j')⟩
theorem FR.fld {k : Nat} {v : Value} (h : FR L kd f0 f q) (u : uF f f1 q k v) : FR L kd f0 f1 q := fun b hb hf hne hj => by
  obtain ⟨a1, a2⟩ := h b hb hf hne hj
  exact ⟨fun hk1 => (u.1 b hne).trans (a1 hk1), fun hk1 j' => (oth_V u.1 hne j').trans (a2 hk1 j')⟩
/-- an object's references are those of its arrays -/
theorem ref_arr (hW : WT L kd tys f) (hq : q ∈ L) (hk : kd q = 12) {j b : Nat} (h : fV f q j = .ref b) : isArr j = true := by
  have h1 := hW q hq
  rw [hk] at h1
  unfold okE at h1
  rw [if_pos (by decide)] at h1
  obtain ⟨fs, e1, e2, e3⟩ := h1
  have e4 : fV f q j = fs.getD j .null := by unfold fV; rw [e1]
  rw [e4] at h
  by_cases hj : j < 60
  · have h5 : ∀ j, j < 60 → isArr j = true ∨ ∃ lo hi : Int, (FS 12)[j]? = some ((0, lo, hi) : rS) := by
      intro j hj
      have : ∀ j, j < 60 → isArr j = true ∨ (FS 12)[j]? = some ((0, ((FS 12).getD j (0, 0, 0)).2.1, ((FS 12).getD j (0, 0, 0)).2.2) : rS) := by decide +kernel
      rcases this j hj with q | q
      · exact Or.inl q
      · exact Or.inr ⟨_, _, q⟩
    rcases h5 j hj with q | ⟨lo, hi, q⟩
    · exact q
    · obtain ⟨x, hx, -⟩ := e3 j _ q
      rw [h] at hx
      cases hx
  · have h6 : fs.length = 60 := by rw [e2]; rfl
    have h7 : fs.getD j .null = .null := by simp [List.getD, List.getElem?_eq_none (show fs.length ≤ j by omega)]
    rw [h7] at h
    cases h
theorem FR.call {mds : List (Nat × Nat)} {mas : List Nat} (h : FR L kd f0 f q) (g : G3 D L kd tys s f0 md ma f H locs fx) (hq : q ∈ L) (hk : kd q = 12) (hm : fixQ md = true) (h1 : FR L kd f f1 q) : FR L kd f0 f1 q := fun b hb hf hne hj => by
  obtain ⟨a1, a2⟩ := h b hb hf hne hj
  obtain ⟨b1, b2⟩ := h1 b hb hf hne (fun j hc => hj j (by rw [← q_fix g hq hk hm (ref_arr g.2.2.2.1 hq hk hc)]; exact hc))
  exact ⟨fun hk1 => (b1 hk1).trans (a1 hk1), fun hk1 j' => (b2 hk1 j').trans (a2 hk1 j')⟩
theorem g_lastX {K n : Nat} {lo hi : Int} {i : Int32} (hx : p.tables.exec = Jvm.exec) (hb : c.code = cc) (hK : va_K D vwCl tys s) (g : G3 D L kd tys s f0 md ma f H locs fx) (ha : a ∈ L) (hk : kd a = K) (hK1 : 100 ≤ K) (hA : AT K = (3, n, lo, hi)) (hin : vp_in i n) {x : Int64} (hma : K ∈ ma) (hdg : decode cc pc = .ok (.lastore, 1)) (kk : ∀ (f1 : Nat → va_E) (H : Heap) (locs : List Loc), Md L kd [] [K] f f1 → uJ f f1 a i.toNatClampNeg x → G3 D L kd tys s f0 md ma f1 H locs fx → W p l e R s m args below meth c H locs cells slots Q (F0 m (pc + 1) ls rest)) : W p l e R s m args below meth c H locs cells slots Q (F0 m pc ls (.long x :: .int i :: .ref a :: rest)) := by
  obtain ⟨q0, h1, h2⟩ := ok_arr g ha hk
  have hq := h1
  rw [okE_l hK1 hA] at h2
  obtain ⟨cA, t0, h, e1, e2⟩ := h2
  rw [e1] at h1
  refine va_last hx hb hK g.1 g.2.1 g.2.2.1 q0 t0 h1 e2 hin hdg (fun H1 locs1 hP1 hD1 hS1 => ?_)
  rw [pl_put g.2.1 ha hq] at hP1 hD1
  refine kk _ H1 locs1 (Md.ast hk hK1) ⟨fun b hb => va_up_ne f _ hb, fun j => ?_⟩ (g.ast ha hk hK1 (by rw [okE_l hK1 hA]; exact ⟨cA, t0, _, rfl, e2⟩) hma hP1 hD1 hS1)
  simp only [aJ, va_up_self, e1, vp_updL]
theorem g_zastX {K n : Nat} {i : Int32} (hx : p.tables.exec = Jvm.exec) (hb : c.code = cc) (hK : va_K D vwCl tys s) (g : G3 D L kd tys s f0 md ma f H locs fx) (ha : a ∈ L) (hk : kd a = K) (hK1 : 100 ≤ K) (hA : AT K = (2, n, 0, 1)) (hin : vp_in i n) {x : Int32} (hxb : bd 0 1 x) (hma : K ∈ ma) (hdg : decode cc pc = .ok (.bastore, 1)) (kk : ∀ (f1 : Nat → va_E) (H : Heap) (locs : List Loc), Md L kd [] [K] f f1 → ((∀ b, b ≠ a → f1 b = f b) ∧ True) → G3 D L kd tys s f0 md ma f1 H locs fx → W p l e R s m args below meth c H locs cells slots Q (F0 m (pc + 1) ls rest)) : W p l e R s m args below meth c H locs cells slots Q (F0 m pc ls (.int x :: .int i :: .ref a :: rest)) := by
  obtain ⟨q0, h1, h2⟩ := ok_arr g ha hk
  have hq := h1
  rw [okE_z hK1 hA] at h2
  obtain ⟨cA, t0, h, e1, e2, e3⟩ := h2
  rw [e1] at h1
  refine va_zast hx hb hK g.1 g.2.1 g.2.2.1 q0 t0 h1 e2 hin hdg (fun H1 locs1 hP1 hD1 hS1 => ?_)
  rw [pl_put g.2.1 ha hq] at hP1 hD1
  exact kk _ H1 locs1 (Md.ast hk hK1) ⟨fun b hb => va_up_ne f _ hb, trivial⟩ (g.ast ha hk hK1 (by rw [okE_z hK1 hA]; exact okI_up e2 e3 (by rw [vp_nar_z hxb]; exact hxb)) hma hP1 hD1 hS1)
end PVW
/-- the nodes ahead of b are whole -/
def wfN (V : PV) (b : Int) : Prop := ∀ n : Nat, (n : Int) < b → nodeOK V n
/-- V1 has V's nodes and maybe more; the rest is V's (but how many statements a member has) -/
def exN (V V1 : PV) : Prop := (∀ j, j ≠ 24 → (j < 47 ∨ 54 < j) → V1.i j = V.i j) ∧ (∀ j, j ≠ 55 → j ≠ 56 → V1.l j = V.l j) ∧ (∀ j, j ≠ 57 → V1.n j = V.n j) ∧ (V.n 57).toInt ≤ (V1.n 57).toInt ∧
  ∀ n : Nat, (n : Int) < (V.n 57).toInt → (∀ j, 47 ≤ j → j ≤ 54 → j ≠ 53 → V1.i j n = V.i j n) ∧ (∀ k, k < 3 → V1.i 53 (3 * n + k) = V.i 53 (3 * n + k)) ∧ V1.l 55 n = V.l 55 n ∧ V1.l 56 n = V.l 56 n
theorem exN.rf {V : PV} : exN V V := ⟨fun _ _ _ => rfl, fun _ _ _ => rfl, fun _ _ => rfl, Int.le_refl _, fun _ _ => ⟨fun _ _ _ _ => rfl, fun _ _ => rfl, rfl, rfl⟩⟩
theorem exN.tr {V V1 V2 : PV} (h : exN V V1) (h1 : exN V1 V2) : exN V V2 := by
  obtain ⟨a1, a2, a3, a4, a5⟩ := h
  obtain ⟨b1, b2, b3, b4, b5⟩ := h1
  refine ⟨fun j q r => (b1 j q r).trans (a1 j q r), fun j q r => (b2 j q r).trans (a2 j q r), fun j q => (b3 j q).trans (a3 j q), Int.le_trans a4 b4, fun n hn => ?_⟩
  obtain ⟨c1, c2, c3, c4⟩ := a5 n hn
  obtain ⟨d1, d2, d3, d4⟩ := b5 n (by omega)
  exact ⟨fun j q r t => (d1 j q r t).trans (c1 j q r t), fun k q => (d2 k q).trans (c2 k q), d3.trans c3, d4.trans c4⟩
theorem exN.fnd_ {V V1 : PV} (h : exN V V1) {c : Nat} {a b : Int64} : fnd V1 c a b ↔ fnd V c a b := by
  unfold fnd
  rw [h.1 15 (by decide) (by decide), h.1 14 (by decide) (by decide), h.2.1 16 (by decide) (by decide), h.2.1 17 (by decide) (by decide)]
theorem exN.ev {V V1 : PV} (h : exN V V1) {x : Int32} {k : Int} {d : Nat} (hE : EV V x k d) : EV V1 x k d := by
  obtain ⟨h1, h2, h3, h4⟩ := hE
  have e := (h.2.2.2.2 x.toNatClampNeg (by rw [tnZ h1]; exact h2)).1
  have h5 := h.2.2.2.1
  exact ⟨h1, by omega, by rw [e 51 (by decide) (by decide) (by decide)]; exact h3, by rw [e 54 (by decide) (by decide) (by decide)]; exact h4⟩
theorem exN.node {V V1 : PV} (h : exN V V1) {n : Nat} (hn : (n : Int) < (V.n 57).toInt) (hw : wfN V (V.n 57).toInt) : nodeOK V1 n := by
  obtain ⟨e1, e2, e3, e4⟩ := h.2.2.2.2 n hn
  have i47 := e1 47 (by decide) (by decide) (by decide)
  have i48 := e1 48 (by decide) (by decide) (by decide)
  have i49 := e1 49 (by decide) (by decide) (by decide)
  have i50 := e1 50 (by decide) (by decide) (by decide)
  have i51 := e1 51 (by decide) (by decide) (by decide)
  have i52 := e1 52 (by decide) (by decide) (by decide)
  have i54 := e1 54 (by decide) (by decide) (by decide)
  have i4 := h.1 4 (by decide) (by decide)
  have i3 := h.1 3 (by decide) (by decide)
  have n0 := h.2.2.1 0 (by decide)
  obtain ⟨a1, a2, a3, a4, a5, a6, a7, a8, a9, a10, a11⟩ := hw n hn
  unfold nodeOK
  rw [i47, i48, i49, i50, i51, i52, i54, i3, n0, e3, e4]
  refine ⟨a1, a2, a3, fun q => ?_, fun q => ⟨(a5 q).1, fun k hk => ?_⟩, fun q => h.fnd_.mpr (a6 q), fun q => ⟨(a7 q).1, h.fnd_.mpr (a7 q).2⟩, fun q => ⟨h.ev (a8 q).1, ?_⟩, a9, fun q => h.ev (a10 q), fun q => h.ev (a11 q)⟩
  · obtain ⟨q1, q2⟩ := a4 q
    refine ⟨?_, q2.imp id h.ev⟩
    unfold varOK
    rw [i4]
    exact q1
  · have h9 := (a5 q).1
    rw [e2 k (by omega)]
    exact h.ev ((a5 q).2 k hk)
  · have hx := (a8 q).1
    rw [(h.2.2.2.2 (V.i 48 n).toNatClampNeg (by rw [tnZ hx.1]; exact hx.2.1)).1 47 (by decide) (by decide) (by decide)]
    exact (a8 q).2
/-- a node more: n, with all that is said of it -/
def NN (V V1 : PV) (n op x y va h mn o : Int32) (a b : Int64) : Prop := exN V V1 ∧ n = V.n 57 ∧ (V1.n 57).toInt = n.toInt + 1 ∧ V1.i 47 n.toNatClampNeg = op ∧ V1.i 48 n.toNatClampNeg = x ∧ V1.i 49 n.toNatClampNeg = y ∧ V1.i 50 n.toNatClampNeg = va ∧ V1.i 51 n.toNatClampNeg = h ∧ V1.i 52 n.toNatClampNeg = mn ∧ V1.i 54 n.toNatClampNeg = o ∧ V1.l 55 n.toNatClampNeg = a ∧ V1.l 56 n.toNatClampNeg = b
theorem ui_same {V : PV} {j k : Nat} {x : Int32} : (V.ui j k x).i j k = x := by simp only [PV.ui, PV.i, and_self, if_true]
theorem ui_ne {V : PV} {j k j' k' : Nat} {x : Int32} (h : j' ≠ j ∨ k' ≠ k) : (V.ui j k x).i j' k' = V.i j' k' := by
  simp only [PV.ui, PV.i]
  rw [if_neg (fun q => by rcases h with h | h; exact h q.1; exact h q.2)]
theorem ui_row {V : PV} {j k j' : Nat} {x : Int32} (h : j' ≠ j) : (V.ui j k x).i j' = V.i j' := funext fun k' => ui_ne (Or.inl h)
theorem ul_same {V : PV} {j k : Nat} {x : Int64} : (V.ul j k x).l j k = x := by simp only [PV.ul, PV.l, and_self, if_true]
theorem ul_ne {V : PV} {j k j' k' : Nat} {x : Int64} (h : j' ≠ j ∨ k' ≠ k) : (V.ul j k x).l j' k' = V.l j' k' := by
  simp only [PV.ul, PV.l]
  rw [if_neg (fun q => by rcases h with h | h; exact h q.1; exact h q.2)]
theorem ul_row {V : PV} {j k j' : Nat} {x : Int64} (h : j' ≠ j) : (V.ul j k x).l j' = V.l j' := funext fun k' => ul_ne (Or.inl h)
theorem un_same {V : PV} {j : Nat} {x : Int32} : (V.un j x).n j = x := by simp only [PV.un, PV.n, if_true]
theorem un_ne {V : PV} {j j' : Nat} {x : Int32} (h : j' ≠ j) : (V.un j x).n j' = V.n j' := by
  simp only [PV.un, PV.n]
  rw [if_neg h]
def PV.nd (V : PV) (n : Nat) (op x y va h mn o : Int32) (a b : Int64) (n1 : Int32) : PV := (((((((((V.ui 47 n op).ui 48 n x).ui 49 n y).ui 50 n va).ui 51 n h).ui 52 n mn).ui 54 n o).ul 55 n a).ul 56 n b).un 57 n1
theorem nd_i {V : PV} {n : Nat} {op x y va h mn o : Int32} {a b : Int64} {n1 : Int32} (j k : Nat) : (V.nd n op x y va h mn o a b n1).i j k = if k = n then (if j = 54 then o else if j = 52 then mn else if j = 51 then h else if j = 50 then va else if j = 49 then y else if j = 48 then x else if j = 47 then op else V.i j k) else V.i j k := by
  simp only [PV.nd, PV.ui, PV.ul, PV.un, PV.i]
  by_cases hk : k = n
  · simp only [hk, and_true, if_true]
  · simp only [hk, and_false, if_false]
theorem nd_l {V : PV} {n : Nat} {op x y va h mn o : Int32} {a b : Int64} {n1 : Int32} (j k : Nat) : (V.nd n op x y va h mn o a b n1).l j k = if k = n then (if j = 56 then b else if j = 55 then a else V.l j k) else V.l j k := by
  simp only [PV.nd, PV.ui, PV.ul, PV.un, PV.l]
  by_cases hk : k = n
  · simp only [hk, and_true, if_true]
  · simp only [hk, and_false, if_false]
theorem nd_NN {V : PV} {n op x y va h mn o n1 : Int32} {a b : Int64} (hn : n = V.n 57) (h0 : 0 ≤ n.toInt) (h1 : n1.toInt = n.toInt + 1) : NN V (V.nd n.toNatClampNeg op x y va h mn o a b n1) n op x y va h mn o a b := by
  have t0 := tnZ h0
  have hv : (V.n 57).toInt = n.toInt := by rw [← hn]
  have hnn : (V.nd n.toNatClampNeg op x y va h mn o a b n1).n 57 = n1 := by simp only [PV.nd, PV.un, PV.n, if_true]
  refine ⟨⟨fun j q r => funext fun k => ?_, fun j q r => funext fun k => ?_, fun j q => ?_, ?_, fun k hk => ⟨fun j q r t => ?_, fun k' hk' => ?_, ?_, ?_⟩⟩, hn, ?_, ?_, ?_, ?_, ?_, ?_, ?_, ?_, ?_, ?_⟩
  · rw [nd_i]
    by_cases hkn : k = n.toNatClampNeg
    · rw [if_pos hkn, if_neg (by omega), if_neg (by omega), if_neg (by omega), if_neg (by omega), if_neg (by omega), if_neg (by omega), if_neg (by omega)]
    · rw [if_neg hkn]
  · rw [nd_l]
    by_cases hkn : k = n.toNatClampNeg
    · rw [if_pos hkn, if_neg r, if_neg q]
    · rw [if_neg hkn]
  · simp only [PV.nd, PV.ui, PV.ul, PV.un, PV.n]
    rw [if_neg q]
  · rw [hnn, ← hn]
    omega
  · rw [nd_i, if_neg (by omega)]
  · rw [nd_i]
    split
    · rfl
    · rfl
  · rw [nd_l, if_neg (by omega)]
  · rw [nd_l, if_neg (by omega)]
  · rw [hnn]; exact h1
  all_goals first | (rw [nd_i, if_pos rfl]; rfl) | (rw [nd_l, if_pos rfl]; rfl)
theorem NN.wf {V V1 : PV} {n op x y va h mn o : Int32} {a b : Int64} (hN : NN V V1 n op x y va h mn o a b) (hw : wfN V (V.n 57).toInt) : wfN V1 n.toInt := fun k hk => by
  have hn := hN.2.1
  exact hN.1.node (by rw [← hn]; exact hk) hw
theorem wf_add {V V1 : PV} {n op x y va h mn o : Int32} {a b : Int64} (hN : NN V V1 n op x y va h mn o a b) (h0 : 0 ≤ n.toInt) (hw : wfN V (V.n 57).toInt) (hk : nodeOK V1 n.toNatClampNeg) : wfN V1 (V1.n 57).toInt := fun k hk' => by
  have t0 := tnZ h0
  have h1 := hN.2.2.1
  by_cases hkn : (k : Int) < n.toInt
  · exact hN.wf hw k hkn
  · have : k = n.toNatClampNeg := by omega
    subst this
    exact hk
/-- the tokens begun -/
def tk (f : Nat → va_E) (t : Nat) : Int := match fV f t 10 with
  | .int x => x.toInt
  | _ => 0
/-- 1 where a token stands, 0 at the end of the text -/
def sE (f : Nat → va_E) (t : Nat) : Int := match fV f t 6 with
  | .int x => if x.toInt = 5 then 0 else 1
  | _ => 0
/-- the tokens that are left behind -/
def cF (f : Nat → va_E) (t : Nat) : Int := tk f t - sE f t
section PVY
variable {s : State} {H : Heap} {locs : List Loc} {D : va_G} {tys : List (ClassId × FieldType)} {L : List Nat} {kd : Nat → Nat} {f0 f f1 : Nat → va_E} {md : List (Nat × Nat)} {ma : List Nat} {fx : List Fct} {t : Nat}
def cEq (f : Nat → va_E) (t : Nat) (E : Int) : Prop := cF f t = E
theorem cEq.frame {E : Int} (hM : Md L kd md ma f f1) (hW : WT L kd tys f) (hq : t ∈ L) (hk : kd t = 14) (h1 : ((md.all fun y => y != (14, 6)) && (md.all fun y => y != (14, 10))) = true) (h2 : (ma.all fun _ => true) = true) (h : cEq f t E) : cEq f1 t E := by
  simp only [Bool.and_eq_true] at h1
  have e1 : fV f1 t 6 = fV f t 6 := (hM t hq).1 6 (by rw [hk]; decide) (by rw [hk]; exact not_all h1.1)
  have e2 : fV f1 t 10 = fV f t 10 := (hM t hq).1 10 (by rw [hk]; decide) (by rw [hk]; exact not_all h1.2)
  unfold cEq cF tk sE at h ⊢
  rw [e1, e2]
  exact h
def tEq (f : Nat → va_E) (t : Nat) (E : Int) : Prop := tk f t = E
theorem tEq.frame {E : Int} (hM : Md L kd md ma f f1) (hW : WT L kd tys f) (hq : t ∈ L) (hk : kd t = 14) (h1 : (md.all fun y => y != (14, 10)) = true) (h2 : (ma.all fun _ => true) = true) (h : tEq f t E) : tEq f1 t E := by
  have e2 : fV f1 t 10 = fV f t 10 := (hM t hq).1 10 (by rw [hk]; decide) (by rw [hk]; exact not_all h1)
  unfold tEq tk at h ⊢
  rw [e2]
  exact h
theorem tk_c : tk f t = cF f t + sE f t := by unfold cF; omega
theorem sE_bd : 0 ≤ sE f t ∧ sE f t ≤ 1 := by
  unfold sE
  split
  · split <;> omega
  · omega
theorem sE_1 {y : Int32} (g : G3 D L kd tys s f0 md ma f H locs fx) (k0 : Nat) (e : fx[k0]? = some (14, 6, t, .int y)) (h : y.toInt ≠ 5) : sE f t = 1 := by
  have q := (fx_at g e).2.2.2
  simp only at q
  unfold sE
  rw [q]
  simp only
  rw [if_neg h]
theorem cF_end {x y t0 : Int32} (h0 : fV f0 t 10 = .int t0) (g : G3 D L kd tys s f0 md ma f H locs fx) (k0 k1 : Nat) (e10 : fx[k0]? = some (14, 10, t, .int x)) (e6 : fx[k1]? = some (14, 6, t, .int y)) (h : x.toInt - (if y.toInt = 5 then 0 else 1) = t0.toInt) : cF f t = tk f0 t := by
  have q10 := (fx_at g e10).2.2.2
  have q6 := (fx_at g e6).2.2.2
  simp only at q10 q6
  have h1 : tk f0 t = t0.toInt := by unfold tk; rw [h0]
  rw [h1, ← h]
  unfold cF tk sE
  rw [q10, q6]
theorem cF_max {x : Int32} (g : G3 D L kd tys s f0 md ma f H locs fx) (k0 : Nat) (e10 : fx[k0]? = some (14, 10, t, .int x)) (h : x.toInt ≤ 1202) : cF f t ≤ 1202 := by
  have q10 := (fx_at g e10).2.2.2
  simp only at q10
  have h3 := sE_bd (f := f) (t := t)
  have h1 : tk f t = x.toInt := by unfold tk; rw [q10]
  unfold cF
  omega
end PVY
