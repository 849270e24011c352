def lenP : List Nat := [65, 47, 18, 112]
def bytP : List (List Int32) := [[99, 108, 97, 115, 115, 32, 97, 98, 111, 118, 101, 32, 105, 110, 116, 32, 107, 101, 112, 116, 32, 109, 101, 109, 98, 101, 114, 32, 105, 110, 32, 110, 101, 101, 100, 115, 32, 103, 105, 118, 101, 115, 32, 116, 104, 114, 111, 119, 115, 32, 119, 104, 101, 110, 32, 111, 110, 108, 121, 32, 112, 117, 114, 101, 32], [108, 101, 116, 32, 105, 102, 32, 101, 108, 115, 101, 32, 119, 104, 105, 108, 101, 32, 114, 101, 116, 117, 114, 110, 32, 116, 104, 114, 111, 119, 32, 111, 108, 100, 32, 114, 101, 115, 117, 108, 116, 32, 115, 105, 122, 101, 32], [40, 41, 123, 125, 91, 93, 44, 59, 46, 61, 60, 62, 43, 45, 42, 47, 37, 33], [99, 108, 97, 115, 115, 32, 97, 98, 111, 118, 101, 32, 105, 110, 116, 32, 107, 101, 112, 116, 32, 109, 101, 109, 98, 101, 114, 32, 105, 110, 32, 110, 101, 101, 100, 115, 32, 103, 105, 118, 101, 115, 32, 116, 104, 114, 111, 119, 115, 32, 119, 104, 101, 110, 32, 111, 110, 108, 121, 32, 112, 117, 114, 101, 32, 108, 101, 116, 32, 105, 102, 32, 101, 108, 115, 101, 32, 119, 104, 105, 108, 101, 32, 114, 101, 116, 117, 114, 110, 32, 116, 104, 114, 111, 119, 32, 111, 108, 100, 32, 114, 101, 115, 117, 108, 116, 32, 115, 105, 122, 101, 32]]
/-- what stands beside the pool: two texts of the program (the signs, the words), statics of the JDK -/
def ap_ (adK adV : Nat → Nat) (A : Nat → Prop) (U : State) (H : Heap) : Prop :=
  (vk_R RX8 93 "(){}[],;.=<>+-*/%!" (adK 2) U ∧ vk_R RX14 109 "class above int kept member in needs gives throws when only pure let if else while return throw old result size " (adK 3) U ∧ va_Nw (.castable RX13 RX13) U) ∧ vk_S 4 lenP bytP adK adV A U H ∧ va_Z RJ0 "COMPACT_STRINGS" "Z" (.int 1) A U H ∧ va_Zq RJ3 "SIOOBE_FORMATTER" "Ljava/util/function/BiFunction;" A U H
theorem ap_.warm {adK adV : Nat → Nat} {A : Nat → Prop} {s U : State} {H : Heap} (hW : s.WarmedH U.vm) (h : ap_ adK adV A s H) : ap_ adK adV A U H := by
  obtain ⟨⟨b1, b2, b3⟩, c1, d1, d2⟩ := h
  exact ⟨⟨vk_R.warm hW b1, vk_R.warm hW b2, va_Nw.warmC hW b3⟩, vk_S.moved hW.alike c1, va_Z.moved hW.alike d1, va_Zq.moved hW.alike d2⟩
theorem ap_.same {adK adV : Nat → Nat} {A : Nat → Prop} {u U : State} {H : Heap} (hv : U.vm = u.vm) (h : ap_ adK adV A u H) : ap_ adK adV A U H := by
  obtain ⟨⟨b1, b2, b3⟩, c1, d1, d2⟩ := h
  have hl : u.vm.Alike U.vm := by rw [hv]; exact Vm.Alike.refl u.vm
  exact ⟨⟨vk_R.same hv b1, vk_R.same hv b2, va_Nw.same rfl hv.symm b3⟩, vk_S.moved hl c1, va_Z.moved hl d1, va_Zq.moved hl d2⟩
theorem ap_.kept {adK adV : Nat → Nat} {A : Nat → Prop} {U : State} {H H1 : Heap} (h : ap_ adK adV A U H) (hq : ∀ a : Nat, a < H.size → ¬ A a → H1[a]? = H[a]?) : ap_ adK adV A U H1 := by
  obtain ⟨b1, c1, d1, d2⟩ := h
  exact ⟨b1, c1.kept hq, d1.kept hq, d2.kept hq⟩
theorem ap_.narrow {adK adV : Nat → Nat} {A B : Nat → Prop} {U : State} {H : Heap} (h : ap_ adK adV A U H) (hAB : ∀ q, B q → A q) : ap_ adK adV B U H := by
  obtain ⟨b1, c1, d1, d2⟩ := h
  exact ⟨b1, c1.narrow hAB, d1.narrow hAB, d2.narrow hAB⟩
def P3A (D : va_G) (L : List Nat) (tys : List (ClassId × FieldType)) (f : Nat → va_E) (sz : Nat) (adK adV : Nat → Nat) (U : State) : Prop := P3 D L tys f sz U ∧ ap_ adK adV (pA L sz) U U.heap
section POOLA
variable {p : Program} {l : Launch} {e : Env} {R : Room} {s : State} {m : MethodId} {args : Array Value} {below : List Frame} {meth : Method} {c : Code} {H : Heap} {locs : List Loc} {cells slots : Nat} {Q : State → Prop} {D : va_G} {tys : List (ClassId × FieldType)} {L : List Nat} {kd : Nat → Nat} {f0 f : Nat → va_E} {md : List (Nat × Nat)} {ma : List Nat} {fx : List Fct} {a : Nat} {adK adV : Nat → Nat}
theorem p3A_blind {av : List Value} {sz : Nat} : FrameBlind (va_Pc av (P3A D L tys f sz adK adV)) := fun a U g mk q => by
  obtain ⟨q0, ⟨q1, qP, qK, qD⟩, qM⟩ := q
  exact ⟨q0, ⟨q1, qP, va_K.moved (u := U) (U := U.calling g mk a) (Vm.Alike.refl U.vm) qK, qD⟩, ap_.same (U := U.calling g mk a) rfl qM⟩
theorem p3A_at (g : G3 D L kd tys s f0 md ma f H locs fx) (hK : va_K D vwCl tys s) (hAm : ap_ adK adV (pA L s.heap.size) s s.heap) {U : State} (hU : U.heap = H) (hW : s.WarmedH U.vm) : P3A D L tys f H.size adK adV U := ⟨p3_at g hK hU hW, by
  rw [hU]
  exact ((hAm.kept g.2.2.1.2.1).narrow (fun q h => h.elim Or.inl (fun h => Or.inr (Nat.le_trans g.2.2.1.1 h)))).warm hW⟩
theorem pre3VA (g : G3 D L kd tys s f0 md ma f H locs fx) (hK : va_K D vwCl tys s) (hAm : ap_ adK adV (pA L s.heap.size) s s.heap) (ha : a ∈ L) {ci : Nat} (hk : kd a = ci) (hci : ci < 100) {q : vw_C} (hc : vwCl[ci]? = some q) {As : List Value} : PreV s H q.1 a (va_Pc (.ref a :: As) (P3A D L tys f H.size adK adV)) As := by
  obtain ⟨q0, fs, h1, -⟩ := g_open g ha hk hci
  exact ⟨p3A_blind, va_recv hK g.1 hc h1, fun U hU hW => ⟨rfl, p3A_at g hK hAm hU hW⟩⟩
theorem pre3SA (g : G3 D L kd tys s f0 md ma f H locs fx) (hK : va_K D vwCl tys s) (hAm : ap_ adK adV (pA L s.heap.size) s s.heap) {As : List Value} : PreS s H (va_Pc As (P3A D L tys f H.size adK adV)) As := ⟨p3A_blind, fun U hU hW => ⟨rfl, p3A_at g hK hAm hU hW⟩⟩
theorem pre3TA (g : G3 D L kd tys s f0 md ma f H locs fx) (hK : va_K D vwCl tys s) (hAm : ap_ adK adV (pA L s.heap.size) s s.heap) (i : Nat) (hi : i < 4) {As : List Value} : PreV s H "java/lang/String" (adK i) (va_Pc (.ref (adK i) :: As) (P3A D L tys f H.size adK adV)) As :=
  ⟨p3A_blind, vk_recv hAm.2.1 hi g.2.2.1, fun U hU hW => ⟨rfl, p3A_at g hK hAm hU hW⟩⟩
theorem zqP {C n d : String} {A : Nat → Prop} {U : State} {H : Heap} (h : va_Zq C n d A U H) : va_Z C n d .null A U H ∨ ∃ t : Nat, va_Z C n d (.ref t) A U H := h
end POOLA
section HANDLERS
variable {p : Program} {l : Launch} {e : Env} {R : Room} {s : State} {m : MethodId} {args : Array Value} {below : List Frame} {meth : Method} {c : Code} {H : Heap} {locs : List Loc} {cells slots : Nat} {Q : State → Prop}
variable {y : MethodName} {bytes cc : ByteArray} {maxL nL mc ms n index : Nat} {ret : Option FieldType} {ws ws' : List Cond} {rm : Room} {Pc : Array Value → State → Prop} {Qc : Array Value → State → Outcome → State → Prop} {free : Addr → Prop} {Ts : List Cond} {own C : String} {b : Addr} {As rest : List Value} {g : JFrame}
theorem WX.caught {pc hp : Nat} {ls : Array Slot} {a : Addr} {own name : String} {sp ep ct : Nat} (hown : s.vm.findClass own = some m.cls)
    (htab : c.exceptionTable.toList.map (fun h => (h.startPc, h.endPc, h.handlerPc, h.catchType)) = [(sp, ep, hp, ct)]) (h1 : sp ≤ pc) (h2 : pc < ep) (h0 : ct ≠ 0)
    (hlink : (Cond.classLink own ct name).before args s = true) (hrecv : ∃ cell : Cell, H[a]? = some cell ∧ cell.vm.isStatics = false ∧ s.vm.findClass name = some cell.cls) (hcast : va_Nw (.castable name name) s)
    (kk : W p l e R s m args below meth c H locs cells slots Q (F0 m hp ls [.ref a])) :
    WX p l e R s m args below meth c H locs cells slots Q (F0 m pc ls rest) a := by
  intro T hT X
  obtain ⟨cell, g1, g2, g3⟩ := hrecv
  obtain ⟨c1, t1, q1, q2, q3⟩ := Cond.castable_spec hcast
  cases q1.symm.trans q2
  cases g3.symm.trans q1
  match hx : c.exceptionTable.toList, htab with
  | [x], htab =>
    simp only [List.map_cons, List.map_nil, List.cons.injEq, Prod.mk.injEq, and_true] at htab
    obtain ⟨e1, e2, e3, e4⟩ := htab
    obtain ⟨vm', X', st⟩ := X.caughtLink a (g := F0 m pc ls rest) rfl hown [] x [] hx (fun y hy => by simp at hy) (by simp only [covers, e1, e2]; simp [F0, h1, h2]) (by rw [e4]; exact h0) (by rw [e4]; exact hlink) g3 (by rw [hT]; exact g1) g2 q3
    obtain ⟨t, a1, b1⟩ := kk (T.setVm vm') hT X'
    refine ⟨t, ?_, b1⟩
    rw [X.pushThrowing_eq]
    refine st t ?_
    rw [e3]
    exact a1
theorem Met.ofWH {hs : List (Nat × Nat × Nat × Nat)} (hy : plainName y.cls = true) (hw : ws = Cond.codeWith y cc maxL ret hs :: ws')
    (body : ∀ p e s m args below meth c s₁, BodyLoose p l y (headSpec ws rm) cc maxL ret e s m args below meth c s₁ → c.maxLocals = maxL → c.exceptionTable.toList.map (fun h => (h.startPc, h.endPc, h.handlerPc, h.catchType)) = hs → Pc args s →
      W p l e (headSpec ws rm).room s m args below meth c s.heap [] 0 0 (MQ below Qc args s mc ms free) (entryFrame m args maxL)) : Met l y ws rm Pc Qc mc ms free := by
  refine MetFree.of_bodyS (code := cc) (maxLocals := maxL) (ret := ret) hy ?_ ?_
  · intro args s m h hn
    obtain ⟨m', meth, c, hname', hmeth, hcode, hbytes, hlocals, -, hret, hlocks, -⟩ := Cond.codeWith_spec (atoms_spec (ws := ws) h _ (by rw [hw]; exact List.mem_cons_self))
    cases hn.symm.trans hname'
    exact ⟨meth, c, hmeth, hcode, hbytes, hlocals, hret, hlocks⟩
  · intro p e s m args below meth c s₁ B hml hP _
    have hh0 : s₁.heap = s.heap := by rw [B.state]; rfl
    have X₀ : Stand p l e (headSpec ws rm).room s m args below meth c s₁ [] 0 0 := Stand.of_body B
    have htab : c.exceptionTable.toList.map (fun h => (h.startPc, h.endPc, h.handlerPc, h.catchType)) = hs := by
      obtain ⟨m', meth', c', hname', h1, h2, -, -, h7, -, -, -⟩ := Cond.codeWith_spec (atoms_spec (ws := ws) B.pre _ (by rw [hw]; exact List.mem_cons_self))
      cases B.named.symm.trans hname'
      have e1 : meth = meth' := Option.some.inj (B.method.symm.trans h1)
      subst e1
      have e2 : c = c' := Option.some.inj (X₀.code.symm.trans h2)
      subst e2
      exact h7
    obtain ⟨t, a1, o, b1, b2, b3⟩ := body p e s m args below meth c s₁ B hml htab hP s₁ hh0 X₀
    exact ⟨t, o, a1, b1, b2, ⟨b3.1, b3.2⟩⟩
theorem callVH {hs : List (Nat × Nat × Nat × Nat)} {T : State} (X : Stand p l e R s m args below meth c T locs cells slots) (hexec : p.tables.exec = Jvm.exec)
    (hown : s.vm.findClass own = some m.cls) (hlink : (Cond.methodLink own index y).before args s = true) (hinst : (Cond.instanceMethod y).before args s = true) (hsel : (Cond.selects C y y).before args s = true)
    (hcode : (Cond.codeWith y bytes maxL ret hs).before args s = true) (hy : y.cls ≠ "java/lang/invoke/MethodHandle" ∧ y.cls ≠ "java/lang/invoke/VarHandle")
    {Wd : Nat} {Pre : Pt → Array Value → Prop} {Post : Pt → Array Value → Option Value → Pt → Prop} (hK : Back l R p e below s args y 3 Wd Pre Post)
    {cellB : Cell} (hcell : T.heap[b]? = some cellB) (hobj : cellB.vm.isStatics = false) (hcls : s.vm.findClass C = some cellB.cls)
    (hg : g.method = m) (hsize : g.locals.size = c.maxLocals) (hlen : ∀ sig, parseMethodDescriptor y.desc = some sig → As.length = sig.parameters.length)
    (hstack : g.stack = As.reverse ++ .ref b :: rest) (hW : 2 * g.monitorRoom + (rest.map fun v => v.category).sum ≤ Wd) (hdg : decode c.code g.pc = .ok (.invokevirtual index, 3))
    (hpre : ∀ vm₁, s.WarmedH vm₁ → Pre ⟨T.setVm vm₁, locs, cells, slots⟩ (Value.ref b :: As).toArray) :
    ∃ (v : Option Value) (vm₁ : Vm) (B : Pt), s.WarmedH vm₁ ∧ Stand p l e R s m args below meth c B.U B.locs B.cells B.slots ∧ Post ⟨T.setVm vm₁, locs, cells, slots⟩ (Value.ref b :: As).toArray v B ∧
      ∀ target, Steps p.tables e below (B.U.setTop { g with pc := g.pc + 3, stack := v.toList ++ rest }) target → Steps p.tables e below (T.setTop g) target := by
  obtain ⟨mk, methM, hnamed, hmethM, hstM, habM⟩ := Cond.instanceMethod_spec hinst
  obtain ⟨mk', methM', cM, hnamed', hmethM', -, -, -, -, -, -, hsigM⟩ := Cond.codeWith_spec hcode
  cases hnamed.symm.trans hnamed'
  cases hmethM.symm.trans hmethM'
  obtain ⟨c2, r2, m2, q1, q2, q3, q4, kP, hkP, hkPi⟩ := Cond.selects_spec hsel
  cases hcls.symm.trans q1
  cases (State.methodFound?_of_named hnamed hy).symm.trans q2
  cases hnamed.symm.trans q3
  have hselP : selectMethod e.platform s.vm cellB.cls mk = .method mk := by rw [Launch.admits_selectMethod X.admits]; exact q4
  obtain ⟨vm₁, X₁, hstep₁⟩ := X.invokevirtual hexec hown hlink hnamed hmethM hstM hkP hkPi hy (a := b) (cell := cellB) hcell
    (fun z h => by rw [h] at hobj; cases hobj) hselP hmethM habM hkP hkPi (g := g) hg (argsL := As) (rest := rest) (hlen _ hsigM) hstack hdg
  obtain ⟨v, B, X', hpost, hsteps⟩ := hK m meth c ⟨T.setVm vm₁, locs, cells, slots⟩ { g with stack := rest } (.invokevirtual index) mk (Value.ref b :: As).toArray X₁ hg hsize hdg hW (X₁.named hnamed) (hpre vm₁ X₁.warmed)
  exact ⟨v, vm₁, B, X₁.warmed, X', hpost, fun target h => hstep₁ _ fun acts => by rw [doInvoke_state]; exact hsteps.trans h⟩
theorem va_runVH {hs : List (Nat × Nat × Nat × Nat)} (S : CallFix p m c cc nL s args Ts own) (hM : Met l y ws rm Pc Qc mc ms free) (hG : GoodIn Ts ws) (hcw : Cond.codeWith y bytes maxL ret hs ∈ ws) (hrc : rm.cells = mc) (hrs : rm.slots = ms) (hfr : rm.frames + 1 ≤ R.frames) (hlo : 8 + (maxL + 11) + rm.locals ≤ R.locals)
    (hini : (Cond.initialized y.cls).before args s = true) (hl : (Cond.methodLink own index y).before args s = true) (hin : (Cond.instanceMethod y).before args s = true) (hse : (Cond.selects C y y).before args s = true)
    (hd : y.cls ≠ "java/lang/invoke/MethodHandle" ∧ y.cls ≠ "java/lang/invoke/VarHandle" ∧ (parseMethodDescriptor y.desc).map (fun d => d.parameters.length) = some n) (hp : PreV s H C b Pc As)
    (hg : g.method = m) (hn : As.length = n) (hsize : g.locals.size = nL) (hstack : g.stack = As.reverse ++ .ref b :: rest) (hW : 2 * g.monitorRoom + (rest.map fun v => v.category).sum ≤ 8) (hdg : decode cc g.pc = .ok (.invokevirtual index, 3)) (hf : cells + mc ≤ R.cells ∧ slots + ms ≤ R.slots) :
    va_Run p l e R s m args below meth c H locs cells slots mc ms g rest (Qc (Value.ref b :: As).toArray) (free) := by
  obtain ⟨hx, hb, hml, ho, hts⟩ := S
  have hws := pay_in hts hG
  have hK : Back l R p e below s args y 3 8 (PreOf R mc ms Pc) (PostOf Qc mc ms free) := by
    refine Back.of_freeWith (handlers := hs) (S := headSpec ws rm) (P := Pc) (K := fun _ _ _ _ _ => True) (Q := fun a st o t => Qc a st o t ∧ ∃ L, FrameEnd st o t L mc ms ∧ ∀ q ∈ L, free q.base) (bytes := bytes) (maxL := maxL) (ret := ret)
      (E := fun a st o t L k n => k = mc ∧ n = ms ∧ ∀ q ∈ L, free q.base) hM hfr hlo ?_ ?_ (fun _ _ _ _ _ _ _ _ _ => trivial) ?_ ?_
    · intro m meth c A a X hp9
      exact ⟨atoms_intro fun w hw => hws w hw _ _ X.warmed, hws _ hcw _ _ X.warmed, word_at X.warmed (Or.inl (by first | rfl | simp [Cond.onTables, Cond.keeps, Cond.steady])) hini, by rw [show (headSpec ws rm).room.cells = mc from hrc]; exact hp9.1, by rw [show (headSpec ws rm).room.slots = ms from hrs]; exact hp9.2.1⟩
    · intro m meth c A a g mk X hp9
      exact hp.1 _ _ _ _ hp9.2.2
    · intro a st o t ⟨hq, L, hF, hL⟩
      exact ⟨L, mc, ms, hF, rfl, rfl, hL⟩
    · intro m meth c A a g mk v t L k n X hp9 hq hF ⟨e1, e2, hL⟩
      subst e1; subst e2
      exact ⟨g, mk, t, L, rfl, rfl, hq.1, rfl, hL, rfl, rfl⟩
  obtain ⟨-, ⟨cellB, hcB, hoB, hclB⟩, hPc⟩ := hp
  intro T hT X
  obtain ⟨v, vm₁, ⟨U', l2, c2, s2⟩, hW₁, X', ⟨g', mk, t, L, e1, e2, hq, h1, hL, h2, h3⟩, st⟩ := callVH X hx (C := C) (bytes := bytes) (maxL := maxL) (ret := ret) (hs := hs) ho hl hin hse (hts _ (hG _ hcw).1) ⟨hd.1, hd.2.1⟩ hK (by rw [hT]; exact hcB) hoB hclB hg (hsize.trans hml.symm) (As := As) (rest := rest) (fun sig h => hn.trans (by have h2 := hd.2.2; rw [h] at h2; exact (Option.some.inj h2).symm)) hstack hW (by rw [hb]; exact hdg)
    (fun vm₁ hW₁ => ⟨hf.1, hf.2, hPc (T.setVm vm₁) hT hW₁⟩)
  dsimp only [Pt.U, Pt.locs, Pt.cells, Pt.slots] at X' e1 e2 h1 h2 h3 st
  subst h1; subst h2; subst h3
  exact ⟨v, (T.setVm vm₁).calling g' mk (Value.ref b :: As).toArray, t, U', L, hT, X', hL, e1, e2, hq, st⟩
end HANDLERS
