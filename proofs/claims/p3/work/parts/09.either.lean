section EITHER
variable {p : Program} {l : Launch} {e : Env} {R : Room} {s : State} {m : MethodId} {args : Array Value} {below : List Frame} {meth : Method} {c : Code} {H : Heap} {locs : List Loc} {cells slots : Nat} {Q : State → Prop}
variable {y : MethodName} {bytes cc : ByteArray} {maxL nL mc ms n index : Nat} {ret : Option FieldType} {ws ws' : List Cond} {rm : Room} {Pc : Array Value → State → Prop} {Qc : Array Value → State → Outcome → State → Prop} {free : Addr → Prop} {Ts : List Cond} {own C : String} {b : Addr} {As rest : List Value} {g : JFrame}
/-- how an invocation that returns or throws has moved things -/
def EndE (first : State) (o : Outcome) (t : State) (L : List Loc) (k n : Nat) : Prop := FrameEnd first o t L k n ∨ FrameEndT first o t L k n
def MQE (below : List Frame) (Qc : Array Value → State → Outcome → State → Prop) (a : Array Value) (s : State) (mc ms : Nat) (free : Addr → Prop) : State → Prop := fun t =>
  ∃ o, t.status = .running ∧ Ended t below o ∧ Qc a s o t ∧ ∃ L, EndE s o t L mc ms ∧ ∀ q ∈ L, free q.base
/-- a contract of a method that returns or throws -/
def MetE (l : Launch) (y : MethodName) (ws : List Cond) (rm : Room) (Pc : Array Value → State → Prop) (Qc : Array Value → State → Outcome → State → Prop) (mc ms : Nat) (free : Addr → Prop) : Prop :=
  MetFree l y (headSpec ws rm) Pc (fun _ _ _ _ _ => True) (fun a st o t => Qc a st o t ∧ ∃ L, EndE st o t L mc ms ∧ ∀ q ∈ L, free q.base)
theorem MQ.toE {a : Array Value} {t : State} (h : MQ below Qc a s mc ms free t) : MQE below Qc a s mc ms free t := by
  obtain ⟨o, h1, h2, h3, L, h4, h5⟩ := h
  exact ⟨o, h1, h2, h3, L, Or.inl h4, h5⟩
theorem W.thenQ {Q' : State → Prop} (h : W p l e R s m args below meth c H locs cells slots Q g) (hq : ∀ t, Q t → Q' t) : W p l e R s m args below meth c H locs cells slots Q' g := fun T hT X => by
  obtain ⟨t, a, b⟩ := h T hT X
  exact ⟨t, a, hq t b⟩
theorem no_tab {c : Code} (h : c.exceptionTable.isEmpty = true) : ∀ x ∈ c.exceptionTable.toList, False := by
  intro x hx
  have h1 : c.exceptionTable = #[] := by simpa using h
  rw [h1] at hx
  simp at hx
theorem MetE.ofW (hy : plainName y.cls = true) (hw : ws = Cond.code y cc maxL ret :: ws')
    (body : ∀ p e s m args below meth c s₁, BodyLoose p l y (headSpec ws rm) cc maxL ret e s m args below meth c s₁ → c.maxLocals = maxL → (∀ x ∈ c.exceptionTable.toList, False) → Pc args s →
      W p l e (headSpec ws rm).room s m args below meth c s.heap [] 0 0 (MQE below Qc args s mc ms free) (entryFrame m args maxL)) : MetE l y ws rm Pc Qc mc ms free := by
  refine MetFree.of_bodyS (code := cc) (maxLocals := maxL) (ret := ret) hy ?_ ?_
  · intro args s m h hn
    obtain ⟨meth, c, h1, h2, h3, h4, h5, h6, -, -⟩ := Cond.code_spec hn (atoms_spec (ws := ws) h _ (by rw [hw]; exact List.mem_cons_self))
    exact ⟨meth, c, h1, h2, h3, h4, h5, h6⟩
  · intro p e s m args below meth c s₁ B hml hP _
    have hh0 : s₁.heap = s.heap := by rw [B.state]; rfl
    have X₀ : Stand p l e (headSpec ws rm).room s m args below meth c s₁ [] 0 0 := Stand.of_body B
    have hempty : ∀ x ∈ c.exceptionTable.toList, False := by
      obtain ⟨meth', c', h1, h2, -, -, -, -, h7, -⟩ := Cond.code_spec B.named (atoms_spec (ws := ws) B.pre _ (by rw [hw]; exact List.mem_cons_self))
      have e1 : meth = meth' := Option.some.inj (B.method.symm.trans h1)
      subst e1
      have e2 : c = c' := Option.some.inj (X₀.code.symm.trans h2)
      subst e2
      exact no_tab h7
    obtain ⟨t, a1, o, b1, b2, b3⟩ := body p e s m args below meth c s₁ B hml hempty hP s₁ hh0 X₀
    exact ⟨t, o, a1, b1, b2, ⟨b3.1, b3.2⟩⟩
/-- over the frame g lies the note that x is thrown -/
def WX (p : Program) (l : Launch) (e : Env) (R : Room) (s : State) (m : MethodId) (args : Array Value) (below : List Frame) (meth : Method) (c : Code) (H : Heap) (locs : List Loc) (cells slots : Nat) (Q : State → Prop) (g : JFrame) (x : Addr) : Prop :=
  ∀ T : State, T.heap = H → Stand p l e R s m args below meth c T locs cells slots → ∃ t, Steps p.tables e below ((T.setTop g).pushFrame (.throwing x)) t ∧ Q t
theorem e_athrow {pc : Nat} {ls : Array Slot} {a : Addr} (hexec : p.tables.exec = Jvm.exec) (hb : c.code = cc) (hempty : ∀ x ∈ c.exceptionTable.toList, False) (hlocks : meth.locks = false)
    (hq : ∀ t : State, t.heap = H → s.WarmedH t.vm → Qc args s (.threw a) t) (hf : ∀ q ∈ locs, free q.base) (hdg : decode cc pc = .ok (.athrow, 1)) :
    W p l e R s m args below meth c H locs cells slots (MQE below Qc args s cells slots free) (F0 m pc ls (.ref a :: rest)) := by
  intro T hT X
  obtain ⟨h1, h2, h3, h4, h5⟩ := X.athrowLeaves hexec (g := F0 m pc ls (.ref a :: rest)) rfl rfl rfl (fun x hx => (hempty x hx).elim) rfl (by rw [hb]; exact hdg) hlocks
  exact ⟨_, h1, .threw a, h2, h3, hq _ hT h4, locs, Or.inr ⟨⟨_, rfl⟩, h4, h5⟩, hf⟩
theorem WX.leaves {pc : Nat} {ls : Array Slot} {a : Addr} (hempty : ∀ x ∈ c.exceptionTable.toList, False) (hlocks : meth.locks = false)
    (hq : ∀ t : State, t.heap = H → s.WarmedH t.vm → Qc args s (.threw a) t) (hf : ∀ q ∈ locs, free q.base) :
    WX p l e R s m args below meth c H locs cells slots (MQE below Qc args s cells slots free) (F0 m pc ls rest) a := by
  intro T hT X
  obtain ⟨h1, h2, h3, h4, h5⟩ := X.leaveThrown a (g := F0 m pc ls rest) rfl rfl rfl (fun x hx => (hempty x hx).elim) hlocks
  exact ⟨_, h1, .threw a, h2, h3, hq _ hT h4, locs, Or.inr ⟨⟨_, rfl⟩, h4, h5⟩, hf⟩
/-- what the caller finds behind a call that returns or throws -/
theorem comeE {len : Nat} {ig : Instr} {mk : MethodId} {a : Array Value} {T : State} (hM : MetE l y ws rm Pc Qc mc ms free) (X : Stand p l e R s m args below meth c T locs cells slots)
    (hframes : rm.frames + 1 ≤ R.frames) (hlocals : 8 + (maxL + 11) + rm.locals ≤ R.locals) (hrc : rm.cells = mc) (hrs : rm.slots = ms)
    (hws : ∀ w ∈ ws, w.before a T = true) (hcode : (Cond.code y bytes maxL ret).before a T = true) (hini : (Cond.initialized y.cls).before a T = true) (hc1 : cells + mc ≤ R.cells) (hs1 : slots + ms ≤ R.slots)
    (hg : g.method = m) (hsize : g.locals.size = c.maxLocals) (hdg : decode c.code g.pc = .ok (ig, len)) (hW : 2 * g.monitorRoom + (g.stack.map fun v => v.category).sum ≤ 8) (hn : T.methodNamed? y = some mk) (hP : Pc a (T.calling g mk a)) :
    ∃ (o : Outcome) (t B : State) (L : List Loc), Qc a (T.calling g mk a) o t ∧ B.heap = t.heap ∧ B.vm = t.vm ∧ (∀ q ∈ L, free q.base) ∧ Stand p l e R s m args below meth c B (locs ++ L) (cells + mc) (slots + ms) ∧
      ((∃ v, o = .returned v ∧ Steps p.tables e below (doInvoke e (T.setTop g) [] mk a).1 (B.setTop { g with pc := g.pc + len, stack := v.toList ++ g.stack })) ∨
       (∃ x, o = .threw x ∧ Steps p.tables e below (doInvoke e (T.setTop g) [] mk a).1 ((B.setTop g).pushFrame (.throwing x)))) := by
  obtain ⟨methY, cY, hmY, hcY, -, hlY, -, -, -, -⟩ := Cond.code_spec hn hcode
  obtain ⟨kY, hkY, -⟩ := className_of_methodNamed hn
  have hinitY : kY.init = .initialized := Cond.initialized_spec (findClass_of_methodNamed hn) hkY hini
  have h : At T g.method c below := by rw [hg]; exact X.here
  have happ : (headSpec ws rm).appliesLoose y e.platform (T.calling g mk a) = true :=
    Spec.appliesLoose_calling (g := g) h hdg hn hkY hinitY
      (X.room_calling (g := g) (R' := (headSpec ws rm).room) hsize hmY hcY hframes (by rw [hlY]; show 2 * g.monitorRoom + _ + _ + rm.locals ≤ R.locals; omega) (by rw [show (headSpec ws rm).room.cells = mc from hrc]; exact hc1) (by rw [show (headSpec ws rm).room.slots = ms from hrs]; exact hs1)) (atoms_intro fun w hw => hws w hw)
  obtain ⟨mid, hmid⟩ := h.above
  have hfr : (T.setTop g).frames = (.java g :: mid) ++ below := by rw [State.frames_setTop' g h.top, hmid]; rfl
  obtain ⟨o, t, hsteps, -, hend, hq⟩ := Steps.callFree hM p X.admits X.cas X.clock (acts := []) hfr happ hP trivial
  rw [State.frames_setTop' g h.top] at hend
  obtain ⟨hq1, L, hfe, hL⟩ := (hq : Qc a (T.calling g mk a) o t ∧ ∃ L, EndE (T.calling g mk a) o t L mc ms ∧ ∀ q ∈ L, free q.base)
  have hboth : (T.calling g mk a).WarmedH t.vm ∧ (T.calling g mk a).sameButNew ({ t with vm := (T.calling g mk a).vm } : State) L mc ms := hfe.elim (fun q => q.2) (fun q => q.2)
  obtain ⟨hW₂, e2, q2, q3, q4, q5, q6⟩ := hboth
  have e3 : t = ({ (T.calling g mk a).setFrames t.frames with heap := t.heap, slotsUsed := t.slotsUsed } : State).setVm t.vm := by
    have : t = ({ t with vm := (T.calling g mk a).vm } : State).setVm t.vm := rfl
    rw [e2] at this
    exact this
  have hW' : T.WarmedH t.vm := hW₂
  obtain ⟨g₀, hg0⟩ := Option.isSome_iff_exists.mp h.top
  obtain ⟨r, hr⟩ := State.topJava?_eq_some.mp hg0
  have hr' : (({ T with heap := t.heap, slotsUsed := t.slotsUsed } : State).setVm t.vm).frames = .java g₀ :: r := hr
  have hsame : T.sameButNew ({ T with heap := t.heap, slotsUsed := t.slotsUsed } : State) L mc ms := by
    refine ⟨?_, q2, q3, q4, q5, q6⟩
    obtain ⟨t', ht', -⟩ := State.frames_cons hr
    show ({ T with heap := t.heap, slotsUsed := t.slotsUsed } : State) = { T.setFrames T.frames with heap := t.heap, slotsUsed := t.slotsUsed }
    rw [State.setFrames_self ht']
  subst hg
  refine ⟨o, t, ({ T with heap := t.heap, slotsUsed := t.slotsUsed } : State).setVm t.vm, L, hq1, rfl, rfl, hL,
    ⟨X.admits, X.cas, X.clock, X.frames, X.room, X.hears, X.method, X.code, (X.here.setHeapUsed t.heap t.slotsUsed).setVm hW'.alike, X.tail, State.WarmedH.trans X.warmed hW', X.limits, X.bytes, X.same.trans (hsame.setVm s.vm)⟩, ?_⟩
  rcases hfe with hfe | hfe
  · obtain ⟨v, rfl⟩ := hfe.1
    refine Or.inl ⟨v, rfl, ?_⟩
    obtain ⟨c₂, i₂, len₂, hc₂, hd₂, hf₂⟩ := hend
    have hcc : c₂ = c := by
      have h1 : t.code? g.method = T.code? g.method := by rw [State.code?_eq, State.code?_eq, hW'.alike.method?]
      exact Option.some.inj (hc₂.symm.trans (h1.trans h.code))
    subst hcc
    have hlen : len₂ = len := by rw [hdg] at hd₂; cases hd₂; rfl
    subst hlen
    have hs₂ : t = (({ T with heap := t.heap, slotsUsed := t.slotsUsed } : State).setVm t.vm).setTop { g with pc := g.pc + len₂, stack := v.toList ++ g.stack } := by
      refine e3.trans ?_
      rw [hf₂, State.calling_eq h.top, State.setFrames_setFrames, State.setTop_of_frames _ hr', hr]
      rfl
    rw [← hs₂]
    exact hsteps
  · obtain ⟨x, rfl⟩ := hfe.1
    refine Or.inr ⟨x, rfl, ?_⟩
    have hf₂ : t.frames = .throwing x :: .java g :: T.frames.tail := hend
    have hs₂ : t = ((({ T with heap := t.heap, slotsUsed := t.slotsUsed } : State).setVm t.vm).setTop g).pushFrame (.throwing x) := by
      refine e3.trans ?_
      rw [hf₂, State.calling_eq h.top, State.setFrames_setFrames, State.pushFrame, State.frames_setTop _ hr', State.setTop_of_frames _ hr', State.setFrames_setFrames, hr]
      rfl
    rw [← hs₂]
    exact hsteps
end EITHER
section EITHER2
variable {p : Program} {l : Launch} {e : Env} {R : Room} {s : State} {m : MethodId} {args : Array Value} {below : List Frame} {meth : Method} {c : Code} {H : Heap} {locs : List Loc} {cells slots : Nat} {Q : State → Prop}
variable {y : MethodName} {bytes cc : ByteArray} {maxL nL mc ms n index : Nat} {ret : Option FieldType} {ws ws' : List Cond} {rm : Room} {Pc : Array Value → State → Prop} {Qc : Array Value → State → Outcome → State → Prop} {free : Addr → Prop} {Ts : List Cond} {own C : String} {b : Addr} {As rest st0 : List Value} {pc : Nat} {ls : Array Slot}
/-- a call that returns or throws -/
theorem e_callV (S : CallFix p m c cc nL s args Ts own) (hM : MetE l y ws rm Pc Qc mc ms free) (cw : CallW R s args own C index y bytes maxL ret ws rm mc ms n) (hp : PreV s H C b Pc As)
    (hn : As.length = n) (hsize : ls.size = nL) (hstack : st0 = As.reverse ++ .ref b :: rest) (hW : 2 * (F0 m pc ls st0).monitorRoom + (rest.map fun v => v.category).sum ≤ 8) (hdg : decode cc pc = .ok (.invokevirtual index, 3)) (hf : cells + mc ≤ R.cells ∧ slots + ms ≤ R.slots)
    (kk : ∀ (o : Outcome) (st₀ t B : State) (L : List Loc), st₀.heap = H → Qc (Value.ref b :: As).toArray st₀ o t → B.heap = t.heap → B.vm = t.vm → (∀ q ∈ L, free q.base) → Stand p l e R s m args below meth c B (locs ++ L) (cells + mc) (slots + ms) →
      (∀ v, o = .returned v → ∃ t2, Steps p.tables e below (B.setTop (F0 m (pc + 3) ls (v.toList ++ rest))) t2 ∧ Q t2) ∧ (∀ x, o = .threw x → ∃ t2, Steps p.tables e below ((B.setTop (F0 m pc ls rest)).pushFrame (.throwing x)) t2 ∧ Q t2)) : W p l e R s m args below meth c H locs cells slots Q (F0 m pc ls st0) := by
  obtain ⟨⟨hrc, hrs, hfr, hlo, hws, hcw, hcode, hini, hy, hlen, hl⟩, hin, hse⟩ := cw
  obtain ⟨hx, hb, hml, ho, -⟩ := S
  obtain ⟨hbl, ⟨cellB, hcB, hoB, hclB⟩, hPc⟩ := hp
  intro T hT X
  obtain ⟨mk, methM, hnamed, hmethM, hstM, habM⟩ := Cond.instanceMethod_spec hin
  obtain ⟨methM', cM, hmethM', -, -, -, -, -, -, hsigM⟩ := Cond.code_spec hnamed hcode
  cases hmethM.symm.trans hmethM'
  obtain ⟨c2, r2, m2, q1, q2, q3, q4, kP, hkP, hkPi⟩ := Cond.selects_spec hse
  cases hclB.symm.trans q1
  cases (State.methodFound?_of_named hnamed hy).symm.trans q2
  cases hnamed.symm.trans q3
  have hselP : selectMethod e.platform s.vm cellB.cls mk = .method mk := by rw [Launch.admits_selectMethod X.admits]; exact q4
  obtain ⟨vm₁, X₁, hstep₁⟩ := X.invokevirtual hx ho hl hnamed hmethM hstM hkP hkPi hy (a := b) (cell := cellB) (by rw [hT]; exact hcB)
    (fun z h => by rw [h] at hoB; cases hoB) hselP hmethM habM hkP hkPi (g := F0 m pc ls st0) rfl (argsL := As) (rest := rest) (hn.trans (hlen _ hsigM)) hstack (by rw [hb]; exact hdg)
  have hh1 : (T.setVm vm₁).heap = H := hT
  have hmk : (T.setVm vm₁).methodNamed? y = some mk := X₁.named hnamed
  obtain ⟨o, t, B, L, hq, e1, e2, hL, X', hend⟩ := comeE (a := (Value.ref b :: As).toArray) (g := F0 m pc ls rest) (ig := .invokevirtual index) (len := 3) (mk := mk) (bytes := bytes) (ret := ret) hM X₁ hfr hlo hrc hrs
    (fun w hw => hws w hw _ _ X₁.warmed) (hws _ hcw _ _ X₁.warmed) (word_at X₁.warmed (Or.inl (by first | rfl | simp [Cond.onTables, Cond.keeps, Cond.steady])) hini) hf.1 hf.2 rfl (hsize.trans hml.symm) (by rw [hb]; exact hdg) hW hmk (hbl _ _ _ _ (hPc _ hh1 X₁.warmed))
  obtain ⟨k1, k2⟩ := kk o ((T.setVm vm₁).calling (F0 m pc ls rest) mk (Value.ref b :: As).toArray) t B L hT hq e1 e2 hL X'
  rcases hend with ⟨v, hv, st⟩ | ⟨x, hv, st⟩
  · obtain ⟨t2, a1, b1⟩ := k1 v hv
    exact ⟨t2, hstep₁ _ (fun acts => by rw [doInvoke_state]; exact st.trans a1), b1⟩
  · obtain ⟨t2, a1, b1⟩ := k2 x hv
    exact ⟨t2, hstep₁ _ (fun acts => by rw [doInvoke_state]; exact st.trans a1), b1⟩
end EITHER2
/-- what a contract over the pool says of an end: it returned with what post says, or threw the Stop -/
def q3E (D : va_G) (L : List Nat) (kd : Nat → Nat) (tys : List (ClassId × FieldType)) (md : List (Nat × Nat)) (ma : List Nat) (f0 : Nat → va_E) (sz : Nat) (postR : Option Value → (Nat → va_E) → Prop) (postT : (Nat → va_E) → Prop) : Array Value → State → Outcome → State → Prop := fun _ st oc t =>
  (∃ f : Nat → va_E, ((∃ v, oc = .returned v ∧ postR v f) ∨ ∃ x, oc = .threw x ∧ x ∈ L ∧ kd x = 13 ∧ postT f) ∧ Q3 D L kd tys md ma f0 sz f t) ∧ va_F (pA L sz) st t
def pRi (post : Int32 → (Nat → va_E) → Prop) : Option Value → (Nat → va_E) → Prop := fun v f => ∃ r : Int32, v = some (.int r) ∧ post r f
def pRv (post : (Nat → va_E) → Prop) : Option Value → (Nat → va_E) → Prop := fun v f => v = none ∧ post f
section EITHER3
variable {p : Program} {l : Launch} {e : Env} {R : Room} {s : State} {m : MethodId} {args : Array Value} {below : List Frame} {meth : Method} {c : Code} {H : Heap} {locs : List Loc} {cells slots : Nat} {Q : State → Prop}
variable {y : MethodName} {bytes cc : ByteArray} {maxL nL n index : Nat} {ret : Option FieldType} {ws ws' : List Cond} {rm : Room} {Ts : List Cond} {own C : String} {b : Addr} {As rest st0 : List Value} {pc : Nat} {ls : Array Slot}
variable {D : va_G} {tys : List (ClassId × FieldType)} {L : List Nat} {kd : Nat → Nat} {f0 f : Nat → va_E} {md mds : List (Nat × Nat)} {ma mas : List Nat} {fx fx' : List Fct} {postR : Option Value → (Nat → va_E) → Prop} {postT : (Nat → va_E) → Prop} {Pp : State → Prop}
theorem g_callE (S : CallFix p m c cc nL s args Ts own) (hM : MetE l y ws rm (va_Pc (.ref b :: As) Pp) (q3E D L kd tys mds mas f H.size postR postT) 0 0 (pA L H.size)) (cw : CallW R s args own C index y bytes maxL ret ws rm 0 0 n) (hp : PreV s H C b (va_Pc (.ref b :: As) Pp) As)
    (hn : As.length = n) (hsize : ls.size = nL) (hstack : st0 = As.reverse ++ .ref b :: rest) (hW : 2 * (F0 m pc ls st0).monitorRoom + (rest.map fun v => v.category).sum ≤ 8) (hdg : decode cc pc = .ok (.invokevirtual index, 3)) (hf : cells + 0 ≤ R.cells ∧ slots + 0 ≤ R.slots)
    (g : G3 D L kd tys s f0 md ma f H locs fx) (hK : va_K D vwCl tys s) (hmd : mds.all (fun q => md.contains q) = true) (hma : mas.all (fun q => ma.contains q) = true) (hfx : fx.filter (fun q => !(mds.contains (q.1, q.2.1))) = fx')
    (kkR : ∀ (v : Option Value) (f1 : Nat → va_E) (H1 : Heap) (locs1 : List Loc), postR v f1 → Md L kd mds mas f f1 → G3 D L kd tys s f0 md ma f1 H1 locs1 fx' → W p l e R s m args below meth c H1 locs1 cells slots Q (F0 m (pc + 3) ls (v.toList ++ rest)))
    (kkT : ∀ (x : Nat) (f1 : Nat → va_E) (H1 : Heap) (locs1 : List Loc), x ∈ L → kd x = 13 → postT f1 → Md L kd mds mas f f1 → G3 D L kd tys s f0 md ma f1 H1 locs1 fx' → WX p l e R s m args below meth c H1 locs1 cells slots Q (F0 m pc ls rest) x) : W p l e R s m args below meth c H locs cells slots Q (F0 m pc ls st0) := by
  refine e_callV S hM cw hp hn hsize hstack hW hdg hf (fun o st₀ t B L1 hst hq e1 e2 hL X' => ?_)
  obtain ⟨⟨f1, hor, hq3⟩, hz, hk⟩ := hq
  rw [hst] at hz hk
  have hup : ∀ q, pA L H.size q → pA L s.heap.size q := fun q h => h.elim Or.inl (fun h => Or.inr (Nat.le_trans g.2.2.1.1 h))
  have hS1 : va_S (pA L s.heap.size) s.heap B.heap (locs ++ L1) := ⟨Nat.le_trans g.2.2.1.1 (by rw [e1]; exact hz), fun q h1 h2 => by rw [e1, hk q (Nat.lt_of_lt_of_le h1 g.2.2.1.1) (fun z => h2 (hup q z))]; exact g.2.2.1.2.1 q h1 h2, fun q hq => by
    rcases List.mem_append.mp hq with h | h
    · exact g.2.2.1.2.2 q h
    · exact hup _ (hL q h)⟩
  have g1 := g.call hK e1.symm hq3 hS1 hmd hma hfx
  refine ⟨fun v hv => ?_, fun x hx => ?_⟩
  · rcases hor with ⟨v', hv', hpo⟩ | ⟨x', hx', -⟩
    · rw [hv] at hv'
      cases hv'
      exact kkR v f1 B.heap (locs ++ L1) hpo hq3.2.1 g1 B rfl X'
    · rw [hv] at hx'
      cases hx'
  · rcases hor with ⟨v', hv', hpo⟩ | ⟨x', hx', h1, h2, hpo⟩
    · rw [hx] at hv'
      cases hv'
    · rw [hx] at hx'
      cases hx'
      exact kkT x f1 B.heap (locs ++ L1) h1 h2 hpo hq3.2.1 g1 B rfl X'
theorem g_callEi {post : Int32 → (Nat → va_E) → Prop} (S : CallFix p m c cc nL s args Ts own) (hM : MetE l y ws rm (va_Pc (.ref b :: As) Pp) (q3E D L kd tys mds mas f H.size (pRi post) postT) 0 0 (pA L H.size)) (cw : CallW R s args own C index y bytes maxL ret ws rm 0 0 n) (hp : PreV s H C b (va_Pc (.ref b :: As) Pp) As)
    (hn : As.length = n) (hsize : ls.size = nL) (hstack : st0 = As.reverse ++ .ref b :: rest) (hW : 2 * (F0 m pc ls st0).monitorRoom + (rest.map fun v => v.category).sum ≤ 8) (hdg : decode cc pc = .ok (.invokevirtual index, 3)) (hf : cells + 0 ≤ R.cells ∧ slots + 0 ≤ R.slots)
    (g : G3 D L kd tys s f0 md ma f H locs fx) (hK : va_K D vwCl tys s) (hmd : mds.all (fun q => md.contains q) = true) (hma : mas.all (fun q => ma.contains q) = true) (hfx : fx.filter (fun q => !(mds.contains (q.1, q.2.1))) = fx')
    (kkT : ∀ (x : Nat) (f1 : Nat → va_E) (H1 : Heap) (locs1 : List Loc), x ∈ L → kd x = 13 → postT f1 → Md L kd mds mas f f1 → G3 D L kd tys s f0 md ma f1 H1 locs1 fx' → WX p l e R s m args below meth c H1 locs1 cells slots Q (F0 m pc ls rest) x)
    (kkR : ∀ (r : Int32) (f1 : Nat → va_E) (H1 : Heap) (locs1 : List Loc), post r f1 → Md L kd mds mas f f1 → G3 D L kd tys s f0 md ma f1 H1 locs1 fx' → W p l e R s m args below meth c H1 locs1 cells slots Q (F0 m (pc + 3) ls (.int r :: rest))) : W p l e R s m args below meth c H locs cells slots Q (F0 m pc ls st0) :=
  g_callE S hM cw hp hn hsize hstack hW hdg hf g hK hmd hma hfx (fun v f1 H1 locs1 hpo hM1 g1 => by obtain ⟨r, rfl, hpo⟩ := hpo; exact kkR r f1 H1 locs1 hpo hM1 g1) kkT
theorem g_callEv {post : (Nat → va_E) → Prop} (S : CallFix p m c cc nL s args Ts own) (hM : MetE l y ws rm (va_Pc (.ref b :: As) Pp) (q3E D L kd tys mds mas f H.size (pRv post) postT) 0 0 (pA L H.size)) (cw : CallW R s args own C index y bytes maxL ret ws rm 0 0 n) (hp : PreV s H C b (va_Pc (.ref b :: As) Pp) As)
    (hn : As.length = n) (hsize : ls.size = nL) (hstack : st0 = As.reverse ++ .ref b :: rest) (hW : 2 * (F0 m pc ls st0).monitorRoom + (rest.map fun v => v.category).sum ≤ 8) (hdg : decode cc pc = .ok (.invokevirtual index, 3)) (hf : cells + 0 ≤ R.cells ∧ slots + 0 ≤ R.slots)
    (g : G3 D L kd tys s f0 md ma f H locs fx) (hK : va_K D vwCl tys s) (hmd : mds.all (fun q => md.contains q) = true) (hma : mas.all (fun q => ma.contains q) = true) (hfx : fx.filter (fun q => !(mds.contains (q.1, q.2.1))) = fx')
    (kkT : ∀ (x : Nat) (f1 : Nat → va_E) (H1 : Heap) (locs1 : List Loc), x ∈ L → kd x = 13 → postT f1 → Md L kd mds mas f f1 → G3 D L kd tys s f0 md ma f1 H1 locs1 fx' → WX p l e R s m args below meth c H1 locs1 cells slots Q (F0 m pc ls rest) x)
    (kkR : ∀ (f1 : Nat → va_E) (H1 : Heap) (locs1 : List Loc), post f1 → Md L kd mds mas f f1 → G3 D L kd tys s f0 md ma f1 H1 locs1 fx' → W p l e R s m args below meth c H1 locs1 cells slots Q (F0 m (pc + 3) ls rest)) : W p l e R s m args below meth c H locs cells slots Q (F0 m pc ls st0) :=
  g_callE S hM cw hp hn hsize hstack hW hdg hf g hK hmd hma hfx (fun v f1 H1 locs1 hpo hM1 g1 => by obtain ⟨rfl, hpo⟩ := hpo; exact kkR f1 H1 locs1 hpo hM1 g1) kkT
/-- ends of such a method -/
theorem g_retE {v : Option Value} {t : State} (g : G3 D L kd tys s f0 md ma f H locs fx) (hK : va_K D vwCl tys s) (hpo : postR v f) (ht : t.heap = H) (hW : s.WarmedH t.vm) {a : Array Value} : q3E D L kd tys md ma f0 s.heap.size postR postT a s (.returned v) t := ⟨⟨f, Or.inl ⟨v, rfl, hpo⟩, q3_of g hK ht hW⟩, g.2.2.1.F ht⟩
theorem g_thrE {x : Nat} {t : State} (g : G3 D L kd tys s f0 md ma f H locs fx) (hK : va_K D vwCl tys s) (hx : x ∈ L) (hk : kd x = 13) (hpo : postT f) (ht : t.heap = H) (hW : s.WarmedH t.vm) {a : Array Value} : q3E D L kd tys md ma f0 s.heap.size postR postT a s (.threw x) t := ⟨⟨f, Or.inr ⟨x, rfl, hx, hk, hpo⟩, q3_of g hK ht hW⟩, g.2.2.1.F ht⟩
end EITHER3
