section EITHERX
variable {p : Program} {l : Launch} {e : Env} {R : Room} {s : State} {m : MethodId} {args : Array Value} {below : List Frame} {meth : Method} {c : Code} {H : Heap} {locs : List Loc} {cells slots : Nat} {Q : State → Prop}
variable {y : MethodName} {bytes cc : ByteArray} {maxL nL mc ms n index : Nat} {ret : Option FieldType} {ws ws' : List Cond} {rm : Room} {Pc : Array Value → State → Prop} {Qc : Array Value → State → Outcome → State → Prop} {free : Addr → Prop} {Ts : List Cond} {own C : String} {b : Addr} {As rest : List Value} {g : JFrame}
variable {Qx : Array Value → State → Outcome → State → Nat → Nat → Prop}
/-- a contract that tells, behind, how many cells it made -/
def MetX (l : Launch) (y : MethodName) (ws : List Cond) (rm : Room) (Pc : Array Value → State → Prop) (Qx : Array Value → State → Outcome → State → Nat → Nat → Prop) (free : Addr → Prop) : Prop :=
  MetFree l y (headSpec ws rm) Pc (fun _ _ _ _ _ => True) (fun a st o t => ∃ k n, Qx a st o t k n ∧ ∃ L, EndE st o t L k n ∧ ∀ q ∈ L, free q.base)
def MQX (below : List Frame) (Qx : Array Value → State → Outcome → State → Nat → Nat → Prop) (a : Array Value) (s : State) (free : Addr → Prop) : State → Prop := fun t =>
  ∃ o k n, t.status = .running ∧ Ended t below o ∧ Qx a s o t k n ∧ ∃ L, EndE s o t L k n ∧ ∀ q ∈ L, free q.base
theorem MetX.ofW (hy : plainName y.cls = true) (hw : ws = Cond.code y cc maxL ret :: ws')
    (body : ∀ p e s m args below meth c s₁, BodyLoose p l y (headSpec ws rm) cc maxL ret e s m args below meth c s₁ → c.maxLocals = maxL → (∀ x ∈ c.exceptionTable.toList, False) → Pc args s →
      W p l e (headSpec ws rm).room s m args below meth c s.heap [] 0 0 (MQX below Qx args s free) (entryFrame m args maxL)) : MetX l y ws rm Pc Qx free := by
  refine MetFree.of_bodyS (code := cc) (maxLocals := maxL) (ret := ret) hy ?_ ?_
  · intro args s m h hn
    obtain ⟨meth, c, h1, h2, h3, h4, h5, h6, -, -⟩ := Cond.code_spec hn (atoms_spec (ws := ws) h _ (by rw [hw]; exact List.mem_cons_self))
    exact ⟨meth, c, h1, h2, h3, h4, h5, h6⟩
  · intro p e s m args below meth c s₁ B hml hP _
    have hh0 : s₁.heap = s.heap := by rw [B.state]; rfl
    have X₀ : Stand p l e (headSpec ws rm).room s m args below meth c s₁ [] 0 0 := Stand.of_body B
    have hempty : ∀ x ∈ c.exceptionTable.toList, False := by
      obtain ⟨meth', c', h1, h2, -, -, -, -, h7, -⟩ := Cond.code_spec B.named (atoms_spec (ws := ws) B.pre _ (by rw [hw]; exact List.mem_cons_self))
      have e1 : meth = meth' := Option.some.inj (B.method.symm.trans h1)
      subst e1
      have e2 : c = c' := Option.some.inj (X₀.code.symm.trans h2)
      subst e2
      exact no_tab h7
    obtain ⟨t, a1, o, k, n, b1, b2, b3⟩ := body p e s m args below meth c s₁ B hml hempty hP s₁ hh0 X₀
    exact ⟨t, o, a1, b1, b2, ⟨k, n, b3.1, b3.2⟩⟩
theorem comeX {len : Nat} {ig : Instr} {mk : MethodId} {a : Array Value} {T : State} (hM : MetX l y ws rm Pc Qx free) (X : Stand p l e R s m args below meth c T locs cells slots)
    (hframes : rm.frames + 1 ≤ R.frames) (hlocals : 8 + (maxL + 11) + rm.locals ≤ R.locals)
    (hws : ∀ w ∈ ws, w.before a T = true) (hcode : (Cond.code y bytes maxL ret).before a T = true) (hini : (Cond.initialized y.cls).before a T = true) (hc1 : cells + rm.cells ≤ R.cells) (hs1 : slots + rm.slots ≤ R.slots)
    (hg : g.method = m) (hsize : g.locals.size = c.maxLocals) (hdg : decode c.code g.pc = .ok (ig, len)) (hW : 2 * g.monitorRoom + (g.stack.map fun v => v.category).sum ≤ 8) (hn : T.methodNamed? y = some mk) (hP : Pc a (T.calling g mk a)) :
    ∃ (o : Outcome) (t B : State) (L : List Loc) (k n : Nat), Qx a (T.calling g mk a) o t k n ∧ B.heap = t.heap ∧ B.vm = t.vm ∧ (∀ q ∈ L, free q.base) ∧ Stand p l e R s m args below meth c B (locs ++ L) (cells + k) (slots + n) ∧
      ((∃ v, o = .returned v ∧ Steps p.tables e below (doInvoke e (T.setTop g) [] mk a).1 (B.setTop { g with pc := g.pc + len, stack := v.toList ++ g.stack })) ∨
       (∃ x, o = .threw x ∧ Steps p.tables e below (doInvoke e (T.setTop g) [] mk a).1 ((B.setTop g).pushFrame (.throwing x)))) := by
  obtain ⟨methY, cY, hmY, hcY, -, hlY, -, -, -, -⟩ := Cond.code_spec hn hcode
  obtain ⟨kY, hkY, -⟩ := className_of_methodNamed hn
  have hinitY : kY.init = .initialized := Cond.initialized_spec (findClass_of_methodNamed hn) hkY hini
  have h : At T g.method c below := by rw [hg]; exact X.here
  have happ : (headSpec ws rm).appliesLoose y e.platform (T.calling g mk a) = true :=
    Spec.appliesLoose_calling (g := g) h hdg hn hkY hinitY
      (X.room_calling (g := g) (R' := (headSpec ws rm).room) hsize hmY hcY hframes (by rw [hlY]; show 2 * g.monitorRoom + _ + _ + rm.locals ≤ R.locals; omega) hc1 hs1) (atoms_intro fun w hw => hws w hw)
  obtain ⟨mid, hmid⟩ := h.above
  have hfr : (T.setTop g).frames = (.java g :: mid) ++ below := by rw [State.frames_setTop' g h.top, hmid]; rfl
  obtain ⟨o, t, hsteps, -, hend, hq⟩ := Steps.callFree hM p X.admits X.cas X.clock (acts := []) hfr happ hP trivial
  rw [State.frames_setTop' g h.top] at hend
  obtain ⟨k, n, hq1, L, hfe, hL⟩ := (hq : ∃ k n, Qx a (T.calling g mk a) o t k n ∧ ∃ L, EndE (T.calling g mk a) o t L k n ∧ ∀ q ∈ L, free q.base)
  have hboth : (T.calling g mk a).WarmedH t.vm ∧ (T.calling g mk a).sameButNew ({ t with vm := (T.calling g mk a).vm } : State) L k n := hfe.elim (fun q => q.2) (fun q => q.2)
  obtain ⟨hW₂, e2, q2, q3, q4, q5, q6⟩ := hboth
  have e3 : t = ({ (T.calling g mk a).setFrames t.frames with heap := t.heap, slotsUsed := t.slotsUsed } : State).setVm t.vm := by
    have : t = ({ t with vm := (T.calling g mk a).vm } : State).setVm t.vm := rfl
    rw [e2] at this
    exact this
  have hW' : T.WarmedH t.vm := hW₂
  obtain ⟨g₀, hg0⟩ := Option.isSome_iff_exists.mp h.top
  obtain ⟨r, hr⟩ := State.topJava?_eq_some.mp hg0
  have hr' : (({ T with heap := t.heap, slotsUsed := t.slotsUsed } : State).setVm t.vm).frames = .java g₀ :: r := hr
  have hsame : T.sameButNew ({ T with heap := t.heap, slotsUsed := t.slotsUsed } : State) L k n := by
    refine ⟨?_, q2, q3, q4, q5, q6⟩
    obtain ⟨t', ht', -⟩ := State.frames_cons hr
    show ({ T with heap := t.heap, slotsUsed := t.slotsUsed } : State) = { T.setFrames T.frames with heap := t.heap, slotsUsed := t.slotsUsed }
    rw [State.setFrames_self ht']
  subst hg
  refine ⟨o, t, ({ T with heap := t.heap, slotsUsed := t.slotsUsed } : State).setVm t.vm, L, k, n, hq1, rfl, rfl, hL,
    ⟨X.admits, X.cas, X.clock, X.frames, X.room, X.hears, X.method, X.code, (X.here.setHeapUsed t.heap t.slotsUsed).setVm hW'.alike, X.tail, State.WarmedH.trans X.warmed hW', X.limits, X.bytes, X.same.trans (hsame.setVm s.vm)⟩, ?_⟩
  rcases hfe with hfe | hfe
  · obtain ⟨v, rfl⟩ := hfe.1
    refine Or.inl ⟨v, rfl, ?_⟩
    obtain ⟨c₂, i₂, len₂, hc₂, hd₂, hf₂⟩ := hend
    have hcc : c₂ = c := by
      have h1 : t.code? g.method = T.code? g.method := by rw [State.code?_eq, State.code?_eq, hW'.alike.method?]
      exact Option.some.inj (hc₂.symm.trans (h1.trans h.code))
    subst hcc
    have hlen : len₂ = len := by rw [hdg] at hd₂; cases hd₂; rfl
    subst hlen
    have hs₂ : t = (({ T with heap := t.heap, slotsUsed := t.slotsUsed } : State).setVm t.vm).setTop { g with pc := g.pc + len₂, stack := v.toList ++ g.stack } := by
      refine e3.trans ?_
      rw [hf₂, State.calling_eq h.top, State.setFrames_setFrames, State.setTop_of_frames _ hr', hr]
      rfl
    rw [← hs₂]
    exact hsteps
  · obtain ⟨x, rfl⟩ := hfe.1
    refine Or.inr ⟨x, rfl, ?_⟩
    have hf₂ : t.frames = .throwing x :: .java g :: T.frames.tail := hend
    have hs₂ : t = ((({ T with heap := t.heap, slotsUsed := t.slotsUsed } : State).setVm t.vm).setTop g).pushFrame (.throwing x) := by
      refine e3.trans ?_
      rw [hf₂, State.calling_eq h.top, State.setFrames_setFrames, State.pushFrame, State.frames_setTop _ hr', State.setTop_of_frames _ hr', State.setFrames_setFrames, hr]
      rfl
    rw [← hs₂]
    exact hsteps
end EITHERX
section EITHERX2
variable {p : Program} {l : Launch} {e : Env} {R : Room} {s : State} {m : MethodId} {args : Array Value} {below : List Frame} {meth : Method} {c : Code} {H : Heap} {locs : List Loc} {cells slots : Nat} {Q : State → Prop}
variable {y : MethodName} {bytes cc : ByteArray} {maxL nL mc ms n index : Nat} {ret : Option FieldType} {ws ws' : List Cond} {rm : Room} {Pc : Array Value → State → Prop} {Qc : Array Value → State → Outcome → State → Prop} {free : Addr → Prop} {Ts : List Cond} {own C : String} {b : Addr} {As rest st0 : List Value} {pc : Nat} {ls : Array Slot}
variable {Qx : Array Value → State → Outcome → State → Nat → Nat → Prop}
theorem e_callX (S : CallFix p m c cc nL s args Ts own) (hM : MetX l y ws rm Pc Qx free) (cw : CallW R s args own C index y bytes maxL ret ws rm rm.cells rm.slots n) (hp : PreV s H C b Pc As)
    (hn : As.length = n) (hsize : ls.size = nL) (hstack : st0 = As.reverse ++ .ref b :: rest) (hW : 2 * (F0 m pc ls st0).monitorRoom + (rest.map fun v => v.category).sum ≤ 8) (hdg : decode cc pc = .ok (.invokevirtual index, 3)) (hf : cells + rm.cells ≤ R.cells ∧ slots + rm.slots ≤ R.slots)
    (kk : ∀ (o : Outcome) (st₀ t B : State) (L : List Loc) (k9 n9 : Nat), st₀.heap = H → Qx (Value.ref b :: As).toArray st₀ o t k9 n9 → B.heap = t.heap → B.vm = t.vm → (∀ q ∈ L, free q.base) → Stand p l e R s m args below meth c B (locs ++ L) (cells + k9) (slots + n9) →
      (∀ v, o = .returned v → ∃ t2, Steps p.tables e below (B.setTop (F0 m (pc + 3) ls (v.toList ++ rest))) t2 ∧ Q t2) ∧ (∀ x, o = .threw x → ∃ t2, Steps p.tables e below ((B.setTop (F0 m pc ls rest)).pushFrame (.throwing x)) t2 ∧ Q t2)) : W p l e R s m args below meth c H locs cells slots Q (F0 m pc ls st0) := by
  obtain ⟨⟨hrc, hrs, hfr, hlo, hws, hcw, hcode, hini, hy, hlen, hl⟩, hin, hse⟩ := cw
  obtain ⟨hx, hb, hml, ho, -⟩ := S
  obtain ⟨hbl, ⟨cellB, hcB, hoB, hclB⟩, hPc⟩ := hp
  intro T hT X
  obtain ⟨mk, methM, hnamed, hmethM, hstM, habM⟩ := Cond.instanceMethod_spec hin
  obtain ⟨methM', cM, hmethM', -, -, -, -, -, -, hsigM⟩ := Cond.code_spec hnamed hcode
  cases hmethM.symm.trans hmethM'
  obtain ⟨c2, r2, m2, q1, q2, q3, q4, kP, hkP, hkPi⟩ := Cond.selects_spec hse
  cases hclB.symm.trans q1
  cases (State.methodFound?_of_named hnamed hy).symm.trans q2
  cases hnamed.symm.trans q3
  have hselP : selectMethod e.platform s.vm cellB.cls mk = .method mk := by rw [Launch.admits_selectMethod X.admits]; exact q4
  obtain ⟨vm₁, X₁, hstep₁⟩ := X.invokevirtual hx ho hl hnamed hmethM hstM hkP hkPi hy (a := b) (cell := cellB) (by rw [hT]; exact hcB)
    (fun z h => by rw [h] at hoB; cases hoB) hselP hmethM habM hkP hkPi (g := F0 m pc ls st0) rfl (argsL := As) (rest := rest) (hn.trans (hlen _ hsigM)) hstack (by rw [hb]; exact hdg)
  have hh1 : (T.setVm vm₁).heap = H := hT
  have hmk : (T.setVm vm₁).methodNamed? y = some mk := X₁.named hnamed
  obtain ⟨o, t, B, L, k9, n9, hq, e1, e2, hL, X', hend⟩ := comeX (a := (Value.ref b :: As).toArray) (g := F0 m pc ls rest) (ig := .invokevirtual index) (len := 3) (mk := mk) (bytes := bytes) (ret := ret) hM X₁ hfr hlo
    (fun w hw => hws w hw _ _ X₁.warmed) (hws _ hcw _ _ X₁.warmed) (word_at X₁.warmed (Or.inl (by first | rfl | simp [Cond.onTables, Cond.keeps, Cond.steady])) hini) hf.1 hf.2 rfl (hsize.trans hml.symm) (by rw [hb]; exact hdg) hW hmk (hbl _ _ _ _ (hPc _ hh1 X₁.warmed))
  obtain ⟨k1, k2⟩ := kk o ((T.setVm vm₁).calling (F0 m pc ls rest) mk (Value.ref b :: As).toArray) t B L k9 n9 hT hq e1 e2 hL X'
  rcases hend with ⟨v, hv, st⟩ | ⟨x, hv, st⟩
  · obtain ⟨t2, a1, b1⟩ := k1 v hv
    exact ⟨t2, hstep₁ _ (fun acts => by rw [doInvoke_state]; exact st.trans a1), b1⟩
  · obtain ⟨t2, a1, b1⟩ := k2 x hv
    exact ⟨t2, hstep₁ _ (fun acts => by rw [doInvoke_state]; exact st.trans a1), b1⟩
end EITHERX2
section XROWS
variable {p : Program} {l : Launch} {e : Env} {R : Room} {s : State} {m : MethodId} {args : Array Value} {below : List Frame} {meth : Method} {c : Code} {H : Heap} {locs : List Loc} {cells slots : Nat} {Q : State → Prop}
variable {y : MethodName} {bytes cc : ByteArray} {maxL nL n index : Nat} {ret : Option FieldType} {ws ws' : List Cond} {rm : Room} {Ts : List Cond} {own C : String} {b : Addr} {As rest st0 : List Value} {pc : Nat} {ls : Array Slot} {free : Addr → Prop} {g0 : JFrame}
variable {D : va_G} {tys : List (ClassId × FieldType)} {L : List Nat} {kd : Nat → Nat} {f0 f : Nat → va_E} {md mds : List (Nat × Nat)} {ma mas : List Nat} {fx fx' : List Fct} {postR : Option Value → (Nat → va_E) → Nat → Prop} {postT : Nat → Prop} {Pp : State → Prop}
variable {Qx : Array Value → State → Outcome → State → Nat → Nat → Prop}
/-- what a contract over the pool says of an end, with the rows of three that were made -/
def q3X (D : va_G) (L : List Nat) (kd : Nat → Nat) (tys : List (ClassId × FieldType)) (md : List (Nat × Nat)) (ma : List Nat) (f0 : Nat → va_E) (sz : Nat) (postR : Option Value → (Nat → va_E) → Nat → Prop) (postT : Nat → Prop) : Array Value → State → Outcome → State → Nat → Nat → Prop := fun _ st oc t k n =>
  n = 3 * k ∧ (∃ f : Nat → va_E, ((∃ v, oc = .returned v ∧ postR v f k) ∨ ∃ x, oc = .threw x ∧ x ∈ L ∧ kd x = 13 ∧ postT k) ∧ Q3 D L kd tys md ma f0 sz f t) ∧ va_F (pA L sz) st t
def pXi (post : Int32 → (Nat → va_E) → Nat → Prop) : Option Value → (Nat → va_E) → Nat → Prop := fun v f k => ∃ r : Int32, v = some (.int r) ∧ post r f k
def pXv (post : (Nat → va_E) → Nat → Prop) : Option Value → (Nat → va_E) → Nat → Prop := fun v f k => v = none ∧ post f k
theorem W_c0 (h : ∀ cl : Nat, cl = 0 → W p l e R s m args below meth c H locs cl (3 * cl) Q g0) : W p l e R s m args below meth c H locs 0 0 Q g0 := h 0 rfl
theorem WX.thenQ {Q' : State → Prop} {x : Addr} (h : WX p l e R s m args below meth c H locs cells slots Q g0 x) (hq : ∀ t, Q t → Q' t) : WX p l e R s m args below meth c H locs cells slots Q' g0 x := fun T hT X => by
  obtain ⟨t, a, b⟩ := h T hT X
  exact ⟨t, a, hq t b⟩
theorem MQ.toX {a : Array Value} {t : State} (h : MQ below (fun a s o t => Qx a s o t cells slots) a s cells slots free t) : MQX below Qx a s free t := by
  obtain ⟨o, h1, h2, h3, L, h4, h5⟩ := h
  exact ⟨o, cells, slots, h1, h2, h3, L, Or.inl h4, h5⟩
theorem MQE.toX {a : Array Value} {t : State} (h : MQE below (fun a s o t => Qx a s o t cells slots) a s cells slots free t) : MQX below Qx a s free t := by
  obtain ⟨o, h1, h2, h3, L, h4, h5⟩ := h
  exact ⟨o, cells, slots, h1, h2, h3, L, h4, h5⟩
theorem iretX {v : Int32} (hexec : p.tables.exec = Jvm.exec) (hb : c.code = cc) (hr : meth.sig.returnType = some .int) (hq : ∀ t : State, t.heap = H → s.WarmedH t.vm → Qx args s (.returned (some (.int v))) t cells slots) (hf : ∀ q ∈ locs, free q.base) (hdg : decode cc pc = .ok (.ireturn, 1)) (hlocks : meth.locks = false) : W p l e R s m args below meth c H locs cells slots (MQX below Qx args s free) (F0 m pc ls [.int v]) :=
  W.thenQ (W.iret (Qc := fun a s o t => Qx a s o t cells slots) (free := free) hexec hb hr hq hf hdg hlocks) (fun _ h => MQ.toX h)
theorem vretX (hexec : p.tables.exec = Jvm.exec) (hb : c.code = cc) (hr : meth.sig.returnType = none) (hq : ∀ t : State, t.heap = H → s.WarmedH t.vm → Qx args s (.returned none) t cells slots) (hf : ∀ q ∈ locs, free q.base) (hdg : decode cc pc = .ok (.return_, 1)) (hlocks : meth.locks = false) : W p l e R s m args below meth c H locs cells slots (MQX below Qx args s free) (F0 m pc ls []) :=
  W.thenQ (W.vret (Qc := fun a s o t => Qx a s o t cells slots) (free := free) hexec hb hr hq hf hdg hlocks) (fun _ h => MQ.toX h)
theorem leavesX {a : Addr} (hempty : ∀ x ∈ c.exceptionTable.toList, False) (hlocks : meth.locks = false) (hq : ∀ t : State, t.heap = H → s.WarmedH t.vm → Qx args s (.threw a) t cells slots) (hf : ∀ q ∈ locs, free q.base) : WX p l e R s m args below meth c H locs cells slots (MQX below Qx args s free) (F0 m pc ls rest) a :=
  WX.thenQ (WX.leaves (Qc := fun a s o t => Qx a s o t cells slots) (free := free) hempty hlocks hq hf) (fun _ h => MQE.toX h)
theorem g_retX {v : Option Value} {t : State} {cl : Nat} (g : G3 D L kd tys s f0 md ma f H locs fx) (hK : va_K D vwCl tys s) (hpo : postR v f cl) (ht : t.heap = H) (hW : s.WarmedH t.vm) {a : Array Value} : q3X D L kd tys md ma f0 s.heap.size postR postT a s (.returned v) t cl (3 * cl) := ⟨rfl, ⟨f, Or.inl ⟨v, rfl, hpo⟩, q3_of g hK ht hW⟩, g.2.2.1.F ht⟩
theorem g_thrX {x : Nat} {t : State} {cl : Nat} (g : G3 D L kd tys s f0 md ma f H locs fx) (hK : va_K D vwCl tys s) (hx : x ∈ L) (hk : kd x = 13) (hpo : postT cl) (ht : t.heap = H) (hW : s.WarmedH t.vm) {a : Array Value} : q3X D L kd tys md ma f0 s.heap.size postR postT a s (.threw x) t cl (3 * cl) := ⟨rfl, ⟨f, Or.inr ⟨x, rfl, hx, hk, hpo⟩, q3_of g hK ht hW⟩, g.2.2.1.F ht⟩
theorem cl_f {cl K : Nat} (h : cl ≤ K) : cl + 0 ≤ K ∧ 3 * cl + 0 ≤ 3 * K := ⟨h, Nat.mul_le_mul_left 3 h⟩
theorem cl_k {cl k K : Nat} (h : cl + k ≤ K) : cl + k ≤ K ∧ 3 * cl + 3 * k ≤ 3 * K := ⟨h, by omega⟩
theorem g_callX (S : CallFix p m c cc nL s args Ts own) (hM : MetX l y ws rm (va_Pc (.ref b :: As) Pp) (q3X D L kd tys mds mas f H.size postR postT) (pA L H.size)) (cw : CallW R s args own C index y bytes maxL ret ws rm rm.cells rm.slots n) (hp : PreV s H C b (va_Pc (.ref b :: As) Pp) As)
    (hn : As.length = n) (hsize : ls.size = nL) (hstack : st0 = As.reverse ++ .ref b :: rest) (hW : 2 * (F0 m pc ls st0).monitorRoom + (rest.map fun v => v.category).sum ≤ 8) (hdg : decode cc pc = .ok (.invokevirtual index, 3)) {cl : Nat} (hf : cl + rm.cells ≤ R.cells ∧ 3 * cl + rm.slots ≤ R.slots)
    (g : G3 D L kd tys s f0 md ma f H locs fx) (hK : va_K D vwCl tys s) (hmd : mds.all (fun q => md.contains q) = true) (hma : mas.all (fun q => ma.contains q) = true) (hfx : fx.filter (fun q => !(mds.contains (q.1, q.2.1))) = fx')
    (kkT : ∀ (x : Nat) (f1 : Nat → va_E) (H1 : Heap) (locs1 : List Loc) (k cl1 : Nat), cl1 = cl + k → x ∈ L → kd x = 13 → postT k → Md L kd mds mas f f1 → G3 D L kd tys s f0 md ma f1 H1 locs1 fx' → WX p l e R s m args below meth c H1 locs1 cl1 (3 * cl1) Q (F0 m pc ls rest) x)
    (kkR : ∀ (v : Option Value) (f1 : Nat → va_E) (H1 : Heap) (locs1 : List Loc) (k cl1 : Nat), cl1 = cl + k → postR v f1 k → Md L kd mds mas f f1 → G3 D L kd tys s f0 md ma f1 H1 locs1 fx' → W p l e R s m args below meth c H1 locs1 cl1 (3 * cl1) Q (F0 m (pc + 3) ls (v.toList ++ rest))) : W p l e R s m args below meth c H locs cl (3 * cl) Q (F0 m pc ls st0) := by
  refine e_callX S hM cw hp hn hsize hstack hW hdg hf (fun o st₀ t B L1 k9 n9 hst hq e1 e2 hL X' => ?_)
  obtain ⟨hn9, ⟨f1, hor, hq3⟩, hz, hk⟩ := hq
  subst hn9
  rw [hst] at hz hk
  have hup : ∀ q, pA L H.size q → pA L s.heap.size q := fun q h => h.elim Or.inl (fun h => Or.inr (Nat.le_trans g.2.2.1.1 h))
  have hS1 : va_S (pA L s.heap.size) s.heap B.heap (locs ++ L1) := ⟨Nat.le_trans g.2.2.1.1 (by rw [e1]; exact hz), fun q h1 h2 => by rw [e1, hk q (Nat.lt_of_lt_of_le h1 g.2.2.1.1) (fun z => h2 (hup q z))]; exact g.2.2.1.2.1 q h1 h2, fun q hq => by
    rcases List.mem_append.mp hq with h | h
    · exact g.2.2.1.2.2 q h
    · exact hup _ (hL q h)⟩
  have g1 := g.call hK e1.symm hq3 hS1 hmd hma hfx
  have e9 : 3 * cl + 3 * k9 = 3 * (cl + k9) := by omega
  rw [e9] at X'
  refine ⟨fun v hv => ?_, fun x hx => ?_⟩
  · rcases hor with ⟨v', hv', hpo⟩ | ⟨x', hx', -⟩
    · rw [hv] at hv'
      cases hv'
      exact kkR v f1 B.heap (locs ++ L1) k9 (cl + k9) rfl hpo hq3.2.1 g1 B rfl X'
    · rw [hv] at hx'
      cases hx'
  · rcases hor with ⟨v', hv', hpo⟩ | ⟨x', hx', h1, h2, hpo⟩
    · rw [hx] at hv'
      cases hv'
    · rw [hx] at hx'
      cases hx'
      exact kkT x f1 B.heap (locs ++ L1) k9 (cl + k9) rfl h1 h2 hpo hq3.2.1 g1 B rfl X'
theorem g_callXi {post : Int32 → (Nat → va_E) → Nat → Prop} (S : CallFix p m c cc nL s args Ts own) (hM : MetX l y ws rm (va_Pc (.ref b :: As) Pp) (q3X D L kd tys mds mas f H.size (pXi post) postT) (pA L H.size)) (cw : CallW R s args own C index y bytes maxL ret ws rm rm.cells rm.slots n) (hp : PreV s H C b (va_Pc (.ref b :: As) Pp) As)
    (hn : As.length = n) (hsize : ls.size = nL) (hstack : st0 = As.reverse ++ .ref b :: rest) (hW : 2 * (F0 m pc ls st0).monitorRoom + (rest.map fun v => v.category).sum ≤ 8) (hdg : decode cc pc = .ok (.invokevirtual index, 3)) {cl : Nat} (hf : cl + rm.cells ≤ R.cells ∧ 3 * cl + rm.slots ≤ R.slots)
    (g : G3 D L kd tys s f0 md ma f H locs fx) (hK : va_K D vwCl tys s) (hmd : mds.all (fun q => md.contains q) = true) (hma : mas.all (fun q => ma.contains q) = true) (hfx : fx.filter (fun q => !(mds.contains (q.1, q.2.1))) = fx')
    (kkT : ∀ (x : Nat) (f1 : Nat → va_E) (H1 : Heap) (locs1 : List Loc) (k cl1 : Nat), cl1 = cl + k → x ∈ L → kd x = 13 → postT k → Md L kd mds mas f f1 → G3 D L kd tys s f0 md ma f1 H1 locs1 fx' → WX p l e R s m args below meth c H1 locs1 cl1 (3 * cl1) Q (F0 m pc ls rest) x)
    (kkR : ∀ (r : Int32) (f1 : Nat → va_E) (H1 : Heap) (locs1 : List Loc) (k cl1 : Nat), cl1 = cl + k → post r f1 k → Md L kd mds mas f f1 → G3 D L kd tys s f0 md ma f1 H1 locs1 fx' → W p l e R s m args below meth c H1 locs1 cl1 (3 * cl1) Q (F0 m (pc + 3) ls (.int r :: rest))) : W p l e R s m args below meth c H locs cl (3 * cl) Q (F0 m pc ls st0) :=
  g_callX S hM cw hp hn hsize hstack hW hdg hf g hK hmd hma hfx kkT (fun v f1 H1 locs1 k cl1 hc hpo hM1 g1 => by obtain ⟨r, rfl, hpo⟩ := hpo; exact kkR r f1 H1 locs1 k cl1 hc hpo hM1 g1)
theorem g_callXv {post : (Nat → va_E) → Nat → Prop} (S : CallFix p m c cc nL s args Ts own) (hM : MetX l y ws rm (va_Pc (.ref b :: As) Pp) (q3X D L kd tys mds mas f H.size (pXv post) postT) (pA L H.size)) (cw : CallW R s args own C index y bytes maxL ret ws rm rm.cells rm.slots n) (hp : PreV s H C b (va_Pc (.ref b :: As) Pp) As)
    (hn : As.length = n) (hsize : ls.size = nL) (hstack : st0 = As.reverse ++ .ref b :: rest) (hW : 2 * (F0 m pc ls st0).monitorRoom + (rest.map fun v => v.category).sum ≤ 8) (hdg : decode cc pc = .ok (.invokevirtual index, 3)) {cl : Nat} (hf : cl + rm.cells ≤ R.cells ∧ 3 * cl + rm.slots ≤ R.slots)
    (g : G3 D L kd tys s f0 md ma f H locs fx) (hK : va_K D vwCl tys s) (hmd : mds.all (fun q => md.contains q) = true) (hma : mas.all (fun q => ma.contains q) = true) (hfx : fx.filter (fun q => !(mds.contains (q.1, q.2.1))) = fx')
    (kkT : ∀ (x : Nat) (f1 : Nat → va_E) (H1 : Heap) (locs1 : List Loc) (k cl1 : Nat), cl1 = cl + k → x ∈ L → kd x = 13 → postT k → Md L kd mds mas f f1 → G3 D L kd tys s f0 md ma f1 H1 locs1 fx' → WX p l e R s m args below meth c H1 locs1 cl1 (3 * cl1) Q (F0 m pc ls rest) x)
    (kkR : ∀ (f1 : Nat → va_E) (H1 : Heap) (locs1 : List Loc) (k cl1 : Nat), cl1 = cl + k → post f1 k → Md L kd mds mas f f1 → G3 D L kd tys s f0 md ma f1 H1 locs1 fx' → W p l e R s m args below meth c H1 locs1 cl1 (3 * cl1) Q (F0 m (pc + 3) ls rest)) : W p l e R s m args below meth c H locs cl (3 * cl) Q (F0 m pc ls st0) :=
  g_callX S hM cw hp hn hsize hstack hW hdg hf g hK hmd hma hfx kkT (fun v f1 H1 locs1 k cl1 hc hpo hM1 g1 => by obtain ⟨rfl, hpo⟩ := hpo; exact kkR f1 H1 locs1 k cl1 hc hpo hM1 g1)
end XROWS
/-- q is a new row of three ints -/
def NW (L : List Nat) (kd : Nat → Nat) (f0 f : Nat → va_E) (sz q : Nat) (L1 : List Nat) (kd1 : Nat → Nat) (f01 f1 : Nat → va_E) : Prop :=
  q ∉ L ∧ sz ≤ q ∧ L1 = L ++ [q] ∧ (∀ b, b ≠ q → kd1 b = kd b) ∧ kd1 q = 240 ∧ (∀ b, b ≠ q → f01 b = f0 b) ∧ (∀ b, b ≠ q → f1 b = f b)
theorem AT_hi (k : Nat) : (AT k).2.2.2 < 240 ∨ (AT k).1 ≤ 3 ∨ (AT k).1 = 7 ∨ (AT k).2.1 = 0 := by
  unfold AT
  split <;> decide
theorem FS_hi (ci : Nat) : ∀ t ∈ FS ci, t.2.2 < 240 ∨ t.1 ≤ 1 := by
  unfold FS
  split <;> decide +kernel
section NWS
variable {p : Program} {l : Launch} {e : Env} {R : Room} {s : State} {m : MethodId} {args : Array Value} {below : List Frame} {meth : Method} {c : Code} {H : Heap} {locs : List Loc} {cells slots : Nat} {Q : State → Prop} {cc : ByteArray} {pc : Nat} {ls : Array Slot} {rest : List Value} {D : va_G} {tys : List (ClassId × FieldType)} {L L1 : List Nat} {kd kd1 : Nat → Nat} {f0 f01 f f1 f2 : Nat → va_E} {md : List (Nat × Nat)} {ma : List Nat} {fx : List Fct} {a b q t sz K : Nat} {V : PV}
theorem NW.ne (h : NW L kd f0 f sz q L1 kd1 f01 f1) (hb : b ∈ L) : b ≠ q := fun e => h.1 (e ▸ hb)
theorem NW.mem_ (h : NW L kd f0 f sz q L1 kd1 f01 f1) (hb : b ∈ L) : b ∈ L1 := by rw [h.2.2.1]; exact List.mem_append_left _ hb
theorem NW.k (h : NW L kd f0 f sz q L1 kd1 f01 f1) (hb : b ∈ L) (hk : kd b = K) : kd1 b = K := (h.2.2.2.1 b (h.ne hb)).trans hk
theorem NW.old (h : NW L kd f0 f sz q L1 kd1 f01 f1) (hb : b ∈ L1) (hk : kd1 b = K) (hK : K ≠ 240) : b ∈ L ∧ kd b = K := by
  have hne : b ≠ q := fun e => by rw [e, h.2.2.2.2.1] at hk; exact hK hk.symm
  refine ⟨?_, (h.2.2.2.1 b hne).symm.trans hk⟩
  rw [h.2.2.1] at hb
  rcases List.mem_append.mp hb with q1 | q1
  · exact q1
  · exact absurd (List.mem_singleton.mp q1) hne
theorem NW.pa_ (h : NW L kd f0 f sz q L1 kd1 f01 f1) : pA L1 sz = pA L sz := by
  funext x
  apply propext
  unfold pA
  rw [h.2.2.1]
  constructor
  · rintro (q1 | q1)
    · rcases List.mem_append.mp q1 with q2 | q2
      · exact Or.inl q2
      · rw [List.mem_singleton.mp q2]
        exact Or.inr h.2.1
    · exact Or.inr q1
  · rintro (q1 | q1)
    · exact Or.inl (List.mem_append_left _ q1)
    · exact Or.inr q1
theorem NW.okV_ (h : NW L kd f0 f sz q L1 kd1 f01 f1) {x : rS} {v : Value} (hv : okV L kd x v) : okV L1 kd1 x v := by
  obtain ⟨t1, lo, hi⟩ := x
  match t1, hv with
  | 0, hv => exact hv
  | 1, hv => exact hv
  | 2, hv =>
    obtain ⟨a, e, m, k1, k2⟩ := hv
    exact ⟨a, e, h.mem_ m, by rw [h.k m rfl]; exact k1, by rw [h.k m rfl]; exact k2⟩
  | n + 3, hv =>
    rcases hv with hv | ⟨a, e, m, k1, k2⟩
    · exact Or.inl hv
    · exact Or.inr ⟨a, e, h.mem_ m, by rw [h.k m rfl]; exact k1, by rw [h.k m rfl]; exact k2⟩
theorem NW.okV_b (h : NW L kd f0 f sz q L1 kd1 f01 f1) {x : rS} {v : Value} (hx : x.2.2 < 240 ∨ x.1 ≤ 1) (hv : okV L1 kd1 x v) : okV L kd x v := by
  obtain ⟨t1, lo, hi⟩ := x
  match t1, hv with
  | 0, hv => exact hv
  | 1, hv => exact hv
  | 2, hv =>
    obtain ⟨a, e, m, k1, k2⟩ := hv
    simp only at k1 k2 hx
    obtain ⟨m', k'⟩ := h.old m rfl (by omega)
    exact ⟨a, e, m', by rw [k']; exact k1, by rw [k']; exact k2⟩
  | n + 3, hv =>
    rcases hv with hv | ⟨a, e, m, k1, k2⟩
    · exact Or.inl hv
    · simp only at k1 k2 hx
      obtain ⟨m', k'⟩ := h.old m rfl (by omega)
      exact Or.inr ⟨a, e, m', by rw [k']; exact k1, by rw [k']; exact k2⟩
theorem NW.okR_ (h : NW L kd f0 f sz q L1 kd1 f01 f1) {ty : FieldType} {n : Nat} {lo hi : Int} {x : va_E} (hx : okR L kd tys ty n lo hi x) : okR L1 kd1 tys ty n lo hi x := by
  obtain ⟨cA, t0, g, e1, e2, e3⟩ := hx
  refine ⟨cA, t0, g, e1, e2, fun i hi => ?_⟩
  obtain ⟨a, a1, a2, a3, a4⟩ := e3 i hi
  exact ⟨a, a1, h.mem_ a2, by rw [h.k a2 rfl]; exact a3, by rw [h.k a2 rfl]; exact a4⟩
theorem NW.okR_b (h : NW L kd f0 f sz q L1 kd1 f01 f1) {ty : FieldType} {n : Nat} {lo hi : Int} {x : va_E} (hh : hi < 240 ∨ n = 0) (hx : okR L1 kd1 tys ty n lo hi x) : okR L kd tys ty n lo hi x := by
  obtain ⟨cA, t0, g, e1, e2, e3⟩ := hx
  refine ⟨cA, t0, g, e1, e2, fun i hi => ?_⟩
  obtain ⟨a, a1, a2, a3, a4⟩ := e3 i hi
  obtain ⟨m', k'⟩ := h.old a2 rfl (by omega)
  exact ⟨a, a1, m', by rw [k']; exact a3, by rw [k']; exact a4⟩
theorem NW.okE_ (h : NW L kd f0 f sz q L1 kd1 f01 f1) {k : Nat} {x : va_E} (he : okE L kd tys k x) : okE L1 kd1 tys k x := by
  unfold okE at he ⊢
  by_cases hk : k < 100
  · rw [if_pos hk] at he ⊢
    obtain ⟨fs, e1, e2, e3⟩ := he
    exact ⟨fs, e1, e2, fun j t ht => h.okV_ (e3 j t ht)⟩
  · rw [if_neg hk] at he ⊢
    generalize AT k = A at he ⊢
    obtain ⟨s, n, lo, hi⟩ := A
    match s, he with
    | 0, he => exact he
    | 1, he => exact he
    | 2, he => exact he
    | 3, he => exact he
    | 4, he => exact h.okR_ he
    | 5, he => exact h.okR_ he
    | 6, he => exact h.okR_ he
    | 7, he => exact he
    | s + 8, he => exact h.okR_ he
theorem NW.okE_b (h : NW L kd f0 f sz q L1 kd1 f01 f1) {k : Nat} {x : va_E} (he : okE L1 kd1 tys k x) : okE L kd tys k x := by
  unfold okE at he ⊢
  by_cases hk : k < 100
  · rw [if_pos hk] at he ⊢
    obtain ⟨fs, e1, e2, e3⟩ := he
    exact ⟨fs, e1, e2, fun j t ht => h.okV_b (FS_hi k t (List.mem_of_getElem? ht)) (e3 j t ht)⟩
  · rw [if_neg hk] at he ⊢
    have hA := AT_hi k
    generalize AT k = A at he hA ⊢
    obtain ⟨s, n, lo, hi⟩ := A
    simp only at hA
    match s, he, hA with
    | 0, he, _ => exact he
    | 1, he, _ => exact he
    | 2, he, _ => exact he
    | 3, he, _ => exact he
    | 4, he, hA => exact h.okR_b (show hi < 240 ∨ n = 0 by omega) he
    | 5, he, hA => exact h.okR_b (show hi < 240 ∨ n = 0 by omega) he
    | 6, he, hA => exact h.okR_b (show hi < 240 ∨ n = 0 by omega) he
    | 7, he, _ => exact he
    | s + 8, he, hA => exact h.okR_b (show hi < 240 ∨ n = 0 by omega) he
theorem NW.WT_b (h : NW L kd f0 f sz q L1 kd1 f01 f1) (hW : WT L1 kd1 tys f2) : WT L kd tys f2 := fun a ha => by
  have h1 := hW a (h.mem_ ha)
  rw [h.k ha rfl] at h1
  exact h.okE_b h1
theorem NW.md_ (h : NW L kd f0 f sz q L1 kd1 f01 f1) : Md L kd [] [] f f1 := fun a ha => by
  have e := h.2.2.2.2.2.2 a (h.ne ha)
  have e2 : ∀ j, fV f1 a j = fV f a j := fun j => by unfold fV; rw [e]
  exact ⟨fun j _ _ => e2 j, fun _ _ => e, fun _ _ h0 => by rw [e2]; exact h0⟩
theorem pl_app {k : Nat} {x : Nat × va_E} (hx : (va_pl L f)[k]? = some x) : (va_pl (L ++ [q]) f)[k]? = some x := by
  have hl := (List.getElem?_eq_some_iff.mp hx).1
  unfold va_pl at hx hl ⊢
  rw [List.map_append, List.getElem?_append_left hl]
  exact hx
/-- the row goes: the world as it was -/
theorem NW.drop (h : NW L kd f0 f s.heap.size q L1 kd1 f01 f1) (g : G3 D L1 kd1 tys s f01 md ma f2 H locs fx) (hfx : ∀ x ∈ fx, x.2.2.1 ∈ L) : G3 D L kd tys s f0 md ma f2 H locs fx := by
  obtain ⟨g1, g2, g3, g4, g5, g6⟩ := g
  rw [h.pa_] at g2 g3
  rw [h.2.2.1] at g1 g2
  refine ⟨fun k x hx => g1 k x (pl_app hx), ⟨fun i j x y hx hy => g2.1 i j x y (pl_app hx) (pl_app hy), fun k x hx => g2.2 k x (pl_app hx)⟩, g3, h.WT_b g4, fun x hx => ?_, fun a ha => ?_⟩
  · obtain ⟨e1, e2, e3, e4⟩ := g5 x hx
    have hm := hfx x hx
    exact ⟨hm, by rw [← h.k hm rfl]; exact e2, e3, e4⟩
  · obtain ⟨e1, e2, e3⟩ := g6 a (h.mem_ ha)
    have k1 : kd1 a = kd a := h.k ha rfl
    have k2 : f01 a = f0 a := h.2.2.2.2.2.1 a (h.ne ha)
    have k3 : ∀ j, fV f01 a j = fV f0 a j := fun j => by unfold fV; rw [k2]
    rw [k1, k2] at e2
    rw [k1] at e1 e3
    exact ⟨fun j q1 q2 => by rw [← k3 j]; exact e1 j q1 q2, e2, fun q1 q2 q3 => e3 q1 q2 (by rw [k3]; exact q3)⟩
theorem NW.am (h : NW L kd f0 f s.heap.size q L1 kd1 f01 f1) {adK adV : Nat → Nat} (hAm : ap_ adK adV (pA L s.heap.size) s s.heap) : ap_ adK adV (pA L1 s.heap.size) s s.heap := by rw [h.pa_]; exact hAm
theorem NW.isV_ (h : NW L kd f0 f sz q L1 kd1 f01 f1) (hW : WT L kd tys f) (hp : b ∈ L) (hk : kd b = 12) (hV : isV f b V) : isV f1 b V := isV.frame h.md_ hW hp hk rfl rfl hV
theorem NW.cEq_ {E : Int} (h : NW L kd f0 f sz q L1 kd1 f01 f1) (hW : WT L kd tys f) (hp : b ∈ L) (hk : kd b = 14) (hC : cEq f b E) : cEq f1 b E := cEq.frame h.md_ hW hp hk rfl rfl hC
theorem fV_cg {g1 g2 : Nat → va_E} {x j : Nat} (e : g1 x = g2 x) : fV g1 x j = fV g2 x j := by unfold fV; rw [e]
theorem NW.FR_ (h : NW L kd f0 f sz q L1 kd1 f01 f1) (hp : b ∈ L) (hF : FR L kd f0 f b) : FR L1 kd1 f01 f1 b := fun x hx hf hne hj => by
  have hxq : x ≠ q := fun e => by rw [e, h.2.2.2.2.1] at hf; exact absurd hf (by decide)
  obtain ⟨m', k'⟩ := h.old hx rfl (fun e => by rw [e] at hf; exact absurd hf (by decide))
  have e0 : f01 x = f0 x := h.2.2.2.2.2.1 x hxq
  have e1 : f1 x = f x := h.2.2.2.2.2.2 x hxq
  have ep : ∀ j, fV f01 b j = fV f0 b j := fun j => by unfold fV; rw [h.2.2.2.2.2.1 b (h.ne hp)]
  obtain ⟨a1, a2⟩ := hF x m' (by rw [k']; exact hf) hne (fun j => by rw [← ep j]; exact hj j)
  rw [k'] at a1 a2
  exact ⟨fun h1 => by rw [e1, e0]; exact a1 h1, fun h1 j => by rw [fV_cg e1, fV_cg e0]; exact a2 h1 j⟩
theorem NW.FR_b (h : NW L kd f0 f sz q L1 kd1 f01 f1) (hp : b ∈ L) (hF : FR L1 kd1 f01 f2 b) : FR L kd f0 f2 b := fun x hx hf hne hj => by
  have hxq : x ≠ q := h.ne hx
  have e0 : f01 x = f0 x := h.2.2.2.2.2.1 x hxq
  have ep : ∀ j, fV f01 b j = fV f0 b j := fun j => fV_cg (h.2.2.2.2.2.1 b (h.ne hp))
  have k1 : kd1 x = kd x := h.k hx rfl
  obtain ⟨a1, a2⟩ := hF x (h.mem_ hx) (by rw [k1]; exact hf) hne (fun j => by rw [ep j]; exact hj j)
  rw [k1] at a1 a2
  exact ⟨fun h1 => by rw [← e0]; exact a1 h1, fun h1 j => by rw [← fV_cg e0]; exact a2 h1 j⟩
theorem g_newI (hx : p.tables.exec = Jvm.exec) (hb : c.code = cc) (harr : (Cond.arrayClass .int).before args s = true) (hK : va_K D vwCl tys s) (g : G3 D L kd tys s f0 md ma f H locs fx) {n0 : Nat} {lo0 hi0 : Int} (hb0 : b ∈ L) (hk0 : kd b = K) (h1 : 100 ≤ K) (hA0 : AT K = (0, n0, lo0, hi0)) (hdg : decode cc pc = .ok (.newarray .int, 2)) (hcells : cells + 1 ≤ R.cells) (hslots : slots + 3 ≤ R.slots)
    (kk : ∀ (q : Nat) (L1 : List Nat) (kd1 : Nat → Nat) (f01 f1 : Nat → va_E) (H1 : Heap), NW L kd f0 f s.heap.size q L1 kd1 f01 f1 → q ∈ L1 → kd1 q = 240 → G3 D L1 kd1 tys s f01 md ma f1 H1 locs fx → W p l e R s m args below meth c H1 locs (cells + 1) (slots + 3) Q (F0 m (pc + 2) ls (.ref q :: rest))) : W p l e R s m args below meth c H locs cells slots Q (F0 m pc ls (.int 3 :: rest)) := by
  obtain ⟨q0, e1, e2⟩ := ok_arr g hb0 hk0
  rw [okE_i h1 hA0] at e2
  obtain ⟨cA0, t0, h0, e3, e4, e5⟩ := e2
  have hF : s.vm.findClass ("[" ++ FieldType.int.toString) = some cA0 := (hK.2 t0 _ e4).2
  refine va_newa (atype := .int) (ty := .int) (N' := 3) (a0 := (3, .inl (fun _ => 0))) hx hb harr rfl hK g.1 g.2.1 g.2.2.1 (fun q h => Or.inr h) (fun _ => rfl) (by decide) (by decide) (by decide) hcells hslots hdg (fun q cA H1 k1 k2 k3 k4 => ?_)
  have hcA : cA = cA0 := by
    have h2 : s.vm.findClass ("[" ++ FieldType.int.toString) = some cA := (k1.2 tys.length (cA, .int) (by rw [List.getElem?_append_right (Nat.le_refl _), Nat.sub_self]; rfl)).2
    exact Option.some.inj (h2.symm.trans hF)
  have hlen : (va_pl L f).length = L.length := by unfold va_pl; rw [List.length_map]
  have hlast : (va_pl L f ++ [(q, (.inl (cA, (3, .inl (fun _ => 0))) : va_E))])[(va_pl L f).length]? = some (q, .inl (cA, (3, .inl (fun _ => 0)))) := by rw [List.getElem?_append_right (Nat.le_refl _), Nat.sub_self]; rfl
  have hq : q ∉ L := fun hc => by
    obtain ⟨k, hk⟩ := va_pl_get (X := []) (f := f) hc
    have hk : (va_pl L f)[k]? = some (q, f q) := hk
    have hl := (List.getElem?_eq_some_iff.mp hk).1
    have := k3.1 k (va_pl L f).length (q, f q) (q, .inl (cA, (3, .inl (fun _ => 0)))) (by rw [List.getElem?_append_left hl]; exact hk) hlast rfl
    omega
  have hsz : s.heap.size ≤ q := (k3.2 _ _ hlast).resolve_left hq
  rw [va_pl_push hq] at k2 k3
  have hNW : NW L kd f0 f s.heap.size q (L ++ [q]) (va_up kd q 240) (va_up f0 q (.inl (cA, (3, .inl (fun _ => 0))))) (va_up f q (.inl (cA, (3, .inl (fun _ => 0))))) := ⟨hq, hsz, rfl, fun b hb => va_up_ne kd _ hb, va_up_self _ _ _, fun b hb => va_up_ne f0 _ hb, fun b hb => va_up_ne f _ hb⟩
  refine kk q (L ++ [q]) (va_up kd q 240) (va_up f0 q (.inl (cA, (3, .inl (fun _ => 0))))) (va_up f q (.inl (cA, (3, .inl (fun _ => 0))))) H1 hNW (List.mem_append_right _ (List.mem_singleton.mpr rfl)) (va_up_self _ _ _) ⟨k2, ?_, ?_, fun a ha => ?_, fun x hx => ?_, fun a ha => ?_⟩
  · rw [hNW.pa_]
    exact k3
  · rw [hNW.pa_]
    exact k4
  · rcases List.mem_append.mp ha with h2 | h2
    · rw [va_up_ne kd _ (hNW.ne h2), va_up_ne f _ (hNW.ne h2)]
      exact hNW.okE_ (g.2.2.2.1 a h2)
    · rw [List.mem_singleton.mp h2, va_up_self, va_up_self]
      rw [okE_i (K := 240) (n := 3) (lo := -2147483648) (hi := 2147483647) (by decide) rfl]
      refine ⟨cA, t0, fun _ => 0, rfl, by rw [hcA]; exact e4, fun i _ => ⟨by show (-2147483648 : Int) ≤ (0 : Int32).toInt; decide, by show (0 : Int32).toInt ≤ (2147483647 : Int); decide⟩⟩
  · obtain ⟨u1, u2, u3, u4⟩ := g.2.2.2.2.1 x hx
    exact ⟨hNW.mem_ u1, hNW.k u1 u2, u3, by rw [fV_cg (va_up_ne f _ (hNW.ne u1))]; exact u4⟩
  · rcases List.mem_append.mp ha with h2 | h2
    · obtain ⟨m1, m2, m3⟩ := g.2.2.2.2.2 a h2
      have hn := hNW.ne h2
      rw [va_up_ne kd _ hn, va_up_ne f0 _ hn, va_up_ne f _ hn]
      exact ⟨fun j q1 q2 => by rw [fV_cg (va_up_ne f _ hn), fV_cg (va_up_ne f0 _ hn)]; exact m1 j q1 q2, m2, fun q1 q2 q3 => by rw [fV_cg (va_up_ne f _ hn)]; exact m3 q1 q2 (by rw [← fV_cg (j := 8) (va_up_ne f0 _ hn)]; exact q3)⟩
    · rw [List.mem_singleton.mp h2, va_up_self, va_up_self, va_up_self]
      refine ⟨fun j q1 _ => absurd q1 (by decide), fun _ _ => rfl, fun _ q1 => absurd q1 (by decide)⟩
/-- what stands in a row of ints -/
def isY (f : Nat → va_E) (q : Nat) (A : Nat → Int32) : Prop := ∀ k, aI f q k = A k
theorem isY.rf : isY f q (fun k => aI f q k) := fun _ => rfl
theorem isY.frame {A : Nat → Int32} (hM : Md L kd md ma f f1) (hW : WT L kd tys f) (hq : q ∈ L) (hk : kd q = 240) (h1 : (md.all fun _ => true) = true) (h2 : (ma.all fun k => k != 240) = true) (h : isY f q A) : isY f1 q A := fun k => by
  have e : f1 q = f q := (hM q hq).2.1 (by omega) (fun hc => by
    have := List.all_eq_true.mp h2 _ hc
    rw [hk] at this
    simp at this)
  rw [← h k]
  unfold aI
  rw [e]
theorem isY.put {A : Nat → Int32} {i : Nat} {x : Int32} (h : isY f q A) (u : uA f f1 q i x) : isY f1 q (fun j => if j = i then x else A j) := fun k => by
  rw [u.2]
  show (if k = i then x else aI f q k) = if k = i then x else A k
  by_cases hk : k = i
  · rw [if_pos hk, if_pos hk]
  · rw [if_neg hk, if_neg hk]
    exact h k
end NWS

/-- the node n that was made, as it stands at last -/
def fin (V V1 : PV) (n : Int32) (hm : Int) (o : Int32) : Prop := exN V V1 ∧ wfN V1 (V1.n 57).toInt ∧ EV V1 n hm o.toNatClampNeg ∧ (V1.n 57).toInt = (V.n 57).toInt + 1
theorem EV.self_ {V : PV} {x : Int32} {k : Int} {d : Nat} (h : EV V x k d) : EV V x (V.i 51 x.toNatClampNeg).toInt d := ⟨h.1, h.2.1, Int.le_refl _, h.2.2.2⟩
theorem EV.at_ {V : PV} {x y : Int32} {k : Int} {d : Nat} (h : EV V x k d) (e : y = V.i 51 x.toNatClampNeg) : EV V x y.toInt d := by rw [e]; exact h.self_
theorem exN.ui_ {V V1 : PV} {j k : Nat} {x : Int32} (h : exN V V1) (hj : 47 ≤ j ∧ j ≤ 54) (hk : ((V.n 57).toInt ≤ (k : Int) ∧ j ≠ 53) ∨ (j = 53 ∧ 3 * (V.n 57).toInt ≤ (k : Int))) : exN V (V1.ui j k x) := by
  obtain ⟨h1, h2, h3, h4, h5⟩ := h
  refine ⟨fun j' q r => (ui_row (by omega)).trans (h1 j' q r), h2, h3, h4, fun n hn => ?_⟩
  obtain ⟨c1, c2, c3, c4⟩ := h5 n hn
  refine ⟨fun j' q r t => (ui_ne ?_).trans (c1 j' q r t), fun k' hk' => (ui_ne ?_).trans (c2 k' hk'), c3, c4⟩
  · rcases hk with hk | hk
    · exact Or.inr (by omega)
    · exact Or.inl (by omega)
  · rcases hk with hk | hk
    · exact Or.inl (by omega)
    · exact Or.inr (by omega)
theorem exN.ul_ {V V1 : PV} {j k : Nat} {x : Int64} (h : exN V V1) (hj : j = 55 ∨ j = 56) (hk : (V.n 57).toInt ≤ (k : Int)) : exN V (V1.ul j k x) := by
  obtain ⟨h1, h2, h3, h4, h5⟩ := h
  refine ⟨h1, fun j' q r => (ul_row (by omega)).trans (h2 j' q r), h3, h4, fun n hn => ?_⟩
  obtain ⟨c1, c2, c3, c4⟩ := h5 n hn
  exact ⟨c1, c2, (ul_ne (Or.inr (by omega))).trans c3, (ul_ne (Or.inr (by omega))).trans c4⟩
section NDS
variable {V V1 : PV} {n op x y va h mn o v : Int32} {a b w : Int64} {d : Nat} {hm : Int}
theorem NN.s50 (hN : NN V V1 n op x y va h mn o a b) (h0 : 0 ≤ n.toInt) : NN V (V1.ui 50 n.toNatClampNeg v) n op x y v h mn o a b := by
  obtain ⟨e0, e1, e2, e3, e4, e5, e6, e7, e8, e9, e10, e11⟩ := hN
  exact ⟨e0.ui_ ⟨by decide, by decide⟩ (Or.inl ⟨by rw [tnZ h0, ← e1]; exact Int.le_refl _, by decide⟩), e1, e2, (ui_ne (Or.inl (by decide))).trans e3, (ui_ne (Or.inl (by decide))).trans e4, (ui_ne (Or.inl (by decide))).trans e5, ui_same, (ui_ne (Or.inl (by decide))).trans e7, (ui_ne (Or.inl (by decide))).trans e8, (ui_ne (Or.inl (by decide))).trans e9, e10, e11⟩
theorem NN.s52 (hN : NN V V1 n op x y va h mn o a b) (h0 : 0 ≤ n.toInt) : NN V (V1.ui 52 n.toNatClampNeg v) n op x y va h v o a b := by
  obtain ⟨e0, e1, e2, e3, e4, e5, e6, e7, e8, e9, e10, e11⟩ := hN
  exact ⟨e0.ui_ ⟨by decide, by decide⟩ (Or.inl ⟨by rw [tnZ h0, ← e1]; exact Int.le_refl _, by decide⟩), e1, e2, (ui_ne (Or.inl (by decide))).trans e3, (ui_ne (Or.inl (by decide))).trans e4, (ui_ne (Or.inl (by decide))).trans e5, (ui_ne (Or.inl (by decide))).trans e6, (ui_ne (Or.inl (by decide))).trans e7, ui_same, (ui_ne (Or.inl (by decide))).trans e9, e10, e11⟩
theorem NN.s53 {k : Nat} (hN : NN V V1 n op x y va h mn o a b) (hk : 3 * n.toInt ≤ (k : Int)) : NN V (V1.ui 53 k v) n op x y va h mn o a b := by
  obtain ⟨e0, e1, e2, e3, e4, e5, e6, e7, e8, e9, e10, e11⟩ := hN
  exact ⟨e0.ui_ ⟨by decide, by decide⟩ (Or.inr ⟨rfl, by rw [← e1]; exact hk⟩), e1, e2, (ui_ne (Or.inl (by decide))).trans e3, (ui_ne (Or.inl (by decide))).trans e4, (ui_ne (Or.inl (by decide))).trans e5, (ui_ne (Or.inl (by decide))).trans e6, (ui_ne (Or.inl (by decide))).trans e7, (ui_ne (Or.inl (by decide))).trans e8, (ui_ne (Or.inl (by decide))).trans e9, e10, e11⟩
theorem NN.s55 (hN : NN V V1 n op x y va h mn o a b) (h0 : 0 ≤ n.toInt) : NN V (V1.ul 55 n.toNatClampNeg w) n op x y va h mn o w b := by
  obtain ⟨e0, e1, e2, e3, e4, e5, e6, e7, e8, e9, e10, e11⟩ := hN
  exact ⟨e0.ul_ (Or.inl rfl) (by rw [tnZ h0, ← e1]; exact Int.le_refl _), e1, e2, e3, e4, e5, e6, e7, e8, e9, ul_same, (ul_ne (Or.inl (by decide))).trans e11⟩
theorem NN.s56 (hN : NN V V1 n op x y va h mn o a b) (h0 : 0 ≤ n.toInt) : NN V (V1.ul 56 n.toNatClampNeg w) n op x y va h mn o a w := by
  obtain ⟨e0, e1, e2, e3, e4, e5, e6, e7, e8, e9, e10, e11⟩ := hN
  exact ⟨e0.ul_ (Or.inr rfl) (by rw [tnZ h0, ← e1]; exact Int.le_refl _), e1, e2, e3, e4, e5, e6, e7, e8, e9, (ul_ne (Or.inl (by decide))).trans e10, ul_same⟩
theorem nd_ok (hN : NN V V1 n op x y va h mn o a b) (h0 : 0 ≤ n.toInt) (hw : wfN V (V.n 57).toInt) (hh : 1 ≤ h.toInt ∧ h.toInt ≤ 13) (hh2 : h.toInt ≤ hm) (ho : (o.toNatClampNeg : Int) < (V.n 0).toInt)
    (h2 : op.toInt = 2 → varOK V1 va o.toNatClampNeg ∧ (x.toInt = -1 ∨ EV V1 x (h.toInt - 1) o.toNatClampNeg))
    (h3 : op.toInt = 3 ∨ op.toInt = 9 → mn.toInt ≤ 3 ∧ ∀ k : Nat, (k : Int) < mn.toInt → EV V1 (V1.i 53 (3 * n.toNatClampNeg + k)) (h.toInt - 1) o.toNatClampNeg)
    (h3' : op.toInt = 3 → fnd V1 o.toNatClampNeg a b) (h9 : op.toInt = 9 → 0 ≤ (V1.i 3 o.toNatClampNeg).toInt ∧ fnd V1 (V1.i 3 o.toNatClampNeg).toNatClampNeg a b)
    (h4 : op.toInt = 4 → EV V1 x (h.toInt - 1) o.toNatClampNeg ∧ (V1.i 47 x.toNatClampNeg).toInt = 2) (h6 : op.toInt = 6 → 0 ≤ va.toInt ∧ va.toInt ≤ 9)
    (h7 : op.toInt = 7 ∨ op.toInt = 8 ∨ op.toInt < 1 ∨ 9 < op.toInt → EV V1 x (h.toInt - 1) o.toNatClampNeg) (h10 : op.toInt < 1 ∨ 9 < op.toInt → EV V1 y (h.toInt - 1) o.toNatClampNeg) : fin V V1 n hm o := by
  have hN' := hN
  obtain ⟨e0, e1, e2, e3, e4, e5, e6, e7, e8, e9, e10, e11⟩ := hN
  refine ⟨e0, wf_add hN' h0 hw ?_, ⟨h0, by omega, by rw [e7]; exact hh2, by rw [e9]⟩, by rw [e2, e1]⟩
  unfold nodeOK
  rw [e3, e4, e5, e6, e7, e8, e9, e10, e11]
  exact ⟨hh.1, hh.2, by rw [e0.2.2.1 0 (by decide)]; exact ho, h2, h3, h3', h9, h4, h6, h7, h10⟩
theorem nd_leaf (hN : NN V V1 n op x y va h mn o a b) (h0 : 0 ≤ n.toInt) (hw : wfN V (V.n 57).toInt) (hh : h.toInt = 1) (hh2 : 1 ≤ hm) (ho : (o.toNatClampNeg : Int) < (V.n 0).toInt) (hc : op.toInt = 1 ∨ op.toInt = 5) : fin V V1 n hm o :=
  nd_ok hN h0 hw (by omega) (by omega) ho (fun q => by omega) (fun q => by omega) (fun q => by omega) (fun q => by omega) (fun q => by omega) (fun q => by omega) (fun q => by omega) (fun q => by omega)
theorem nd_size (hN : NN V V1 n op x y va h mn o a b) (h0 : 0 ≤ n.toInt) (hw : wfN V (V.n 57).toInt) (hh : h.toInt = 1) (hh2 : 1 ≤ hm) (ho : (o.toNatClampNeg : Int) < (V.n 0).toInt) (hc : op.toInt = 6) (hv : 0 ≤ va.toInt ∧ va.toInt ≤ 9) : fin V V1 n hm o :=
  nd_ok hN h0 hw (by omega) (by omega) ho (fun q => by omega) (fun q => by omega) (fun q => by omega) (fun q => by omega) (fun q => by omega) (fun _ => hv) (fun q => by omega) (fun q => by omega)
theorem nd_un {k : Int} (hN : NN V V1 n op x y va h mn o a b) (h0 : 0 ≤ n.toInt) (hw : wfN V (V.n 57).toInt) (hh : 1 ≤ h.toInt ∧ h.toInt ≤ 13) (hh2 : h.toInt ≤ hm) (ho : (o.toNatClampNeg : Int) < (V.n 0).toInt) (hc : op.toInt = 7 ∨ op.toInt = 8) (hx : EV V x k o.toNatClampNeg) (hk : k + 1 ≤ h.toInt) : fin V V1 n hm o :=
  nd_ok hN h0 hw hh hh2 ho (fun q => by omega) (fun q => by omega) (fun q => by omega) (fun q => by omega) (fun q => by omega) (fun q => by omega) (fun q => (hN.1.ev hx).up (by omega)) (fun q => by omega)
theorem nd_old {k : Int} (hN : NN V V1 n op x y va h mn o a b) (h0 : 0 ≤ n.toInt) (hw : wfN V (V.n 57).toInt) (hh : 1 ≤ h.toInt ∧ h.toInt ≤ 13) (hh2 : h.toInt ≤ hm) (ho : (o.toNatClampNeg : Int) < (V.n 0).toInt) (hc : op.toInt = 4) (hx : EV V x k o.toNatClampNeg) (hk : k + 1 ≤ h.toInt) (hp : (V.i 47 x.toNatClampNeg).toInt = 2) : fin V V1 n hm o :=
  nd_ok hN h0 hw hh hh2 ho (fun q => by omega) (fun q => by omega) (fun q => by omega) (fun q => by omega) (fun q => ⟨(hN.1.ev hx).up (by omega), by rw [(hN.1.2.2.2.2 x.toNatClampNeg (by rw [tnZ hx.1]; exact hx.2.1)).1 47 (by decide) (by decide) (by decide)]; exact hp⟩) (fun q => by omega) (fun q => by omega) (fun q => by omega)
theorem nd_bin {k k' : Int} (hN : NN V V1 n op x y va h mn o a b) (h0 : 0 ≤ n.toInt) (hw : wfN V (V.n 57).toInt) (hh : 1 ≤ h.toInt ∧ h.toInt ≤ 13) (hh2 : h.toInt ≤ hm) (ho : (o.toNatClampNeg : Int) < (V.n 0).toInt) (hc : 9 < op.toInt) (hx : EV V x k o.toNatClampNeg) (hk : k + 1 ≤ h.toInt) (hy : EV V y k' o.toNatClampNeg) (hk' : k' + 1 ≤ h.toInt) : fin V V1 n hm o :=
  nd_ok hN h0 hw hh hh2 ho (fun q => by omega) (fun q => by omega) (fun q => by omega) (fun q => by omega) (fun q => by omega) (fun q => by omega) (fun q => (hN.1.ev hx).up (by omega)) (fun q => (hN.1.ev hy).up (by omega))
theorem exN.var {v : Int32} (h : exN V V1) (hv : varOK V v d) : varOK V1 v d := by
  unfold varOK at hv ⊢
  rw [h.1 4 (by decide) (by decide)]
  exact hv
theorem nd_place (hN : NN V V1 n op x y va h mn o a b) (h0 : 0 ≤ n.toInt) (hw : wfN V (V.n 57).toInt) (hh : 1 ≤ h.toInt ∧ h.toInt ≤ 13) (hh2 : h.toInt ≤ hm) (ho : (o.toNatClampNeg : Int) < (V.n 0).toInt) (hc : op.toInt = 2) (hv : varOK V va o.toNatClampNeg) (hx : x.toInt = -1 ∨ ∃ k, EV V x k o.toNatClampNeg ∧ k + 1 ≤ h.toInt) : fin V V1 n hm o :=
  nd_ok hN h0 hw hh hh2 ho (fun q => ⟨hN.1.var hv, hx.imp id (fun ⟨k, h1, h2⟩ => (hN.1.ev h1).up (by omega))⟩) (fun q => by omega) (fun q => by omega) (fun q => by omega) (fun q => by omega) (fun q => by omega) (fun q => by omega) (fun q => by omega)
/-- the arguments of a call stand where they must -/
theorem nd_call {A : Nat → Int32} {k : Int} {Vb : PV} (hN : NN V V1 n op x y va h mn o a b) (h0 : 0 ≤ n.toInt) (hw : wfN V (V.n 57).toInt) (hh : 1 ≤ h.toInt ∧ h.toInt ≤ 13) (hh2 : h.toInt ≤ hm) (ho : (o.toNatClampNeg : Int) < (V.n 0).toInt) (hc : op.toInt = 3 ∨ op.toInt = 9) (hm3 : mn.toInt ≤ 3)
    (hA : ∀ j : Nat, (j : Int) < mn.toInt → V1.i 53 (3 * n.toNatClampNeg + j) = A j) (hE : ∀ j : Nat, (j : Int) < mn.toInt → EV V (A j) k o.toNatClampNeg) (hk : k + 1 ≤ h.toInt)
    (hf : op.toInt = 3 → fnd V o.toNatClampNeg a b) (hu : op.toInt = 9 → 0 ≤ (V.i 3 o.toNatClampNeg).toInt ∧ fnd V (V.i 3 o.toNatClampNeg).toNatClampNeg a b) : fin V V1 n hm o :=
  nd_ok hN h0 hw hh hh2 ho (fun q => by omega) (fun _ => ⟨hm3, fun j hj => by rw [hA j hj]; exact (hN.1.ev (hE j hj)).up (by omega)⟩) (fun q => hN.1.fnd_.mpr (hf q)) (fun q => by rw [hN.1.1 3 (by decide) (by decide)]; exact ⟨(hu q).1, hN.1.fnd_.mpr (hu q).2⟩) (fun q => by omega) (fun q => by omega) (fun q => by omega) (fun q => by omega)
end NDS
/-- behind an expression that was read: V's nodes and more, all whole, r among them, as many as the tokens left behind, the rows made half as many -/
def rdP (L : List Nat) (kd : Nat → Nat) (f0 : Nat → va_E) (a q : Nat) (V : PV) (o : Int32) (hm u : Int) (r : Int32) (f : Nat → va_E) (k : Nat) (P : Int32 → Prop) : Prop :=
  ∃ V1 : PV, isV f q V1 ∧ FR L kd f0 f q ∧ exN V V1 ∧ wfN V1 (V1.n 57).toInt ∧ EV V1 r hm o.toNatClampNeg ∧ P (V1.i 47 r.toNatClampNeg) ∧ (V1.n 57).toInt - (V.n 57).toInt ≤ cF f a - cF f0 a + u ∧ 2 * (k : Int) ≤ cF f a - cF f0 a ∧ cF f0 a + 1 ≤ cF f a + u
theorem rd_use {L : List Nat} {kd : Nat → Nat} {f0 f : Nat → va_E} {a q : Nat} {V : PV} {o r : Int32} {hm u E0 : Int} {k : Nat} {P : Int32 → Prop} (h : rdP L kd f0 a q V o hm u r f k P) (h0 : cEq f0 a E0) : ∃ (V1 : PV) (E : Int), isV f q V1 ∧ FR L kd f0 f q ∧ cEq f a E ∧ exN V V1 ∧ wfN V1 (V1.n 57).toInt ∧ EV V1 r hm o.toNatClampNeg ∧ P (V1.i 47 r.toNatClampNeg) ∧ (V1.n 57).toInt - (V.n 57).toInt ≤ E - E0 + u ∧ 2 * (k : Int) ≤ E - E0 ∧ E0 + 1 ≤ E + u := by
  obtain ⟨V1, h1, h2, h3, h4, h5, h6, h7, h8, h9⟩ := h
  unfold cEq at h0
  rw [h0] at h7 h8 h9
  exact ⟨V1, cF f a, h1, h2, rfl, h3, h4, h5, h6, h7, h8, h9⟩
