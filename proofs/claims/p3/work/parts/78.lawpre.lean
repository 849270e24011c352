section EITHERX
variable {p : Program} {l : Launch} {e : Env} {R : Room} {s : State} {m : MethodId} {args : Array Value} {below : List Frame} {meth : Method} {c : Code} {H : Heap} {locs : List Loc} {cells slots : Nat} {Q : State → Prop}
variable {y : MethodName} {bytes cc : ByteArray} {maxL nL mc ms n index : Nat} {ret : Option FieldType} {ws ws' : List Cond} {rm : Room} {Pc : Array Value → State → Prop} {Qc : Array Value → State → Outcome → State → Prop} {free : Addr → Prop} {Ts : List Cond} {own C : String} {b : Addr} {As rest : List Value} {g : JFrame}
variable {Qx : Array Value → State → Outcome → State → Nat → Nat → Prop}
theorem comeXH {hs : List (Nat × Nat × Nat × Nat)} {len : Nat} {ig : Instr} {mk : MethodId} {a : Array Value} {T : State} (hM : MetX l y ws rm Pc Qx free) (X : Stand p l e R s m args below meth c T locs cells slots)
    (hframes : rm.frames + 1 ≤ R.frames) (hlocals : 8 + (maxL + 11) + rm.locals ≤ R.locals)
    (hws : ∀ w ∈ ws, w.before a T = true) (hcode : (Cond.codeWith y bytes maxL ret hs).before a T = true) (hini : (Cond.initialized y.cls).before a T = true) (hc1 : cells + rm.cells ≤ R.cells) (hs1 : slots + rm.slots ≤ R.slots)
    (hg : g.method = m) (hsize : g.locals.size = c.maxLocals) (hdg : decode c.code g.pc = .ok (ig, len)) (hW : 2 * g.monitorRoom + (g.stack.map fun v => v.category).sum ≤ 8) (hn : T.methodNamed? y = some mk) (hP : Pc a (T.calling g mk a)) :
    ∃ (o : Outcome) (t B : State) (L : List Loc) (k n : Nat), Qx a (T.calling g mk a) o t k n ∧ B.heap = t.heap ∧ B.vm = t.vm ∧ (∀ q ∈ L, free q.base) ∧ Stand p l e R s m args below meth c B (locs ++ L) (cells + k) (slots + n) ∧
      ((∃ v, o = .returned v ∧ Steps p.tables e below (doInvoke e (T.setTop g) [] mk a).1 (B.setTop { g with pc := g.pc + len, stack := v.toList ++ g.stack })) ∨
       (∃ x, o = .threw x ∧ Steps p.tables e below (doInvoke e (T.setTop g) [] mk a).1 ((B.setTop g).pushFrame (.throwing x)))) := by
  obtain ⟨mk9, methY, cY, hn9, hmY, hcY, -, hlY, -, -, -, -⟩ := Cond.codeWith_spec hcode
  cases hn.symm.trans hn9
  obtain ⟨kY, hkY, -⟩ := className_of_methodNamed hn
  have hinitY : kY.init = .initialized := Cond.initialized_spec (findClass_of_methodNamed hn) hkY hini
  have h : At T g.method c below := by rw [hg]; exact X.here
  have happ : (headSpec ws rm).appliesLoose y e.platform (T.calling g mk a) = true :=
    Spec.appliesLoose_calling (g := g) h hdg hn hkY hinitY
      (X.room_calling (g := g) (R' := (headSpec ws rm).room) hsize hmY hcY hframes (by rw [hlY]; show 2 * g.monitorRoom + _ + _ + rm.locals ≤ R.locals; omega) hc1 hs1) (atoms_intro fun w hw => hws w hw)
  obtain ⟨mid, hmid⟩ := h.above
  have hfr : (T.setTop g).frames = (.java g :: mid) ++ below := by rw [State.frames_setTop' g h.top, hmid]; rfl
  obtain ⟨o, t, hsteps, -, hend, hq⟩ := Steps.callFree hM p X.admits X.cas X.clock (acts := []) hfr happ hP trivial
  rw [State.frames_setTop' g h.top] at hend
  obtain ⟨k, n, hq1, L, hfe, hL⟩ := (hq : ∃ k n, Qx a (T.calling g mk a) o t k n ∧ ∃ L, EndE (T.calling g mk a) o t L k n ∧ ∀ q ∈ L, free q.base)
  have hboth : (T.calling g mk a).WarmedH t.vm ∧ (T.calling g mk a).sameButNew ({ t with vm := (T.calling g mk a).vm } : State) L k n := hfe.elim (fun q => q.2) (fun q => q.2)
  obtain ⟨hW₂, e2, q2, q3, q4, q5, q6⟩ := hboth
  have e3 : t = ({ (T.calling g mk a).setFrames t.frames with heap := t.heap, slotsUsed := t.slotsUsed } : State).setVm t.vm := by
    have : t = ({ t with vm := (T.calling g mk a).vm } : State).setVm t.vm := rfl
    rw [e2] at this
    exact this
  have hW' : T.WarmedH t.vm := hW₂
  obtain ⟨g₀, hg0⟩ := Option.isSome_iff_exists.mp h.top
  obtain ⟨r, hr⟩ := State.topJava?_eq_some.mp hg0
  have hr' : (({ T with heap := t.heap, slotsUsed := t.slotsUsed } : State).setVm t.vm).frames = .java g₀ :: r := hr
  have hsame : T.sameButNew ({ T with heap := t.heap, slotsUsed := t.slotsUsed } : State) L k n := by
    refine ⟨?_, q2, q3, q4, q5, q6⟩
    obtain ⟨t', ht', -⟩ := State.frames_cons hr
    show ({ T with heap := t.heap, slotsUsed := t.slotsUsed } : State) = { T.setFrames T.frames with heap := t.heap, slotsUsed := t.slotsUsed }
    rw [State.setFrames_self ht']
  subst hg
  refine ⟨o, t, ({ T with heap := t.heap, slotsUsed := t.slotsUsed } : State).setVm t.vm, L, k, n, hq1, rfl, rfl, hL,
    ⟨X.admits, X.cas, X.clock, X.frames, X.room, X.hears, X.method, X.code, (X.here.setHeapUsed t.heap t.slotsUsed).setVm hW'.alike, X.tail, State.WarmedH.trans X.warmed hW', X.limits, X.bytes, X.same.trans (hsame.setVm s.vm)⟩, ?_⟩
  rcases hfe with hfe | hfe
  · obtain ⟨v, rfl⟩ := hfe.1
    refine Or.inl ⟨v, rfl, ?_⟩
    obtain ⟨c₂, i₂, len₂, hc₂, hd₂, hf₂⟩ := hend
    have hcc : c₂ = c := by
      have h1 : t.code? g.method = T.code? g.method := by rw [State.code?_eq, State.code?_eq, hW'.alike.method?]
      exact Option.some.inj (hc₂.symm.trans (h1.trans h.code))
    subst hcc
    have hlen : len₂ = len := by rw [hdg] at hd₂; cases hd₂; rfl
    subst hlen
    have hs₂ : t = (({ T with heap := t.heap, slotsUsed := t.slotsUsed } : State).setVm t.vm).setTop { g with pc := g.pc + len₂, stack := v.toList ++ g.stack } := by
      refine e3.trans ?_
      rw [hf₂, State.calling_eq h.top, State.setFrames_setFrames, State.setTop_of_frames _ hr', hr]
      rfl
    rw [← hs₂]
    exact hsteps
  · obtain ⟨x, rfl⟩ := hfe.1
    refine Or.inr ⟨x, rfl, ?_⟩
    have hf₂ : t.frames = .throwing x :: .java g :: T.frames.tail := hend
    have hs₂ : t = ((({ T with heap := t.heap, slotsUsed := t.slotsUsed } : State).setVm t.vm).setTop g).pushFrame (.throwing x) := by
      refine e3.trans ?_
      rw [hf₂, State.calling_eq h.top, State.setFrames_setFrames, State.pushFrame, State.frames_setTop _ hr', State.setTop_of_frames _ hr', State.setFrames_setFrames, hr]
      rfl
    rw [← hs₂]
    exact hsteps
end EITHERX
section EITHERX2
variable {p : Program} {l : Launch} {e : Env} {R : Room} {s : State} {m : MethodId} {args : Array Value} {below : List Frame} {meth : Method} {c : Code} {H : Heap} {locs : List Loc} {cells slots : Nat} {Q : State → Prop}
variable {y : MethodName} {bytes cc : ByteArray} {maxL nL mc ms n index : Nat} {ret : Option FieldType} {ws ws' : List Cond} {rm : Room} {Pc : Array Value → State → Prop} {Qc : Array Value → State → Outcome → State → Prop} {free : Addr → Prop} {Ts : List Cond} {own C : String} {b : Addr} {As rest st0 : List Value} {pc : Nat} {ls : Array Slot}
variable {Qx : Array Value → State → Outcome → State → Nat → Nat → Prop}
theorem e_callXH {hs : List (Nat × Nat × Nat × Nat)} (S : CallFix p m c cc nL s args Ts own) (hM : MetX l y ws rm Pc Qx free) (hG : GoodIn Ts ws) (hcw : Cond.codeWith y bytes maxL ret hs ∈ ws) (hfr : rm.frames + 1 ≤ R.frames) (hlo : 8 + (maxL + 11) + rm.locals ≤ R.locals) (hini : (Cond.initialized y.cls).before args s = true) (hl : (Cond.methodLink own index y).before args s = true) (hin : (Cond.instanceMethod y).before args s = true) (hse : (Cond.selects C y y).before args s = true) (hd : y.cls ≠ "java/lang/invoke/MethodHandle" ∧ y.cls ≠ "java/lang/invoke/VarHandle" ∧ (parseMethodDescriptor y.desc).map (fun d => d.parameters.length) = some n) (hp : PreV s H C b Pc As)
    (hn : As.length = n) (hsize : ls.size = nL) (hstack : st0 = As.reverse ++ .ref b :: rest) (hW : 2 * (F0 m pc ls st0).monitorRoom + (rest.map fun v => v.category).sum ≤ 8) (hdg : decode cc pc = .ok (.invokevirtual index, 3)) (hf : cells + rm.cells ≤ R.cells ∧ slots + rm.slots ≤ R.slots)
    (kk : ∀ (o : Outcome) (st₀ t B : State) (L : List Loc) (k9 n9 : Nat), st₀.heap = H → Qx (Value.ref b :: As).toArray st₀ o t k9 n9 → B.heap = t.heap → B.vm = t.vm → (∀ q ∈ L, free q.base) → Stand p l e R s m args below meth c B (locs ++ L) (cells + k9) (slots + n9) →
      (∀ v, o = .returned v → ∃ t2, Steps p.tables e below (B.setTop (F0 m (pc + 3) ls (v.toList ++ rest))) t2 ∧ Q t2) ∧ (∀ x, o = .threw x → ∃ t2, Steps p.tables e below ((B.setTop (F0 m pc ls rest)).pushFrame (.throwing x)) t2 ∧ Q t2)) : W p l e R s m args below meth c H locs cells slots Q (F0 m pc ls st0) := by
  obtain ⟨hx, hb, hml, ho, hts⟩ := S
  have hws := pay_in hts hG
  have hy : y.cls ≠ "java/lang/invoke/MethodHandle" ∧ y.cls ≠ "java/lang/invoke/VarHandle" := ⟨hd.1, hd.2.1⟩
  obtain ⟨hbl, ⟨cellB, hcB, hoB, hclB⟩, hPc⟩ := hp
  intro T hT X
  obtain ⟨mk, methM, hnamed, hmethM, hstM, habM⟩ := Cond.instanceMethod_spec hin
  obtain ⟨mk9, methM', cM, hn9, hmethM', -, -, -, -, -, -, hsigM⟩ := Cond.codeWith_spec (hts _ (hG _ hcw).1)
  cases hnamed.symm.trans hn9
  cases hmethM.symm.trans hmethM'
  obtain ⟨c2, r2, m2, q1, q2, q3, q4, kP, hkP, hkPi⟩ := Cond.selects_spec hse
  cases hclB.symm.trans q1
  cases (State.methodFound?_of_named hnamed hy).symm.trans q2
  cases hnamed.symm.trans q3
  have hselP : selectMethod e.platform s.vm cellB.cls mk = .method mk := by rw [Launch.admits_selectMethod X.admits]; exact q4
  obtain ⟨vm₁, X₁, hstep₁⟩ := X.invokevirtual hx ho hl hnamed hmethM hstM hkP hkPi hy (a := b) (cell := cellB) (by rw [hT]; exact hcB)
    (fun z h => by rw [h] at hoB; cases hoB) hselP hmethM habM hkP hkPi (g := F0 m pc ls st0) rfl (argsL := As) (rest := rest) (hn.trans (by have h2 := hd.2.2; rw [hsigM] at h2; exact (Option.some.inj h2).symm)) hstack (by rw [hb]; exact hdg)
  have hh1 : (T.setVm vm₁).heap = H := hT
  have hmk : (T.setVm vm₁).methodNamed? y = some mk := X₁.named hnamed
  obtain ⟨o, t, B, L, k9, n9, hq, e1, e2, hL, X', hend⟩ := comeXH (hs := hs) (a := (Value.ref b :: As).toArray) (g := F0 m pc ls rest) (ig := .invokevirtual index) (len := 3) (mk := mk) (bytes := bytes) (ret := ret) hM X₁ hfr hlo
    (fun w hw => hws w hw _ _ X₁.warmed) (hws _ hcw _ _ X₁.warmed) (word_at X₁.warmed (Or.inl (by first | rfl | simp [Cond.onTables, Cond.keeps, Cond.steady])) hini) hf.1 hf.2 rfl (hsize.trans hml.symm) (by rw [hb]; exact hdg) hW hmk (hbl _ _ _ _ (hPc _ hh1 X₁.warmed))
  obtain ⟨k1, k2⟩ := kk o ((T.setVm vm₁).calling (F0 m pc ls rest) mk (Value.ref b :: As).toArray) t B L k9 n9 hT hq e1 e2 hL X'
  rcases hend with ⟨v, hv, st⟩ | ⟨x, hv, st⟩
  · obtain ⟨t2, a1, b1⟩ := k1 v hv
    exact ⟨t2, hstep₁ _ (fun acts => by rw [doInvoke_state]; exact st.trans a1), b1⟩
  · obtain ⟨t2, a1, b1⟩ := k2 x hv
    exact ⟨t2, hstep₁ _ (fun acts => by rw [doInvoke_state]; exact st.trans a1), b1⟩
end EITHERX2
section LAWZ
variable {p : Program} {l : Launch} {e : Env} {R : Room} {s : State} {m : MethodId} {args : Array Value} {below : List Frame} {meth : Method} {c : Code} {H : Heap} {locs : List Loc} {cells slots : Nat} {Q : State → Prop}
variable {y : MethodName} {bytes cc : ByteArray} {maxL nL n index : Nat} {ret : Option FieldType} {ws ws' : List Cond} {rm : Room} {Ts : List Cond} {own C : String} {b : Addr} {As rest st0 : List Value} {pc : Nat} {ls : Array Slot} {free : Addr → Prop} {g0 : JFrame}
variable {D : va_G} {tys : List (ClassId × FieldType)} {L : List Nat} {kd : Nat → Nat} {f0 f : Nat → va_E} {md mds : List (Nat × Nat)} {ma mas : List Nat} {fx fx' : List Fct} {postR : Option Value → (Nat → va_E) → Nat → Prop} {postT : (Nat → va_E) → Nat → Prop} {Pp : State → Prop}
variable {Qx : Array Value → State → Outcome → State → Nat → Nat → Prop}
theorem g_callZH {hs : List (Nat × Nat × Nat × Nat)} {post : Int32 → (Nat → va_E) → Nat → Prop} (S : CallFix p m c cc nL s args Ts own) (hM : MetX l y ws rm (va_Pc (.ref b :: As) Pp) (q3Z D L kd tys mds mas f H.size (pXi post) (fun _ _ => False)) (pA L H.size)) (hG : GoodIn Ts ws) (hcw : Cond.codeWith y bytes maxL ret hs ∈ ws) (hfr : rm.frames + 1 ≤ R.frames) (hlo : 8 + (maxL + 11) + rm.locals ≤ R.locals) (hini : (Cond.initialized y.cls).before args s = true) (hl : (Cond.methodLink own index y).before args s = true) (hin : (Cond.instanceMethod y).before args s = true) (hse : (Cond.selects C y y).before args s = true) (hd : y.cls ≠ "java/lang/invoke/MethodHandle" ∧ y.cls ≠ "java/lang/invoke/VarHandle" ∧ (parseMethodDescriptor y.desc).map (fun d => d.parameters.length) = some n) (hp : PreV s H C b (va_Pc (.ref b :: As) Pp) As)
    (hn : As.length = n) (hsize : ls.size = nL) (hstack : st0 = As.reverse ++ .ref b :: rest) (hW : 2 * (F0 m pc ls st0).monitorRoom + (rest.map fun v => v.category).sum ≤ 8) (hdg : decode cc pc = .ok (.invokevirtual index, 3)) (hf : cells + rm.cells ≤ R.cells ∧ slots + rm.slots ≤ R.slots)
    (g : G3 D L kd tys s f0 md ma f H locs fx) (hK : va_K D vwCl tys s) (hmd : mds.all (fun q => md.contains q) = true) (hma : mas.all (fun q => ma.contains q) = true) (hfx : fx.filter (fun q => !(mds.contains (q.1, q.2.1))) = fx')
    (kk : ∀ (r : Int32) (f1 : Nat → va_E) (H1 : Heap) (locs1 : List Loc) (k : Nat), post r f1 k → Md L kd mds mas f f1 → G3 D L kd tys s f0 md ma f1 H1 locs1 fx' → W p l e R s m args below meth c H1 locs1 (cells + k) (slots + 3 * k) Q (F0 m (pc + 3) ls (.int r :: rest))) : W p l e R s m args below meth c H locs cells slots Q (F0 m pc ls st0) := by
  refine e_callXH S hM hG hcw hfr hlo hini hl hin hse hd hp hn hsize hstack hW hdg hf (fun o st₀ t B L1 k9 n9 hst hq e1 e2 hL X' => ?_)
  obtain ⟨hn9, ⟨f1, hor, hq3⟩, hz, hk⟩ := hq
  subst hn9
  rw [hst] at hz hk
  have hup : ∀ q, pA L H.size q → pA L s.heap.size q := fun q h => h.elim Or.inl (fun h => Or.inr (Nat.le_trans g.2.2.1.1 h))
  have hS1 : va_S (pA L s.heap.size) s.heap B.heap (locs ++ L1) := ⟨Nat.le_trans g.2.2.1.1 (by rw [e1]; exact hz), fun q h1 h2 => by rw [e1, hk q (Nat.lt_of_lt_of_le h1 g.2.2.1.1) (fun z => h2 (hup q z))]; exact g.2.2.1.2.1 q h1 h2, fun q hq => by
    rcases List.mem_append.mp hq with h | h
    · exact g.2.2.1.2.2 q h
    · exact hup _ (hL q h)⟩
  have g1 := g.call hK e1.symm hq3 hS1 hmd hma hfx
  refine ⟨fun v hv => ?_, fun x hx => ?_⟩
  · rcases hor with ⟨v', hv', hpo⟩ | ⟨x', hx', -, -, hF⟩
    · rw [hv] at hv'
      cases hv'
      obtain ⟨r, rfl, hpo⟩ := hpo
      exact kk r f1 B.heap (locs ++ L1) k9 hpo hq3.2.1 g1 B rfl X'
    · exact hF.elim
  · rcases hor with ⟨v', hv', hpo⟩ | ⟨x', hx', -, -, hF⟩
    · rw [hx] at hv'
      cases hv'
    · exact hF.elim
end LAWZ
section LAWI
variable {s : State} {H : Heap} {locs : List Loc} {D : va_G} {tys : List (ClassId × FieldType)} {L : List Nat} {kd : Nat → Nat} {f0 f f1 : Nat → va_E} {md : List (Nat × Nat)} {ma : List Nat} {fx : List Fct} {x m q0 q1 q4 q5 q6 n q t T : Nat} {V : PV} {δ : Nat → Nat}
theorem G3.re (g : G3 D L kd tys s f0 md ma f H locs fx) {md' : List (Nat × Nat)} {ma' : List Nat} : G3 D L kd tys s f md' ma' f H locs [] := ⟨g.1, g.2.1, g.2.2.1, g.2.2.2.1, Fs.nil, Md.rf⟩
/-- where the parts of the class and of the reference lie -/
def LA (L : List Nat) (kd : Nat → Nat) (x m q0 q1 q4 q5 q6 : Nat) : Prop := (x ∈ L ∧ kd x = 11) ∧ (m ∈ L ∧ kd m = 14) ∧ (q0 ∈ L ∧ kd q0 = 2) ∧ (q1 ∈ L ∧ kd q1 = 10) ∧ (q4 ∈ L ∧ kd q4 = 8) ∧ (q5 ∈ L ∧ kd q5 = 5) ∧ (q6 ∈ L ∧ kd q6 = 0)
/-- the class between two calls -/
def XI (L : List Nat) (kd : Nat → Nat) (f : Nat → va_E) (x q0 q1 q4 q5 q6 : Nat) : Prop := (fV f x 2 = .ref q0 ∧ fV f x 3 = .ref q1 ∧ fV f q0 0 = .ref q4 ∧ fV f q0 1 = .ref q5 ∧ fV f q0 2 = .ref q6 ∧ fV f q6 0 = .ref q4 ∧ fV f q6 1 = .ref q5) ∧ (∃ t1 t2 : Nat, (t1 ∈ L ∧ kd t1 = 7) ∧ (t2 ∈ L ∧ kd t2 = 7) ∧ fV f x 4 = .ref t1 ∧ fV f x 5 = .ref t2 ∧ fV f q1 0 = .ref t1 ∧ dOK L kd f t2 t1) ∧ RP L kd f q1 ∧ eOK f q6
/-- the reference between two calls -/
def MI (L : List Nat) (kd : Nat → Nat) (f : Nat → va_E) (m : Nat) : Prop := ∃ (n q : Nat) (V : PV) (δ : Nat → Nat), (n ∈ L ∧ kd n = 12) ∧ (q ∈ L ∧ kd q = 12) ∧ RI f m n q V δ
/-- both tapes are of one length -/
def TI (f : Nat → va_E) (x m : Nat) : Prop := ∃ t : Int32, bd 0 4000 t ∧ fV f x 1 = .int t ∧ fV f m 4 = .int t
theorem all_m {α : Type} {p1 p2 : α → Bool} {l : List α} (h : l.all p1 = true) (hi : ∀ y, p1 y = true → p2 y = true) : l.all p2 = true := List.all_eq_true.mpr fun y hy => hi y (List.all_eq_true.mp h y hy)
theorem md_fix {j : Nat} {a ci : Nat} (hM : Md L kd md ma f f1) (ha : a ∈ L ∧ kd a = ci) (hci : ci < 100) (h : (ci, j) ∉ md) : fV f1 a j = fV f a j := (hM a ha.1).1 j (by omega) (by rw [ha.2]; exact h)
theorem no_lo {y : Nat × Nat} (h : (md.all fun y => decide (12 ≤ y.1)) = true) (hy : y.1 < 12) : y ∉ md := fun z => by
  have := List.all_eq_true.mp h y z
  simp only [decide_eq_true_eq] at this
  omega
theorem no_hi {y : Nat × Nat} (h : (md.all fun y => decide (y.1 < 12)) = true) (hy : 12 ≤ y.1) : y ∉ md := fun z => by
  have := List.all_eq_true.mp h y z
  simp only [decide_eq_true_eq] at this
  omega
theorem nc_lo {y : Nat × Nat} (h : (md.all fun y => decide (12 ≤ y.1)) = true) (hy : y.1 < 12) : (!(md.contains y)) = true := by
  have := no_lo h hy
  simpa using this
theorem ncA_lo {K : Nat} (h : (ma.all fun k => decide (157 ≤ k)) = true) (hy : K < 157) : (!(ma.contains K)) = true := by
  have h2 : K ∉ ma := fun z => by
    have := List.all_eq_true.mp h K z
    simp only [decide_eq_true_eq] at this
    omega
  simpa using h2
/-- a call of the reference leaves the class as it was -/
theorem XI.frm (h : XI L kd f x q0 q1 q4 q5 q6) (hA : LA L kd x m q0 q1 q4 q5 q6) (hM : Md L kd md ma f f1) (hW : WT L kd tys f) (h1 : (md.all fun y => decide (12 ≤ y.1)) = true) (h2 : (ma.all fun k => decide (157 ≤ k)) = true) : XI L kd f1 x q0 q1 q4 q5 q6 := by
  obtain ⟨⟨a1, a2, a3, a4, a5, a6, a7⟩, ⟨t1, t2, b1, b2, b3, b4, b5, b6⟩, c1, c2⟩ := h
  obtain ⟨k1, k2, k3, k4, k5, k6, k7⟩ := hA
  have e : ∀ {a ci j : Nat}, a ∈ L ∧ kd a = ci → ci < 12 → fV f1 a j = fV f a j := fun ha hc => md_fix hM ha (by omega) (no_lo h1 hc)
  refine ⟨⟨(e k1 (by decide)).trans a1, (e k1 (by decide)).trans a2, (e k3 (by decide)).trans a3, (e k3 (by decide)).trans a4, (e k3 (by decide)).trans a5, (e k7 (by decide)).trans a6, (e k7 (by decide)).trans a7⟩, ⟨t1, t2, b1, b2, (e k1 (by decide)).trans b3, (e k1 (by decide)).trans b4, (e k4 (by decide)).trans b5, ?_⟩, ?_, ?_⟩
  · refine dOK.frame hM hW b2.1 b2.2 ?_ ?_ b6
    · simp only [List.all_cons, List.all_nil, Bool.and_true, Bool.and_eq_true]
      exact ⟨nc_lo h1 (by decide), nc_lo h1 (by decide), nc_lo h1 (by decide)⟩
    · simp only [List.all_cons, List.all_nil, Bool.and_true, Bool.and_eq_true]
      exact ⟨ncA_lo h2 (by decide), ncA_lo h2 (by decide)⟩
  · refine RP.frame hM hW k4.1 k4.2 (all_m h1 fun y hy => ?_) (all_m h2 fun y hy => ?_) c1
    · simp only [decide_eq_true_eq] at hy
      simp only [Bool.and_eq_true, bne_iff_ne, ne_eq]
      refine ⟨⟨fun z => ?_, fun z => ?_⟩, by omega⟩
      · rw [z] at hy
        exact absurd hy (by decide)
      · rw [z] at hy
        exact absurd hy (by decide)
    · simp only [decide_eq_true_eq] at hy
      simp only [Bool.and_eq_true, bne_iff_ne, ne_eq]
      omega
  · refine eOK.frame hM hW k7.1 k7.2 ?_ ?_ c2
    · simp only [List.all_cons, List.all_nil, Bool.and_true, Bool.and_eq_true]
      exact ⟨nc_lo h1 (by decide), nc_lo h1 (by decide)⟩
    · simp only [List.all_cons, List.all_nil, Bool.and_true, Bool.and_eq_true]
      exact ⟨ncA_lo h2 (by decide), ncA_lo h2 (by decide)⟩
/-- a call of the class leaves the reference as it was -/
theorem MI.frx (h : MI L kd f m) (hm : m ∈ L ∧ kd m = 14) (hM : Md L kd md ma f f1) (g : G3 D L kd tys s f md ma f1 H locs fx) (hW : WT L kd tys f) (h1 : (md.all fun y => decide (y.1 < 12)) = true) (h2 : (ma.all fun k => decide (k < 157)) = true) : MI L kd f1 m := by
  obtain ⟨n, q, V, δ, hn, hq, r1, r2, r3, r4, r5, r6, r7, r8⟩ := h
  have ne : ∀ {y z : Nat × Nat}, decide (y.1 < 12) = true → 12 ≤ z.1 → (y != z) = true := fun {y z} hy hz => by
    simp only [decide_eq_true_eq] at hy
    simp only [bne_iff_ne, ne_eq]
    intro w
    rw [w] at hy
    omega
  have nk : ∀ {y z : Nat}, decide (y < 157) = true → 157 ≤ z → (y != z) = true := fun {y z} hy hz => by
    simp only [decide_eq_true_eq] at hy
    simp only [bne_iff_ne, ne_eq]
    omega
  have ad : ∀ {z : Nat × Nat}, 12 ≤ z.1 → (md.all fun y => y != z) = true := fun hz => all_m h1 fun y hy => ne hy hz
  have aa : ∀ {z : Nat}, 157 ≤ z → (ma.all fun y => y != z) = true := fun hz => all_m h2 fun y hy => nk hy hz
  have w1 : wMd md = true := by
    unfold wMd
    simp only [Bool.and_eq_true]
    exact ⟨⟨⟨ad (by decide), ad (by decide)⟩, ad (by decide)⟩, ad (by decide)⟩
  have w2 : wMa ma = true := by
    unfold wMa
    simp only [Bool.and_eq_true]
    exact ⟨⟨⟨aa (by decide), aa (by decide)⟩, aa (by decide)⟩, aa (by decide)⟩
  refine ⟨n, q, V, δ, hn, hq, isV.frame hM hW hn.1 hn.2 (all_m h1 fun y hy => ?_) (all_m h2 fun y hy => ?_) r1, r2, mOK.frame hM hW hn.1 hn.2 (ad (by decide)) (aa (by decide)) r3, rOK.frame hM hW hm.1 hm.2 ?_ w2 r4, oOK.frame hM hW hm.1 hm.2 ?_ (aa (by decide)) r5, apP.call r6 g hn.1 hn.2 hq.1 hq.2 (all_m h1 fun y hy => ?_), (md_fix hM hm (by decide) (no_hi h1 (by decide))).trans r7, (md_fix hM hm (by decide) (no_hi h1 (by decide))).trans r8⟩
  · simp only [decide_eq_true_eq] at hy
    simp only [bne_iff_ne, ne_eq]
    omega
  · simp only [decide_eq_true_eq] at hy
    simp only [Bool.or_eq_true, decide_eq_true_eq, beq_iff_eq]
    omega
  · simp only [Bool.and_eq_true]
    exact ⟨⟨w1, ad (by decide)⟩, ad (by decide)⟩
  · simp only [Bool.and_eq_true]
    exact ⟨ad (by decide), ad (by decide)⟩
  · simp only [decide_eq_true_eq] at hy
    have : (y.1 != 12) = true := by
      simp only [bne_iff_ne, ne_eq]
      omega
    rw [this]
    rfl
theorem TI.fr (h : TI f x m) (hx : x ∈ L ∧ kd x = 11) (hm : m ∈ L ∧ kd m = 14) (hM : Md L kd md ma f f1) (h1 : (11, 1) ∉ md) (h2 : (14, 4) ∉ md) : TI f1 x m := by
  obtain ⟨t, b1, b2, b3⟩ := h
  exact ⟨t, b1, (md_fix hM hx (by decide) h1).trans b2, (md_fix hM hm (by decide) h2).trans b3⟩
/-- the text that was read takes the other's place -/
theorem dOK.sym_ (h : dOK L kd f t T) (ht : t ∈ L ∧ kd t = 7) (hc : cOK f t) : dOK L kd f T t := ⟨ht.1, ht.2, fun z => h.2.2.1 z.symm, hc, fun i j b hi hj e1 e2 => h.2.2.2.2 j i b hj hi e2 e1⟩
theorem law_in {y a z : Int32} {i k N : Nat} (hy : y = a + z) (ha : a = nI i) (hz : z = nI k) (h : i + k < N) (hN : N < 2 ^ 31) : vp_in y N := by
  subst hz
  subst ha
  subst hy
  rw [nI_add]
  exact vp_in_nI h hN
theorem XI.frx (h : XI L kd f x q0 q1 q4 q5 q6) (hA : LA L kd x m q0 q1 q4 q5 q6) (hM : Md L kd md ma f f1) (hW : WT L kd tys f) (hR : RP L kd f1 q1) (h1 : (md.all fun y => !(([(11, 2), (11, 3), (11, 4), (11, 5), (2, 0), (2, 1), (2, 2), (0, 0), (0, 1), (10, 0), (7, 4), (7, 5), (7, 6), (0, 3), (0, 5)] : List (Nat × Nat)).contains y)) = true) (h2 : (ma.all fun k => !(([138, 139, 110, 112] : List Nat).contains k)) = true) : XI L kd f1 x q0 q1 q4 q5 q6 := by
  obtain ⟨⟨a1, a2, a3, a4, a5, a6, a7⟩, ⟨t1, t2, b1, b2, b3, b4, b5, b6⟩, c1, c2⟩ := h
  obtain ⟨k1, k2, k3, k4, k5, k6, k7⟩ := hA
  have no : ∀ y : Nat × Nat, y ∈ ([(11, 2), (11, 3), (11, 4), (11, 5), (2, 0), (2, 1), (2, 2), (0, 0), (0, 1), (10, 0), (7, 4), (7, 5), (7, 6), (0, 3), (0, 5)] : List (Nat × Nat)) → y ∉ md := fun y hy hm => by
    have := List.all_eq_true.mp h1 y hm
    rw [List.contains_iff_mem.mpr hy] at this
    exact absurd this (by decide)
  have nA : ∀ y : Nat, y ∈ ([138, 139, 110, 112] : List Nat) → y ∉ ma := fun y hy hm => by
    have := List.all_eq_true.mp h2 y hm
    rw [List.contains_iff_mem.mpr hy] at this
    exact absurd this (by decide)
  have nc : ∀ y : Nat × Nat, y ∈ ([(11, 2), (11, 3), (11, 4), (11, 5), (2, 0), (2, 1), (2, 2), (0, 0), (0, 1), (10, 0), (7, 4), (7, 5), (7, 6), (0, 3), (0, 5)] : List (Nat × Nat)) → (!(md.contains y)) = true := fun y hy => by
    have := no y hy
    simpa using this
  have nd : ∀ y : Nat, y ∈ ([138, 139, 110, 112] : List Nat) → (!(ma.contains y)) = true := fun y hy => by
    have := nA y hy
    simpa using this
  have e : ∀ {a ci j : Nat}, a ∈ L ∧ kd a = ci → ci < 12 → (ci, j) ∈ ([(11, 2), (11, 3), (11, 4), (11, 5), (2, 0), (2, 1), (2, 2), (0, 0), (0, 1), (10, 0), (7, 4), (7, 5), (7, 6), (0, 3), (0, 5)] : List (Nat × Nat)) → fV f1 a j = fV f a j := fun ha hc hj => md_fix hM ha (by omega) (no _ hj)
  refine ⟨⟨(e k1 (by decide) (by decide)).trans a1, (e k1 (by decide) (by decide)).trans a2, (e k3 (by decide) (by decide)).trans a3, (e k3 (by decide) (by decide)).trans a4, (e k3 (by decide) (by decide)).trans a5, (e k7 (by decide) (by decide)).trans a6, (e k7 (by decide) (by decide)).trans a7⟩, ⟨t1, t2, b1, b2, (e k1 (by decide) (by decide)).trans b3, (e k1 (by decide) (by decide)).trans b4, (e k4 (by decide) (by decide)).trans b5, ?_⟩, hR, ?_⟩
  · refine dOK.frame hM hW b2.1 b2.2 ?_ ?_ b6
    · simp only [List.all_cons, List.all_nil, Bool.and_true, Bool.and_eq_true]
      exact ⟨nc _ (by decide), nc _ (by decide), nc _ (by decide)⟩
    · simp only [List.all_cons, List.all_nil, Bool.and_true, Bool.and_eq_true]
      exact ⟨nd _ (by decide), nd _ (by decide)⟩
  · refine eOK.frame hM hW k7.1 k7.2 ?_ ?_ c2
    · simp only [List.all_cons, List.all_nil, Bool.and_true, Bool.and_eq_true]
      exact ⟨nc _ (by decide), nc _ (by decide)⟩
    · simp only [List.all_cons, List.all_nil, Bool.and_true, Bool.and_eq_true]
      exact ⟨nd _ (by decide), nd _ (by decide)⟩
theorem Fs.cons_ {a ci j : Nat} {v : Value} (ha : a ∈ L ∧ kd a = ci) (hci : ci < 100) (e : fV f a j = v) (r : Fs L kd f fx) : Fs L kd f ((ci, j, a, v) :: fx) := fun y hy => by
  rcases List.mem_cons.mp hy with rfl | hy
  · exact ⟨ha.1, ha.2, hci, e⟩
  · exact r y hy
theorem Fs.at9 {i : Nat} {y : Fct} (h : Fs L kd f fx) (hi : fx[i]? = some y) : y.2.2.1 ∈ L ∧ kd y.2.2.1 = y.1 ∧ y.1 < 100 ∧ fV f y.2.2.1 y.2.1 = y.2.2.2 := h y (List.mem_of_getElem? hi)
theorem i32_eq {u v : Int32} (h : u.toInt = v.toInt) : u = v := Int32.toInt_inj.mp h
end LAWI
section LAWS
variable {p : Program} {l : Launch} {e : Env} {R : Room} {s : State} {m : MethodId} {H H3 H4 : Heap} {locs : List Loc} {D : va_G} {tys tys1 tys2 : List (ClassId × FieldType)} {L L1 L2 : List Nat} {kd kd1 kd2 : Nat → Nat} {f0 f f1 f2 : Nat → va_E} {md : List (Nat × Nat)} {ma : List Nat} {ax am n q t r r' p' m' p9 m9 : Nat} {A A' : Nat → Nat} {B : Nat → Prop}
theorem pre_new {e1 : va_E} {adK adV : Nat → Nat} (hP : va_P D vwCl [(q, e1)] H) (hK : va_K D vwCl tys s) (hAm : am_ adK adV B s s.heap) (hkept : ∀ a : Nat, a < s.heap.size → ¬ B a → H[a]? = s.heap[a]?) (hN : ∀ y, va_A [(q, e1)] H.size y → B y) : PreS s H (va_Pc [.ref q] (CPre D q e1 [] adK adV H.size)) [.ref q] := ⟨cpre_blind, fun U hU hW => ⟨rfl, by rw [hU], by rw [hU]; exact hP, va_K.moved hW.alike ⟨hK.1, fun k x hk => by simp at hk⟩, va_Dn.mpr ⟨List.nodup_cons.mpr ⟨List.not_mem_nil, List.nodup_nil⟩, fun _ _ => trivial⟩, by rw [hU]; exact ((hAm.kept hkept).narrow hN).warm hW, fun a ha => absurd ha List.not_mem_nil⟩⟩
/-- both worlds, side by side -/
theorem law_merge {e1 : va_E} (hP3 : va_P D vwCl (va_pl L1 f1 ++ [(q, e1)]) H3) (hD3 : va_D B (va_pl L1 f1 ++ [(q, e1)])) (hk : ∀ y : Nat, y < H3.size → ¬ va_A [(q, e1)] H3.size y → H4[y]? = H3[y]?) (hP4 : va_P D vwCl (va_pl L2 f2) H4) (hD4 : va_D (va_A [(q, e1)] H3.size) (va_pl L2 f2)) (hW1 : ∀ a ∈ L1, okE ([] ++ L1) kd1 tys1 (kd1 a) (f1 a)) (hW2 : WT L2 kd2 tys2 f2) (hN : ∀ y, va_A [(q, e1)] H3.size y → B y) : ∃ (kd : Nat → Nat) (f : Nat → va_E), Mo L1 kd1 f1 (L1 ++ L2) kd f ∧ Mo L2 kd2 f2 (L1 ++ L2) kd f ∧ va_P D vwCl (va_pl (L1 ++ L2) f) H4 ∧ va_D B (va_pl (L1 ++ L2) f) ∧ WT (L1 ++ L2) kd (tys1 ++ tys2) f := by
  obtain ⟨n1, n2⟩ := va_Dn.mp hD3
  obtain ⟨k1, k2⟩ := va_Dn.mp hD4
  rw [List.map_append, pl_fst, List.nodup_append] at n1
  rw [pl_fst] at k1
  have hlt : ∀ a ∈ L1, a < H3.size := fun a ha => (va_Pat hP3 (List.mem_append_left _ (pl_mem.mpr ⟨ha, rfl⟩ : (a, f1 a) ∈ va_pl L1 f1))).lt
  have hne : ∀ a ∈ L1, a ≠ q := fun a ha => n1.2.2 a ha q (List.mem_singleton.mpr rfl)
  have hno : ∀ a ∈ L1, a ∉ L2 := fun a ha hb => by
    rcases A_one (k2 (a, f2 a) (pl_mem.mpr ⟨hb, rfl⟩)) with z | z
    · exact hne a ha z
    · have := hlt a ha
      omega
  have fo : ∀ a ∈ L1, (if a ∈ L2 then f2 a else f1 a) = f1 a := fun a ha => if_neg (hno a ha)
  have fn : ∀ a ∈ L2, (if a ∈ L2 then f2 a else f1 a) = f2 a := fun a ha => if_pos ha
  have ko : ∀ a ∈ L1, (if a ∈ L2 then kd2 a else kd1 a) = kd1 a := fun a ha => if_neg (hno a ha)
  have kn : ∀ a ∈ L2, (if a ∈ L2 then kd2 a else kd1 a) = kd2 a := fun a ha => if_pos ha
  refine ⟨fun a => if a ∈ L2 then kd2 a else kd1 a, fun a => if a ∈ L2 then f2 a else f1 a, fun a ha => ⟨List.mem_append_left _ ha, ko a ha, fo a ha⟩, fun a ha => ⟨List.mem_append_right _ ha, kn a ha, fn a ha⟩, fun k x hk9 => ?_, va_Dn.mpr ⟨?_, fun x hx => ?_⟩, fun a ha => ?_⟩
  · obtain ⟨z1, z2⟩ := pl_mem.mp (List.mem_of_getElem? hk9)
    rcases List.mem_append.mp z1 with z | z
    · have hx : x ∈ va_pl L1 f1 ++ [(q, e1)] := List.mem_append_left _ (pl_mem.mpr ⟨z, z2.trans (fo _ z)⟩)
      refine (va_Pat hP3 hx).kept (hk x.1 (hlt _ z) (fun y => ?_))
      rcases A_one y with w | w
      · exact hne _ z w
      · have := hlt _ z
        omega
    · exact va_Pat hP4 (pl_mem.mpr ⟨z, z2.trans (fn _ z)⟩)
  · rw [pl_fst]
    exact List.nodup_append.mpr ⟨n1.1, k1, fun a ha b hb hab => hno a ha (hab ▸ hb)⟩
  · obtain ⟨z1, z2⟩ := pl_mem.mp hx
    rcases List.mem_append.mp z1 with z | z
    · exact n2 (x.1, f1 x.1) (List.mem_append_left _ (pl_mem.mpr ⟨z, rfl⟩))
    · exact hN _ (k2 (x.1, f2 x.1) (pl_mem.mpr ⟨z, rfl⟩))
  · rcases List.mem_append.mp ha with z | z
    · show okE _ _ _ (if a ∈ L2 then kd2 a else kd1 a) (if a ∈ L2 then f2 a else f1 a)
      rw [ko a z, fo a z]
      exact okE.up (fun b hb => ⟨List.mem_append_left _ hb, ko b hb⟩) (fun x hx => List.mem_append_left _ hx) (hW1 a z)
    · show okE _ _ _ (if a ∈ L2 then kd2 a else kd1 a) (if a ∈ L2 then f2 a else f1 a)
      rw [kn a z, fn a z]
      exact okE.up (fun b hb => ⟨List.mem_append_right _ hb, kn b hb⟩) (fun x hx => List.mem_append_right _ hx) (hW2 a z)
theorem pk_of {r p m : Nat} (h : rowG L kd f r p m A) : pkQ L kd f r p m A (fun i => aI f m i, fun i => aI f (A i) 0) 0 0 := by
  obtain ⟨a1, a2, a3, a4, a5, a6, a7, a8, a9, a10⟩ := h
  exact ⟨a1, a7, a2, a3, a4, a5, a6, ⟨by decide, by decide⟩, ⟨by decide, by decide⟩, a10, ⟨a2.1, a2.2, a8, a9, fun _ => rfl, fun _ _ => rfl⟩, wQ.zero (by decide) (by decide)⟩
theorem RP.of_ {p m : Nat} (h1 : rowG L kd f r p m A) (h2 : rowG L kd f r' p' m' A') (ha : apQ r r' m m' A A') (e2 : fV f t 2 = .ref r) (e3 : fV f t 3 = .ref r') : RP L kd f t := ⟨_, _, _, _, _, _, _, _, _, _, 0, 0, 0, 0, e2, e3, pk_of h1, pk_of h2, ha⟩
theorem eOK.zero_ {e1 : Nat} (hz : ∀ a ∈ L, ∀ i, aI f a i = 0) (hW : okE L kd tys 0 (f e1)) : eOK f e1 := fun o a h3 h5 i _ => by
  have ho := own_ref hW (by decide) h3
  have ha := own_ref hW (by decide) h5
  rw [hz o ho, hz a ha]
  exact ⟨fun z => absurd z (by decide), fun z => absurd z (by decide)⟩
theorem mi_of (g : G3 D L kd tys s f0 md ma f H locs [(14, 1, am, .ref n), (14, 2, am, .ref q), (14, 4, am, .int 0), (14, 30, am, .int 0), (14, 51, am, .int 0), (14, 52, am, .int 0), (12, 0, n, .int 0), (12, 27, n, .int 0), (12, 46, n, .int 0), (12, 57, n, .int 0)]) (hn : n ∈ L ∧ kd n = 12) (hq : q ∈ L ∧ kd q = 12) (hap : apP f n q) : MI L kd f am := by
  obtain ⟨V, hV⟩ := isV.ex g hn.1 hn.2
  have z : ∀ j, jN j = true → fV f n j = .int 0 → (V.n j).toInt = 0 := fun j hj h => by
    have h1 : Value.int (V.n j) = .int 0 := (hV.2.2 j hj).symm.trans h
    rw [Value.int.inj h1]
    decide
  have h0 := z 0 rfl (fx_at g (i := 6) rfl).2.2.2
  have h27 := z 27 rfl (fx_at g (i := 7) rfl).2.2.2
  have h46 := z 46 rfl (fx_at g (i := 8) rfl).2.2.2
  have h57 := z 57 rfl (fx_at g (i := 9) rfl).2.2.2
  exact ⟨n, q, V, fun _ => 0, hn, hq, hV, (KC.zero h0 h27 h46 h57).1, fun j hj => absurd hj (by omega), rOK.zero isW.refl g 4 5 rfl rfl, oOK.zero g 3 rfl, hap, (fx_at g (i := 0) rfl).2.2.2, (fx_at g (i := 1) rfl).2.2.2⟩
theorem Mo.ap (h : apP f n q) {L1 : List Nat} {kd1 : Nat → Nat} {f1 : Nat → va_E} (h2 : Mo L kd f L1 kd1 f1) (hn : n ∈ L) (hq : q ∈ L) : apP f1 n q := by
  obtain ⟨a1, a2, a3, a4⟩ := h
  exact ⟨a1, fun j hc => a2 j ((h2.fv hq).symm.trans hc), fun j hc => a3 j ((h2.fv hn).symm.trans hc), fun i j b e1 e2 => a4 i j b ((h2.fv hn).symm.trans e1) ((h2.fv hq).symm.trans e2)⟩
theorem Mo.fs {fx : List Fct} (h : Fs L kd f fx) (h2 : Mo L kd f L1 kd1 f1) : Fs L1 kd1 f1 fx := fun y hy => by
  obtain ⟨b1, b2, b3, b4⟩ := h y hy
  exact ⟨(h2 _ b1).1, (h2 _ b1).2.1.trans b2, b3, (h2.fv b1).trans b4⟩
end LAWS
theorem sub_ok6 {N : Nat} (h : N < 2 ^ 31) : (Int32.ofNat N - 6).toInt = (N : Int) - 6 := by
  have h1 : (Int32.ofNat N).toInt = (N : Int) := nI_toInt h
  have h2 : (6 : Int32).toInt = 6 := by decide
  have h3 := sub_ok (x := Int32.ofNat N) (y := 6) (by omega) (by omega)
  omega
