/-! THE CLAIM OUT OF ONE WALK OF THE LAW'S BODY. Your part is whole_start (and what it stands on); all else here is the same for every law, but numbers. -/
def R_law : String := "TrialGardenLaw"
def lw_P (b : Addr) (xs : List Int32) (args : Array Value) (s : State) : Prop := args = #[.ref b] ∧ s.IntsAt b xs ∧ xs.length ≤ 3072 ∧ (Jvm.Cond.and given_1 narrow_1).before args s = true
def lw_Q (_ : Array Value) (s : State) (o : Outcome) (t : State) : Prop := o = .returned (some (.int 1)) ∧ Framed s o t [] 601024 7293034
def lw_Z (below : List Frame) (a : Array Value) (s : State) : State → Prop := fun t => ∃ o, t.status = .running ∧ Ended t below o ∧ lw_Q a s o t
/-- the law's own end, with 1 on the stack, nothing written that was there before, its room as the claim has it -/
theorem lw_ret {p : Program} {l : Launch} {e : Env} {s : State} {m : MethodId} {below : List Frame} {meth : Method} {c : Code} {b : Nat} (hx : p.tables.exec = Jvm.exec) (hb : c.code = code) (hr : meth.sig.returnType = ret) (hlocks : meth.locks = false) {pc : Nat} {H : Heap} {ls : Array Slot} (hdg : decode code pc = .ok (.ireturn, 1)) : W p l e room_1 s m #[Value.ref b] below meth c H [] 601024 7293034 (lw_Z below #[Value.ref b] s) (F0 m pc ls [.int 1]) := by
  intro T hT X
  obtain ⟨fs, hret, hrun, hended, hW, hframe⟩ := X.leave (v := some (.int 1)) (hlocks := hlocks) (fun h => by rw [hr] at h; cases h)
  have hmeth' : T.vm.method? m = some meth := X.method'
  refine ⟨T.setFrames fs, ?_, .returned (some (.int 1)), hrun, hended, rfl, ⟨_, rfl⟩, hW, hframe⟩
  jvm_step X.here [X.here.top, hx, hb, hdg, hmeth', hr, ret, narrow_b1]
  (try refine ⟨rfl, ?_⟩); (try refine ⟨rfl, ?_⟩)
  first | (intro acts; rw [hret _ acts rfl rfl rfl]) | rw [hret _ _ rfl rfl rfl]
  exact Steps.refl _
/-- what holds at the law's entry: the machine, the code, the tables' words (any of lw_tbl by 'hts w (by decide +kernel)'), the script of L ints xs at the cell b, what the Statement gives of the start (any of its parts by flat_of_before) -/
def lw_At (p : Program) (s : State) (m : MethodId) (meth : Method) (c : Code) (b L : Nat) (xs : Nat → Int32) : Prop :=
  p.tables.exec = Jvm.exec ∧ c.code = code ∧ meth.sig.returnType = ret ∧ c.maxLocals = 4 ∧ s.vm.findClass R_law = some m.cls ∧ (∀ w ∈ lw_tbl, w.before #[Value.ref b] s = true) ∧ va_X b L xs s s.heap ∧ b < s.heap.size ∧ meth.locks = false ∧ (Jvm.Cond.and given_1 narrow_1).before #[Value.ref b] s = true
theorem cI_ {b : Cond} (h : b ∈ lw_g) : ∀ w ∈ b :: lw_g, w ∈ lw_g := fun w hw => (List.mem_cons.mp hw).elim (fun e => e ▸ h) id
theorem gIL_ {b : Cond} (h : b ∈ lw_g) : GoodIn lw_tbl (b :: lw_g) := gL_ (cI_ h)
theorem gVL_ {b : Cond} {own C : String} {idx : Nat} {y : MethodName} (h1 : Cond.methodLink own idx y ∈ lw_g) (h2 : Cond.instanceMethod y ∈ lw_g) (h3 : Cond.selects C y y ∈ lw_g) (h4 : Cond.initialized C ∈ lw_g) (h5 : b ∈ lw_g) : GoodIn lw_tbl (wsV own idx C y (b :: lw_g)) := gL_ (wV_ h1 h2 h3 h4 h5)
theorem mcL_ {ws : List Cond} (h : ∀ w ∈ ws, w ∈ lw_g) : ∀ w ∈ ws, w ∈ lw_tbl := fun w hw => gt_ w (h w hw)
theorem p0_eq {r r' p p' : Int32} (h : (r = 0 ∧ p = 0) ∨ (r = -1 ∧ ¬ p = 0)) (h' : (r' = 0 ∧ p' = 0) ∨ (r' = -1 ∧ ¬ p' = 0)) (e : p = p') : r = r' := by
  subst e
  rcases h with ⟨rfl, a⟩ | ⟨rfl, a⟩ <;> rcases h' with ⟨rfl, b⟩ | ⟨rfl, b⟩ <;> first | rfl | exact absurd a b | exact absurd b a
theorem p4_eq {r r' p p' : Int32} (h : (r = 0 ∧ (p = 0 ∨ p = 1 ∨ p = 2 ∨ p = 3)) ∨ (r = -1 ∧ ¬ p = 0 ∧ ¬ p = 1 ∧ ¬ p = 2 ∧ ¬ p = 3)) (h' : (r' = 0 ∧ (p' = 0 ∨ p' = 1 ∨ p' = 2 ∨ p' = 3)) ∨ (r' = -1 ∧ ¬ p' = 0 ∧ ¬ p' = 1 ∧ ¬ p' = 2 ∧ ¬ p' = 3)) (e : p = p') : r = r' := by
  subst e
  rcases h with ⟨rfl, a⟩ | ⟨rfl, a1, a2, a3, a4⟩ <;> rcases h' with ⟨rfl, b⟩ | ⟨rfl, b1, b2, b3, b4⟩
  · rfl
  · rcases a with a | a | a | a <;> contradiction
  · rcases b with b | b | b | b <;> contradiction
  · rfl
