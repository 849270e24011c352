/-- which array stands at place i of an array of arrays -/
def aR (f : Nat → va_E) (a i : Nat) : Nat := match f a with
  | .inl (_, _, .inr (.inr (.inr (.inr h)))) => (h i).getD 0
  | _ => 0
section ROWJ
variable {p : Program} {l : Launch} {e : Env} {R : Room} {s : State} {m : MethodId} {args : Array Value} {below : List Frame} {meth : Method} {c : Code} {H : Heap} {locs : List Loc} {cells slots : Nat} {Q : State → Prop} {D : va_G} {tys : List (ClassId × FieldType)} {L : List Nat} {kd : Nat → Nat} {f0 f : Nat → va_E} {md : List (Nat × Nat)} {ma : List Nat} {fx : List Fct} {a a0 pc : Nat} {ls : Array Slot} {rest : List Value} {cc : ByteArray}
theorem g_aaldX {K n : Nat} {lo hi : Int} {i : Int32} (hx : p.tables.exec = Jvm.exec) (hb : c.code = cc) (hK : va_K D vwCl tys s) (g : G3 D L kd tys s f0 md ma f H locs fx) (ha : a ∈ L) (hk : kd a = K) (hK1 : 100 ≤ K) {st : Nat} (hA : AT K = (st, n, lo, hi)) (hst : 4 ≤ st ∧ st ≤ 6) (hin : vp_in i n) (hdg : decode cc pc = .ok (.aaload, 1)) (kk : ∀ b : Nat, b = aR f a i.toNatClampNeg → b ∈ L → lo ≤ kd b → kd b ≤ hi → W p l e R s m args below meth c H locs cells slots Q (F0 m (pc + 1) ls (.ref b :: rest))) : W p l e R s m args below meth c H locs cells slots Q (F0 m pc ls (.int i :: .ref a :: rest)) := by
  obtain ⟨q0, h1, h2⟩ := ok_arr g ha hk
  have h3 : ∃ ty : FieldType, ty.isReference = true ∧ okR L kd tys ty n lo hi (f a) := by
    unfold okE at h2
    rw [if_neg (by omega), hA] at h2
    match st, hst, h2 with
    | 4, _, h2 => exact ⟨_, rfl, h2⟩
    | 5, _, h2 => exact ⟨_, rfl, h2⟩
    | 6, _, h2 => exact ⟨_, rfl, h2⟩
    | n + 7, h, _ => exact absurd h.2 (by omega)
  obtain ⟨ty, hty, cA, t0, h, e1, e2, e3⟩ := h3
  obtain ⟨b, e4, e5, e6, e7⟩ := e3 _ (in_toNat hin)
  have e8 : b = aR f a i.toNatClampNeg := by
    unfold aR
    rw [e1]
    show b = (h i.toNatClampNeg).getD 0
    rw [e4]
    rfl
  rw [e1] at h1
  have hc : H[a]? = some (arrV cA n (fun j => va_rf (h j))) := g.1 q0 _ h1
  refine W.aald hx hb hc ((hK.2 t0 _ e2).1 n (fun j => va_rf (h j))) hty (fun q => by cases q) (by show ¬ (i < 0 ∨ (arrV _ _ _).slots.size ≤ _); rw [arrV_size]; exact hin) (v := .ref b) ?_ rfl rfl hdg (kk b e8 e5 e6 e7)
  rw [arrV_read _ _ (in_toNat hin), e4]
  rfl
theorem g_copyiX {own : String} {index K0 K1 n0 n1 : Nat} {n : Int32} {lo0 hi0 lo1 hi1 : Int} (hx : p.tables.exec = Jvm.exec) (hb : c.code = cc) (hml : c.maxLocals = ls.size) (hown : s.vm.findClass own = some m.cls) (hlink : (Cond.methodLink own index arraycopyName).before args s = true) (hnat : (Cond.native arraycopyName).before args s = true) (hstat : (Cond.static arraycopyName).before args s = true) (hini : (Cond.initialized "java/lang/System").before args s = true) (hK : va_K D vwCl tys s) (g : G3 D L kd tys s f0 md ma f H locs fx) (ha0 : a0 ∈ L) (hk0 : kd a0 = K0) (ha : a ∈ L) (hk : kd a = K1) (hK0 : 100 ≤ K0) (hK1 : 100 ≤ K1) (hA0 : AT K0 = (0, n0, lo0, hi0)) (hA1 : AT K1 = (0, n1, lo1, hi1)) (hsub : lo1 ≤ lo0 ∧ hi0 ≤ hi1) (h3 : ¬ n < 0) (h4 : n.toNatClampNeg ≤ n0) (h5 : n.toNatClampNeg ≤ n1) (hma : K1 ∈ ma)
    (hframes : 1 ≤ R.frames) (hlocals : (rest.map fun v => v.category).sum + (nativeFrameWords "java/lang/System" "arraycopy" 5 + 11) ≤ R.locals) (hdg : decode cc pc = .ok (.invokestatic index, 3)) (kk : ∀ (f1 : Nat → va_E) (H : Heap) (locs : List Loc), Md L kd [] [K1] f f1 → ((∀ b, b ≠ a → f1 b = f b) ∧ ∀ i, aI f1 a i = if i < n.toNatClampNeg then aI f a0 i else aI f a i) → G3 D L kd tys s f0 md ma f1 H locs fx → W p l e R s m args below meth c H locs cells slots Q (F0 m (pc + 3) ls rest)) : W p l e R s m args below meth c H locs cells slots Q (F0 m pc ls (.int n :: .int 0 :: .ref a :: .int 0 :: .ref a0 :: rest)) := by
  obtain ⟨q0, u1, u2⟩ := ok_arr g ha0 hk0
  rw [okE_i hK0 hA0] at u2
  obtain ⟨c0, t0, h0, e1, e2, e3⟩ := u2
  rw [e1] at u1
  obtain ⟨q1, v1, v2⟩ := ok_arr g ha hk
  have hq := v1
  rw [okE_i hK1 hA1] at v2
  obtain ⟨c1, t1, h1, d1, d2, d3⟩ := v2
  rw [d1] at v1
  have z0 : (0 : Int32).toNatClampNeg = 0 := by decide
  refine va_copyi hx hb hml hown hlink hnat hstat hini hK g.1 g.2.1 g.2.2.1 q0 q1 t0 t1 u1 v1 e2 d2 rfl (by decide) (by decide) h3 (by rw [z0]; omega) (by rw [z0]; omega) (fun i _ => rfl) hframes hlocals hdg (fun H1 locs1 hP1 hD1 hS1 => ?_)
  rw [pl_put g.2.1 ha hq] at hP1 hD1
  refine kk _ H1 locs1 (Md.ast hk hK1) ⟨fun b hb => va_up_ne f _ hb, fun j => ?_⟩ (g.ast ha hk hK1 ?_ hma hP1 hD1 hS1)
  · simp only [aI, va_up_self, e1, d1, va_cpy, z0, Nat.zero_le, true_and, Nat.zero_add, Nat.sub_zero]
  · rw [okE_i hK1 hA1]
    refine ⟨c1, t1, _, rfl, d2, fun i hi => ?_⟩
    unfold va_cpy
    split
    · rename_i hh
      rw [z0]
      rw [z0] at hh
      exact bd_sub (e3 _ (by omega)) hsub
    · exact d3 _ hi
end ROWJ
/-- what stands in a row: who is called, the first argument -/
abbrev RQ : Type := (Nat → Int32) × (Nat → Int32)
def RQ.um (Q : RQ) (i : Nat) (x : Int32) : RQ := (fun j => if j = i then x else Q.1 j, Q.2)
def RQ.ua (Q : RQ) (i : Nat) (x : Int32) : RQ := (Q.1, fun j => if j = i then x else Q.2 j)
/-- a row whose members lie at m, whose arguments lie at A -/
def isQ (L : List Nat) (kd : Nat → Nat) (f : Nat → va_E) (m : Nat) (A : Nat → Nat) (Q : RQ) : Prop := m ∈ L ∧ kd m = 123 ∧ (∀ i, i < 10 → A i ∈ L ∧ kd (A i) = 103) ∧ (∀ i j, i < 10 → j < 10 → A i = A j → i = j) ∧ (∀ i, aI f m i = Q.1 i) ∧ ∀ i, i < 10 → aI f (A i) 0 = Q.2 i
def arP (f : Nat → va_E) (p : Nat) (A : Nat → Nat) : Prop := ∀ i, i < 10 → aR f p i = A i
def cQ (M : Nat → Int32) : Nat → Nat
  | 0 => 0
  | i + 1 => cQ M i + if (M i).toInt = -1 then 1 else 0
/-- as many objects as MAKES; a MAKE's class is one of eight -/
def wQ (Q : RQ) (n k : Int32) : Prop := k.toInt = (cQ Q.1 n.toNatClampNeg : Int) ∧ ∀ i : Nat, (i : Int) < n.toInt → (Q.1 i).toInt = -1 → bd 0 7 (Q.2 i)
/-- of the rows, only this one has changed -/
def QR (L : List Nat) (kd : Nat → Nat) (f0 f : Nat → va_E) (r m : Nat) (A : Nat → Nat) : Prop := ∀ b ∈ L, (kd b = 3 → b ≠ r → ∀ j, fV f b j = fV f0 b j) ∧ (kd b = 123 → b ≠ m → f b = f0 b) ∧ (kd b = 103 → (∀ i, i < 10 → A i ≠ b) → f b = f0 b)
section ROWK
variable {s : State} {H : Heap} {locs : List Loc} {D : va_G} {tys : List (ClassId × FieldType)} {L : List Nat} {kd : Nat → Nat} {f0 f f1 : Nat → va_E} {md : List (Nat × Nat)} {ma : List Nat} {fx : List Fct} {a b r m p t : Nat} {A A2 : Nat → Nat} {Q Q1 Q2 : RQ} {n k x i n1 k1 : Int32} {v : Value} {j : Nat}
theorem QR.refl : QR L kd f f r m A := fun _ _ => ⟨fun _ _ _ => rfl, fun _ _ => rfl, fun _ _ => rfl⟩
theorem QR.tr {f2 : Nat → va_E} (h : QR L kd f0 f1 r m A) (h2 : QR L kd f1 f2 r m A) : QR L kd f0 f2 r m A := fun b hb => ⟨fun q1 q2 j => ((h2 b hb).1 q1 q2 j).trans ((h b hb).1 q1 q2 j), fun q1 q2 => ((h2 b hb).2.1 q1 q2).trans ((h b hb).2.1 q1 q2), fun q1 q2 => ((h2 b hb).2.2 q1 q2).trans ((h b hb).2.2 q1 q2)⟩
theorem QR.fld (h : QR L kd f0 f r m A) (u : uF f f1 r j v) (hr : kd r = 3) : QR L kd f0 f1 r m A := h.tr fun b hb => ⟨fun _ q j' => oth_V u.1 q j', fun q _ => u.1 b (fun z => by rw [z] at q; omega), fun q _ => u.1 b (fun z => by rw [z] at q; omega)⟩
theorem QR.mem (h : QR L kd f0 f r m A) (u : ∀ b, b ≠ m → f1 b = f b) (hm : kd m = 123) : QR L kd f0 f1 r m A := h.tr fun b hb => ⟨fun q _ j' => oth_V u (fun z => by rw [z] at q; omega) j', fun _ q => u b q, fun q _ => u b (fun z => by rw [z] at q; omega)⟩
theorem QR.arg (h : QR L kd f0 f r m A) (hi : j < 10) (ha : a = A j) (u : ∀ b, b ≠ a → f1 b = f b) (hk : kd a = 103) : QR L kd f0 f1 r m A := h.tr fun b hb => ⟨fun q _ j' => oth_V u (fun z => by rw [z] at q; omega) j', fun q _ => u b (fun z => by rw [z] at q; omega), fun _ q => u b (fun z => q j hi (by rw [z, ha]))⟩
theorem isQ.um {f1 : Nat → va_E} (h : isQ L kd f m A Q) (u : uA f f1 m j x) : isQ L kd f1 m A (Q.um j x) := by
  obtain ⟨h1, h2, h3, h4, h5, h6⟩ := h
  refine ⟨h1, h2, h3, h4, fun i => ?_, fun i hi => ?_⟩
  · rw [u.2, h5]
    rfl
  · rw [u.aI (fun z => by have := (h3 i hi).2; rw [z] at this; omega)]
    exact h6 i hi
theorem isQ.ua {f1 : Nat → va_E} (h : isQ L kd f m A Q) (hj : j < 10) (ha : a = A j) (u : uA f f1 a 0 x) : isQ L kd f1 m A (Q.ua j x) := by
  obtain ⟨h1, h2, h3, h4, h5, h6⟩ := h
  refine ⟨h1, h2, h3, h4, fun i => ?_, fun i hi => ?_⟩
  · rw [u.aI (fun z => by have := (h3 j hj).2; rw [← ha, ← z] at this; omega)]
    exact h5 i
  · by_cases hij : i = j
    · subst hij
      rw [← ha, u.2, if_pos rfl]
      exact (if_pos rfl).symm
    · rw [u.aI (fun z => hij (h4 i j hi hj (z.trans ha)))]
      exact (h6 i hi).trans (if_neg hij).symm
theorem isQ.uk {f1 : Nat → va_E} {k : Nat} (h : isQ L kd f m A Q) (hj : j < 10) (ha : a = A j) (hk : k ≠ 0) (u : uA f f1 a k x) : isQ L kd f1 m A Q := by
  obtain ⟨h1, h2, h3, h4, h5, h6⟩ := h
  refine ⟨h1, h2, h3, h4, fun i => ?_, fun i hi => ?_⟩
  · rw [u.aI (fun z => by have := (h3 j hj).2; rw [← ha, ← z] at this; omega)]
    exact h5 i
  · by_cases hij : i = j
    · subst hij
      rw [← ha, u.2, if_neg (fun z => hk z.symm), ha]
      exact h6 i hi
    · rw [u.aI (fun z => hij (h4 i j hi hj (z.trans ha)))]
      exact h6 i hi
/-- something was written to the arguments of call j -/
theorem isQ.ux {f1 : Nat → va_E} (h : isQ L kd f m A Q) (hj : j < 10) (ha : a = A j) (u : ∀ b, b ≠ a → f1 b = f b) : ∃ x, isQ L kd f1 m A (Q.ua j x) := by
  obtain ⟨h1, h2, h3, h4, h5, h6⟩ := h
  have e : ∀ b i, b ≠ a → aI f1 b i = aI f b i := fun b i q => by unfold aI; rw [u b q]
  refine ⟨aI f1 (A j) 0, h1, h2, h3, h4, fun i => ?_, fun i hi => ?_⟩
  · rw [e _ _ (fun z => by have := (h3 j hj).2; rw [← ha, ← z] at this; omega)]
    exact h5 i
  · by_cases hij : i = j
    · subst hij
      exact (if_pos rfl).symm
    · rw [e _ _ (fun z => hij (h4 i j hi hj (z.trans ha)))]
      exact (h6 i hi).trans (if_neg hij).symm
theorem isQ.frame (hM : Md L kd md ma f f1) (hW : WT L kd tys f) (hq : t ∈ L) (hk : kd t = 3) (h1 : (md.all fun _ => true) = true) (h2 : (ma.all fun y => y != 103 && y != 123) = true) (h : isQ L kd f m A Q) : isQ L kd f1 m A Q := by
  obtain ⟨h3, h4, h5, h6, h7, h8⟩ := h
  have hn : ∀ {K : Nat}, K = 103 ∨ K = 123 → K ∉ ma := fun q hc => by
    have h9 := List.all_eq_true.mp h2 _ hc
    rcases q with rfl | rfl <;> revert h9 <;> decide
  refine ⟨h3, h4, h5, h6, fun i => ?_, fun i hi => ?_⟩
  · unfold aI
    rw [(hM m h3).2.1 (by omega) (by rw [h4]; exact hn (Or.inr rfl))]
    exact h7 i
  · have h9 := h5 i hi
    unfold aI
    rw [(hM _ h9.1).2.1 (by omega) (by rw [h9.2]; exact hn (Or.inl rfl))]
    exact h8 i hi
theorem arP.frame (hM : Md L kd md ma f f1) (hW : WT L kd tys f) (hq : p ∈ L) (hk : kd p = 124) (h1 : (md.all fun _ => true) = true) (h2 : (ma.all fun y => y != 124) = true) (h : arP f p A) : arP f1 p A := fun i hi => by
  have e : f1 p = f p := (hM p hq).2.1 (by omega) (fun hc => by
    have h9 := List.all_eq_true.mp h2 _ hc
    rw [hk] at h9
    revert h9
    decide)
  unfold aR
  rw [e]
  exact h i hi
theorem QR.frame (hM : Md L kd md ma f f1) (hW : WT L kd tys f) (hq : t ∈ L) (hk : kd t = 3) (h1 : (md.all fun y => y.1 != 3) = true) (h2 : (ma.all fun y => y != 103 && y != 123) = true) (h : QR L kd f0 f r m A) : QR L kd f0 f1 r m A := h.tr fun b hb => by
  have hn : ∀ {K : Nat}, K = 103 ∨ K = 123 → K ∉ ma := fun q hc => by
    have h9 := List.all_eq_true.mp h2 _ hc
    rcases q with rfl | rfl <;> revert h9 <;> decide
  refine ⟨fun q _ j' => (hM b hb).1 j' (by omega) (fun hc => ?_), fun q _ => (hM b hb).2.1 (by omega) (by rw [q]; exact hn (Or.inr rfl)), fun q _ => (hM b hb).2.1 (by omega) (by rw [q]; exact hn (Or.inl rfl))⟩
  have h9 := List.all_eq_true.mp h1 _ hc
  rw [q] at h9
  simp at h9
theorem cQ_cg {M1 M2 : Nat → Int32} {n : Nat} (h : ∀ i, i < n → M1 i = M2 i) : cQ M1 n = cQ M2 n := by
  induction n with
  | zero => rfl
  | succ n ih =>
    show cQ M1 n + _ = cQ M2 n + _
    rw [ih (fun i hi => h i (by omega)), h n (by omega)]
theorem cQ_le {M1 : Nat → Int32} {n n' : Nat} (h : n' ≤ n) : cQ M1 n' ≤ cQ M1 n := by
  induction n with
  | zero =>
    have : n' = 0 := by omega
    rw [this]
    exact Nat.le_refl _
  | succ n ih =>
    by_cases q : n' = n + 1
    · rw [q]
      exact Nat.le_refl _
    · exact Nat.le_trans (ih (by omega)) (Nat.le_add_right _ _)
theorem wQ.zero (hn : n.toInt = 0) (hk : k.toInt = 0) : wQ Q n k := by
  have h1 : n.toNatClampNeg = n.toInt.toNat := rfl
  have h2 : n.toNatClampNeg = 0 := by omega
  refine ⟨?_, fun i hi => by omega⟩
  rw [h2, hk]
  rfl
theorem wQ.cg (h : wQ Q n k) (h1 : ∀ i : Nat, (i : Int) < n.toInt → Q1.1 i = Q.1 i) (h2 : ∀ i : Nat, (i : Int) < n.toInt → (Q1.1 i).toInt = -1 → Q1.2 i = Q.2 i) : wQ Q1 n k := by
  have e : n.toNatClampNeg = n.toInt.toNat := rfl
  refine ⟨?_, fun i hi hm => ?_⟩
  · rw [h.1, cQ_cg (M1 := Q1.1) (M2 := Q.1) (fun i hi => h1 i (by omega))]
  · rw [h2 i hi hm]
    exact h.2 i hi (by rw [← h1 i hi]; exact hm)
/-- a MAKE behind the last -/
theorem wQ.make (h : wQ Q n k) (hn : 0 ≤ n.toInt) (hx : x.toInt = -1) (hi : bd 0 7 i) (h1 : n1.toInt = n.toInt + 1) (h2 : k1.toInt = k.toInt + 1) : wQ ((Q.um n.toNatClampNeg x).ua n.toNatClampNeg i) n1 k1 := by
  have e := tnZ hn
  have e1 := tnZ (i := n1) (by omega)
  have e2 : n1.toNatClampNeg = n.toNatClampNeg + 1 := by omega
  refine ⟨?_, fun j hj hm => ?_⟩
  · rw [e2]
    show k1.toInt = ((cQ (fun j => if j = n.toNatClampNeg then x else Q.1 j) n.toNatClampNeg + (if (if n.toNatClampNeg = n.toNatClampNeg then x else Q.1 n.toNatClampNeg).toInt = -1 then 1 else 0) : Nat) : Int)
    rw [if_pos rfl, if_pos hx, cQ_cg (M2 := Q.1) (fun j hj => if_neg (by omega)), h2, h.1]
    omega
  · by_cases q : j = n.toNatClampNeg
    · show bd 0 7 (if j = n.toNatClampNeg then i else Q.2 j)
      rw [if_pos q]
      exact hi
    · show bd 0 7 (if j = n.toNatClampNeg then i else Q.2 j)
      rw [if_neg q]
      have hm' : (if j = n.toNatClampNeg then x else Q.1 j).toInt = -1 := hm
      rw [if_neg q] at hm'
      exact h.2 j (by omega) hm'
/-- a call behind the last -/
theorem wQ.call (h : wQ Q n k) (hn : 0 ≤ n.toInt) (hx : 0 ≤ x.toInt) (h1 : n1.toInt = n.toInt + 1) : wQ ((Q.um n.toNatClampNeg x).ua n.toNatClampNeg i) n1 k := by
  have e := tnZ hn
  have e1 := tnZ (i := n1) (by omega)
  have e2 : n1.toNatClampNeg = n.toNatClampNeg + 1 := by omega
  refine ⟨?_, fun j hj hm => ?_⟩
  · rw [e2]
    show k.toInt = ((cQ (fun j => if j = n.toNatClampNeg then x else Q.1 j) n.toNatClampNeg + (if (if n.toNatClampNeg = n.toNatClampNeg then x else Q.1 n.toNatClampNeg).toInt = -1 then 1 else 0) : Nat) : Int)
    rw [if_pos rfl, if_neg (by omega), cQ_cg (M2 := Q.1) (fun j hj => if_neg (by omega)), h.1]
    omega
  · by_cases q : j = n.toNatClampNeg
    · have hm' : (if j = n.toNatClampNeg then x else Q.1 j).toInt = -1 := hm
      rw [if_pos q] at hm'
      omega
    · show bd 0 7 (if j = n.toNatClampNeg then i else Q.2 j)
      rw [if_neg q]
      have hm' : (if j = n.toNatClampNeg then x else Q.1 j).toInt = -1 := hm
      rw [if_neg q] at hm'
      exact h.2 j (by omega) hm'
/-- the last call goes: x, who is called there -/
theorem wQ.pop (h : wQ Q n k) (h1 : 0 ≤ n1.toInt) (hn : n.toInt = n1.toInt + 1) (hk : k1.toInt = k.toInt - if (Q.1 n1.toNatClampNeg).toInt = -1 then 1 else 0) : wQ Q n1 k1 ∧ 0 ≤ k1.toInt := by
  have e := tnZ h1
  have e1 := tnZ (i := n) (by omega)
  have e2 : n.toNatClampNeg = n1.toNatClampNeg + 1 := by omega
  have h2 := h.1
  rw [e2] at h2
  have h3 : k.toInt = ((cQ Q.1 n1.toNatClampNeg + (if (Q.1 n1.toNatClampNeg).toInt = -1 then 1 else 0) : Nat) : Int) := h2
  have h4 : k1.toInt = (cQ Q.1 n1.toNatClampNeg : Int) := by
    rw [hk, h3]
    split <;> omega
  exact ⟨⟨h4, fun i hi hm => h.2 i (by omega) hm⟩, by omega⟩
/-- other arguments of a call that is no MAKE -/
theorem wQ.arg (h : wQ Q n k) (hx : 0 ≤ (Q.1 j).toInt) : wQ (Q.ua j x) n k := h.cg (fun i _ => rfl) (fun i _ hm => if_neg (fun z => by
  rw [z] at hm
  have hm' : (Q.1 j).toInt = -1 := hm
  omega))
/-- another member of a call that is no MAKE -/
theorem wQ.mem (h : wQ Q n k) (hj : 0 ≤ (Q.1 j).toInt) (hx : 0 ≤ x.toInt) : wQ (Q.um j x) n k := by
  have e : ∀ i, ((Q.um j x).1 i).toInt = -1 ↔ (Q.1 i).toInt = -1 := fun i => by
    show (if i = j then x else Q.1 i).toInt = -1 ↔ _
    by_cases q : i = j
    · rw [if_pos q, q]
      omega
    · rw [if_neg q]
  have e2 : ∀ n : Nat, cQ (Q.um j x).1 n = cQ Q.1 n := fun n => by
    induction n with
    | zero => rfl
    | succ n ih =>
      show cQ _ n + _ = cQ _ n + _
      rw [ih]
      congr 1
      by_cases q : (Q.1 n).toInt = -1
      · rw [if_pos ((e n).mpr q), if_pos q]
      · rw [if_neg (fun z => q ((e n).mp z)), if_neg q]
  exact ⟨by rw [e2]; exact h.1, fun i hi hm => h.2 i hi ((e i).mp hm)⟩
theorem QR.oth (h : QR L kd f f1 r m A) {m' : Nat} {A' : Nat → Nat} (hQ : isQ L kd f m' A' Q) (hm : m ≠ m') (hA : ∀ i j, i < 10 → j < 10 → A i ≠ A' j) : isQ L kd f1 m' A' Q := by
  obtain ⟨h1, h2, h3, h4, h5, h6⟩ := hQ
  refine ⟨h1, h2, h3, h4, fun i => ?_, fun i hi => ?_⟩
  · unfold aI
    rw [(h m' h1).2.1 h2 (fun z => hm z.symm)]
    exact h5 i
  · have h9 := h3 i hi
    unfold aI
    rw [(h _ h9.1).2.2 h9.2 (fun j hj => hA j i hj hi)]
    exact h6 i hi
theorem isQ.oth (h : isQ L kd f m A Q) (u : ∀ b, b ≠ a → f1 b = f b) (hm : m ≠ a) (hA : ∀ i, i < 10 → A i ≠ a) : isQ L kd f1 m A Q := by
  obtain ⟨h1, h2, h3, h4, h5, h6⟩ := h
  refine ⟨h1, h2, h3, h4, fun i => ?_, fun i hi => ?_⟩
  · unfold aI
    rw [u m hm]
    exact h5 i
  · unfold aI
    rw [u _ (hA i hi)]
    exact h6 i hi
/-- the members of ten calls are copied -/
theorem isQ.cm {g : Nat → Int32} (h : isQ L kd f m A Q) (u : ∀ b, b ≠ m → f1 b = f b) (u2 : ∀ i, aI f1 m i = g i) : isQ L kd f1 m A (g, Q.2) := by
  obtain ⟨h1, h2, h3, h4, h5, h6⟩ := h
  refine ⟨h1, h2, h3, h4, u2, fun i hi => ?_⟩
  unfold aI
  rw [u _ (fun z => by have := (h3 i hi).2; rw [z] at this; omega)]
  exact h6 i hi
/-- the arguments of call j are copied -/
theorem isQ.ca (h : isQ L kd f m A Q) (hj : j < 10) (ha : a = A j) (u : ∀ b, b ≠ a → f1 b = f b) (hx : aI f1 a 0 = x) : isQ L kd f1 m A (Q.ua j x) := by
  obtain ⟨y, h1⟩ := h.ux hj ha u
  have h2 : (Q.ua j y).2 j = y := if_pos rfl
  have h3 := h1.2.2.2.2.2 j hj
  rw [← ha, hx, h2] at h3
  rw [h3]
  exact h1
theorem cp_s {g : Nat → Int32} {i' j' : Nat} (h : ∀ j, j < j' → Q.2 j = g j) (e : i' = j' + 1) : ∀ j, j < i' → (Q.ua j' (g j')).2 j = g j := fun j hj => by
  show (if j = j' then g j' else Q.2 j) = g j
  by_cases q : j = j'
  · rw [if_pos q, q]
  · rw [if_neg q]
    exact h j (by omega)
end ROWK
/-- behind a method of a row -/
def rowT (L : List Nat) (kd : Nat → Nat) (f0 f : Nat → va_E) (r m : Nat) (A : Nat → Nat) (P : RQ → Int32 → Int32 → Prop) : Prop := ∃ (Q1 : RQ) (n1 k1 : Int32), isQ L kd f m A Q1 ∧ QR L kd f0 f r m A ∧ fV f r 0 = .int n1 ∧ fV f r 4 = .int k1 ∧ bd 0 10 n1 ∧ bd 0 3 k1 ∧ P Q1 n1 k1
/-- a row: where its arrays are, what stands in it -/
def pkQ (L : List Nat) (kd : Nat → Nat) (f : Nat → va_E) (r p m : Nat) (A : Nat → Nat) (Q : RQ) (n k : Int32) : Prop := (r ∈ L ∧ kd r = 3) ∧ (p ∈ L ∧ kd p = 124) ∧ (m ∈ L ∧ kd m = 123) ∧ fV f r 2 = .ref m ∧ fV f r 3 = .ref p ∧ fV f r 0 = .int n ∧ fV f r 4 = .int k ∧ bd 0 10 n ∧ bd 0 3 k ∧ arP f p A ∧ isQ L kd f m A Q ∧ wQ Q n k
def apQ (r r' m m' : Nat) (A A' : Nat → Nat) : Prop := r ≠ r' ∧ m ≠ m' ∧ ∀ i j, i < 10 → j < 10 → A i ≠ A' j
theorem apQ.sym {r r' m m' : Nat} {A A' : Nat → Nat} (h : apQ r r' m m' A A') : apQ r' r m' m A' A := ⟨fun z => h.1 z.symm, fun z => h.2.1 z.symm, fun i j hi hj z => h.2.2 j i hj hi z.symm⟩
/-- both rows of a trial -/
def RP (L : List Nat) (kd : Nat → Nat) (f : Nat → va_E) (t : Nat) : Prop := ∃ (r r' p p' m m' : Nat) (A A' : Nat → Nat) (Q Q' : RQ) (n n' k k' : Int32), fV f t 2 = .ref r ∧ fV f t 3 = .ref r' ∧ pkQ L kd f r p m A Q n k ∧ pkQ L kd f r' p' m' A' Q' n' k' ∧ apQ r r' m m' A A'
section ROWL
variable {tys : List (ClassId × FieldType)} {L : List Nat} {kd : Nat → Nat} {f f1 : Nat → va_E} {md : List (Nat × Nat)} {ma : List Nat} {r m p t : Nat} {A : Nat → Nat} {Q : RQ} {n k : Int32}
theorem pkQ.frame (hM : Md L kd md ma f f1) (hW : WT L kd tys f) (hq : r ∈ L) (hk : kd r = 3) (h1 : (md.all fun y => y.1 != 3) = true) (h2 : (ma.all fun y => y != 103 && y != 123 && y != 124) = true) (h : pkQ L kd f r p m A Q n k) : pkQ L kd f1 r p m A Q n k := by
  obtain ⟨a1, a2, a3, a4, a5, a6, a7, a8, a9, a10, a11, a12⟩ := h
  have e : ∀ j, fV f1 r j = fV f r j := fun j => (hM r a1.1).1 j (by omega) (fun hc => by
    have h9 := List.all_eq_true.mp h1 _ hc
    rw [a1.2] at h9
    simp at h9)
  have h3 : (ma.all fun y => y != 124) = true := List.all_eq_true.mpr fun y hy => by
    have h9 := List.all_eq_true.mp h2 y hy
    simp only [Bool.and_eq_true] at h9
    exact h9.2
  have h4 : (ma.all fun y => y != 103 && y != 123) = true := List.all_eq_true.mpr fun y hy => by
    have h9 := List.all_eq_true.mp h2 y hy
    simp only [Bool.and_eq_true] at h9 ⊢
    exact h9.1
  exact ⟨a1, a2, a3, (e 2).trans a4, (e 3).trans a5, (e 0).trans a6, (e 4).trans a7, a8, a9, arP.frame hM hW a2.1 a2.2 (by simp) h3 a10, isQ.frame hM hW a1.1 a1.2 (by simp) h4 a11, a12⟩
theorem RP.frame (hM : Md L kd md ma f f1) (hW : WT L kd tys f) (hq : t ∈ L) (hk : kd t = 10) (h1 : (md.all fun y => y != (10, 2) && y != (10, 3) && y.1 != 3) = true) (h2 : (ma.all fun y => y != 103 && y != 123 && y != 124) = true) (h : RP L kd f t) : RP L kd f1 t := by
  obtain ⟨r, r', p, p', m, m', A, A', Q, Q', n, n', k, k', b1, b2, b3, b4, b5⟩ := h
  have hn : ∀ y ∈ md, y ≠ (10, 2) ∧ y ≠ (10, 3) ∧ y.1 ≠ 3 := fun y hy => by
    have h9 := List.all_eq_true.mp h1 y hy
    simp only [Bool.and_eq_true, bne_iff_ne] at h9
    exact ⟨h9.1.1, h9.1.2, h9.2⟩
  have e : ∀ j, j = 2 ∨ j = 3 → fV f1 t j = fV f t j := fun j hj => (hM t hq).1 j (by omega) (fun hc => by
    rw [hk] at hc
    have h9 := hn _ hc
    rcases hj with rfl | rfl
    · exact h9.1 rfl
    · exact h9.2.1 rfl)
  have h3 : (md.all fun y => y.1 != 3) = true := List.all_eq_true.mpr fun y hy => by
    simp only [bne_iff_ne]
    exact (hn y hy).2.2
  exact ⟨r, r', p, p', m, m', A, A', Q, Q', n, n', k, k', (e 2 (Or.inl rfl)).trans b1, (e 3 (Or.inr rfl)).trans b2, b3.frame hM hW b3.1.1 b3.1.2 h3 h2, b4.frame hM hW b4.1.1 b4.1.2 h3 h2, b5⟩
end ROWL
