section XROWS
variable {p : Program} {l : Launch} {e : Env} {R : Room} {s : State} {m : MethodId} {args : Array Value} {below : List Frame} {meth : Method} {c : Code} {H : Heap} {locs : List Loc} {cells slots : Nat} {Q : State → Prop} {cc : ByteArray} {pc : Nat} {ls : Array Slot} {rest : List Value} {D : va_G} {tys : List (ClassId × FieldType)} {L : List Nat} {kd : Nat → Nat} {f0 f : Nat → va_E} {md : List (Nat × Nat)} {ma : List Nat} {fx : List Fct} {a : Nat}
/-- one element is another, all else is as it was -/
def uA (f f1 : Nat → va_E) (a i : Nat) (x : Int32) : Prop := (∀ b, b ≠ a → f1 b = f b) ∧ ∀ j, aI f1 a j = if j = i then x else aI f a j
/-- one field is another, all else is as it was -/
def uF (f f1 : Nat → va_E) (a k : Nat) (v : Value) : Prop := (∀ b, b ≠ a → f1 b = f b) ∧ ∀ j, fV f1 a j = if j = k then v else fV f a j
theorem g_iastX {K n : Nat} {lo hi : Int} {i : Int32} (hx : p.tables.exec = Jvm.exec) (hb : c.code = cc) (hK : va_K D vwCl tys s) (g : G3 D L kd tys s f0 md ma f H locs fx) (ha : a ∈ L) (hk : kd a = K) (hK1 : 100 ≤ K) (hA : AT K = (0, n, lo, hi)) (hin : vp_in i n) {x : Int32} (hxb : bd lo hi x) (hma : K ∈ ma) (hdg : decode cc pc = .ok (.iastore, 1)) (kk : ∀ (f1 : Nat → va_E) (H : Heap) (locs : List Loc), Md L kd [] [K] f f1 → uA f f1 a i.toNatClampNeg x → G3 D L kd tys s f0 md ma f1 H locs fx → W p l e R s m args below meth c H locs cells slots Q (F0 m (pc + 1) ls rest)) : W p l e R s m args below meth c H locs cells slots Q (F0 m pc ls (.int x :: .int i :: .ref a :: rest)) := by
  obtain ⟨q0, h1, h2⟩ := ok_arr g ha hk
  have hq := h1
  rw [okE_i hK1 hA] at h2
  obtain ⟨cA, t0, h, e1, e2, e3⟩ := h2
  rw [e1] at h1
  refine va_iast hx hb hK g.1 g.2.1 g.2.2.1 q0 t0 h1 e2 hin hdg (fun H1 locs1 hP1 hD1 hS1 => ?_)
  rw [pl_put g.2.1 ha hq] at hP1 hD1
  refine kk _ H1 locs1 (Md.ast hk hK1) ⟨fun b hb => va_up_ne f _ hb, fun j => ?_⟩ (g.ast ha hk hK1 (by rw [okE_i hK1 hA]; exact okI_up e2 e3 hxb) hma hP1 hD1 hS1)
  simp only [aI, va_up_self, e1, upd]
theorem g_putX {own ref C : String} {T : u_T} {N ci index : Nat} {Ts : List Cond} (hx : p.tables.exec = Jvm.exec) (hb : c.code = cc) (hts : ∀ w ∈ Ts, w.before args s = true) (hin : ∀ w ∈ u_ws C T N, w ∈ Ts) (ty0 : Nat → FieldType) (hty : ∀ k, k < N → parseFieldDescriptor (T k).2.2.1 = some (ty0 k)) (hnm : ∀ a, a < N → ∀ b, b < N → a ≠ b → (T a).2.1 ≠ (T b).2.1) (hown : s.vm.findClass own = some m.cls) (hK : va_K D vwCl tys s) (g : G3 D L kd tys s f0 md ma f H locs fx) (ha : a ∈ L) (hk : kd a = ci) (hci : ci < 100) (hc : vwCl[ci]? = some (C, T, N)) (k : Nat) (hkN : k < N) (hlink : (Cond.fieldLink own index ref (T k).2.1 (T k).2.2.1).before args s = true) (hsame : ∀ x, s.fieldFound? (T k).1 (T k).2.1 (T k).2.2.1 = some x → s.fieldFound? ref (T k).2.1 (T k).2.2.1 = some x) (hfin : (T k).2.2.2 = false) {v : Value} {t : rS} (ht : (FS ci)[k]? = some t) (hv : okV L kd t v) (hn : narrow (ty0 k) v = v) (hfit : fits (ty0 k) v = true) (hmd : (ci, k) ∈ md) (hst : (8, 108) ∈ md ∨ (ci == 8 && k == 8) = false ∨ v ≠ .int 0) {fx' : List Fct} (hfx : fx.filter (fun q => !(q.1 == ci && q.2.1 == k)) = fx') (hdg : decode cc pc = .ok (.putfield index, 3))
    (kk : ∀ (f1 : Nat → va_E) (H : Heap) (locs : List Loc), Md L kd [(ci, k), (8, 108)] [] f f1 → uF f f1 a k v → G3 D L kd tys s f0 md ma f1 H locs ((ci, k, a, v) :: fx') → W p l e R s m args below meth c H locs cells slots Q (F0 m (pc + 3) ls rest)) : W p l e R s m args below meth c H locs cells slots Q (F0 m pc ls (v :: .ref a :: rest)) := by
  obtain ⟨q0, fs, h1, h2, h3, h4⟩ := g_open g ha hk hci
  have hkl : k < fs.length := by rw [h3]; exact (List.getElem?_eq_some_iff.mp ht).1
  refine va_put hx hb hts hin ty0 hty hnm hown hK g.1 g.2.1 g.2.2.1 q0 h1 hc k hkN hlink hsame hfin (hty k hkN) hn hfit hkl hdg (fun H1 locs1 hP1 hD1 hS1 => ?_)
  have hq : (va_pl L f)[q0]? = some (a, f a) := by rw [h2]; exact h1
  rw [pl_put g.2.1 ha hq] at hP1 hD1
  refine kk _ H1 locs1 (Md.put ha hk hci h2) ⟨fun b hb => va_up_ne f _ hb, fun j => ?_⟩ (g.put ha hk hci h2 h3 h4 ht hv hmd hst hfx hP1 hD1 hS1)
  by_cases hj : j = k
  · subst hj
    rw [if_pos rfl]
    simp only [fV, va_up_self]
    exact getD_set_self hkl
  · rw [if_neg hj]
    simp only [fV, va_up_self, h2]
    exact getD_set_ne hj
theorem uA.fV {f1 : Nat → va_E} {b i : Nat} {x : Int32} (h : uA f f1 b i x) {t : Nat} (ht : t ≠ b) (j : Nat) : fV f1 t j = fV f t j := by unfold Jvm.Pilot.CTrialGardenLaw_law_r6740_26b2fe.fV; rw [h.1 t ht]
theorem uA.aI {f1 : Nat → va_E} {b i : Nat} {x : Int32} (h : uA f f1 b i x) {t : Nat} (ht : t ≠ b) (j : Nat) : aI f1 t j = aI f t j := by unfold Jvm.Pilot.CTrialGardenLaw_law_r6740_26b2fe.aI; rw [h.1 t ht]
theorem uF.aI {f1 : Nat → va_E} {b k : Nat} {v : Value} (h : uF f f1 b k v) {t : Nat} (ht : t ≠ b) (j : Nat) : aI f1 t j = aI f t j := by unfold Jvm.Pilot.CTrialGardenLaw_law_r6740_26b2fe.aI; rw [h.1 t ht]
/-- a place of the code that holds a jump, or none at all -/
def jop (x : Int32) : Prop := x.toInt = 15 ∨ x.toInt = 23 ∨ x.toInt = 24 ∨ x.toInt = 25
def jOK (f : Nat → va_E) (t : Nat) (j : Int32) : Prop := j.toInt < 0 ∨ 2000 ≤ j.toInt ∨ ∀ (o : Nat) (n : Int32), fV f t 4 = .ref o → fV f t 6 = .int n → j.toInt < n.toInt ∧ jop (aI f o j.toNatClampNeg)
def tJ (f f1 : Nat → va_E) (t : Nat) : Prop := ∀ j, jOK f t j → jOK f1 t j
theorem tJ.rf {t : Nat} : tJ f f t := fun _ h => h
theorem tJ.tr {t : Nat} {f1 f2 : Nat → va_E} (h1 : tJ f f1 t) (h2 : tJ f1 f2 t) : tJ f f2 t := fun j h => h2 j (h1 j h)
theorem crel_jop {x y : Int32} (h : jop x) : crel x y := by
  unfold jop at h
  refine ⟨fun q => ?_, fun q => ?_, fun q => ?_⟩ <;> omega
theorem tn_eq {i : Int32} (h : 0 ≤ i.toInt) : (i.toNatClampNeg : Int) = i.toInt := by
  have h9 : i.toNatClampNeg = i.toInt.toNat := rfl
  omega
/-- a code more: its two stores and the count -/
theorem emit_c {t o b : Nat} {n m' x y : Int32} {f1 f2 f3 : Nat → va_E} (h : cOK f t) (h4 : fV f t 4 = .ref o) (h5 : fV f t 5 = .ref b) (h6 : fV f t 6 = .int n) (hn : 0 ≤ n.toInt) (hob : o ≠ b) (hto : t ≠ o) (htb : t ≠ b)
    (u1 : uA f f1 o n.toNatClampNeg x) (u2 : uA f1 f2 b n.toNatClampNeg y) (u3 : uF f2 f3 t 6 (.int m')) (hm : m'.toInt = n.toInt + 1) (hxy : crel x y) : cOK f3 t ∧ tJ f f3 t := by
  have e4 : fV f3 t 4 = .ref o := by rw [u3.2]; rw [if_neg (by decide), u2.fV htb, u1.fV hto]; exact h4
  have e5 : fV f3 t 5 = .ref b := by rw [u3.2]; rw [if_neg (by decide), u2.fV htb, u1.fV hto]; exact h5
  have e6 : fV f3 t 6 = .int m' := by rw [u3.2]; rw [if_pos rfl]
  have ao : ∀ j, aI f3 o j = if j = n.toNatClampNeg then x else aI f o j := fun j => by rw [u3.aI (Ne.symm hto), u2.aI hob, u1.2]
  have ab : ∀ j, aI f3 b j = if j = n.toNatClampNeg then y else aI f b j := fun j => by rw [u3.aI (Ne.symm htb), u2.2, u1.aI (Ne.symm hob)]
  have hn' := tn_eq hn
  refine ⟨fun o' b' n' g4 g5 g6 i hi => ?_, fun j hj => ?_⟩
  · rw [e4] at g4
    rw [e5] at g5
    rw [e6] at g6
    cases g4
    cases g5
    cases g6
    rw [ao, ab]
    by_cases hi' : i = n.toNatClampNeg
    · rw [if_pos hi', if_pos hi']
      exact hxy
    · rw [if_neg hi', if_neg hi']
      exact h o b n h4 h5 h6 i (by omega)
  · rcases hj with hj | hj | hj
    · exact Or.inl hj
    · exact Or.inr (Or.inl hj)
    · by_cases hj0 : j.toInt < 0
      · exact Or.inl hj0
      · refine Or.inr (Or.inr fun o' n' g4 g6 => ?_)
        rw [e4] at g4
        rw [e6] at g6
        cases g4
        cases g6
        obtain ⟨k1, k2⟩ := hj o n h4 h6
        refine ⟨by omega, ?_⟩
        have hj' := tn_eq (i := j) (by omega)
        rw [ao, if_neg (by omega)]
        exact k2
/-- the argument of a jump is written -/
theorem lead_c {t o b : Nat} {n j y : Int32} {f1 : Nat → va_E} (h : cOK f t) (h4 : fV f t 4 = .ref o) (h5 : fV f t 5 = .ref b) (h6 : fV f t 6 = .int n) (hj : 0 ≤ j.toInt ∧ j.toInt < n.toInt ∧ n.toInt ≤ 2000) (hob : o ≠ b) (htb : t ≠ b) (u1 : uA f f1 b j.toNatClampNeg y) (hJ : jOK f t j) : cOK f1 t ∧ tJ f f1 t := by
  have hop : jop (aI f o j.toNatClampNeg) := by
    rcases hJ with q | q | q
    · omega
    · omega
    · exact (q o n h4 h6).2
  refine ⟨fun o' b' n' g4 g5 g6 i hi => ?_, fun q hq => ?_⟩
  · rw [u1.fV htb] at g4 g5 g6
    rw [h4] at g4
    rw [h5] at g5
    rw [h6] at g6
    cases g4
    cases g5
    cases g6
    rw [u1.aI hob, u1.2]
    by_cases hi' : i = j.toNatClampNeg
    · rw [if_pos hi', hi']
      exact crel_jop hop
    · rw [if_neg hi']
      exact h o b n h4 h5 h6 i hi
  · rcases hq with hq | hq | hq
    · exact Or.inl hq
    · exact Or.inr (Or.inl hq)
    · refine Or.inr (Or.inr fun o' n' g4 g6 => ?_)
      rw [u1.fV htb] at g4 g6
      rw [h4] at g4
      rw [h6] at g6
      cases g4
      cases g6
      rw [u1.aI hob]
      exact hq o n h4 h6
/-- the pile: a call's target is a member's, or a telling's -/
def erel (k t : Int32) : Prop := (k.toInt = 2 → bd 0 11 t) ∧ (k.toInt = 3 → bd 0 95 t)
def eOK (f : Nat → va_E) (e : Nat) : Prop := ∀ (o a : Nat), fV f e 3 = .ref o → fV f e 5 = .ref a → ∀ i : Nat, i < 300 → erel (aI f o i) (aI f a i)
def eJ (f : Nat → va_E) (e t : Nat) : Prop := ∀ (o a : Nat) (n : Int32), fV f e 3 = .ref o → fV f e 5 = .ref a → fV f e 8 = .int n → ∀ i : Nat, (i : Int) < n.toInt → ((aI f o i).toInt = 205 ∨ (aI f o i).toInt = 206) → jOK f t (aI f a i)
def bJ (f : Nat → va_E) (r t : Nat) : Prop := ∀ (o a : Nat) (n : Int32), fV f r 7 = .ref o → fV f r 8 = .ref a → fV f r 11 = .int n → ∀ i : Nat, (i : Int) < n.toInt → (aI f o i).toInt ≠ 0 → jOK f t (aI f a i)

theorem ref_kd {t j K : Nat} {ci o : Nat} (hW : WT L kd tys f) (ht : t ∈ L) (hk : kd t = ci) (hci : ci < 100) (hF : (FS ci)[j]? = some ((2, (K : Int), (K : Int)) : rS)) (e : fV f t j = .ref o) : o ∈ L ∧ kd o = K := by
  have h := hW t ht
  rw [hk] at h
  unfold okE at h
  rw [if_pos hci] at h
  obtain ⟨fs, hfe, -, hfs⟩ := h
  have h2 : okV L kd (2, (K : Int), (K : Int)) (fV f t j) := by
    have := hfs j _ hF
    simpa only [fV, hfe] using this
  rw [e] at h2
  obtain ⟨o', ho1, ho2, ho3, ho4⟩ := h2
  cases ho1
  exact ⟨ho2, by simp only at ho3 ho4; omega⟩
theorem md_fV {mds : List (Nat × Nat)} {mas : List Nat} {f1 : Nat → va_E} {t j ci : Nat} (hM : Md L kd mds mas f f1) (ht : t ∈ L) (hk : kd t = ci) (hci : ci < 100) (h : mds.contains (ci, j) = false) : fV f1 t j = fV f t j := (hM t ht).1 j (by omega) (by rw [hk]; intro q; simp [q] at h)
theorem eOK.frame {e : Nat} {mds : List (Nat × Nat)} {mas : List Nat} {f1 : Nat → va_E} (hM : Md L kd mds mas f f1) (hW : WT L kd tys f) (ht : e ∈ L) (hk : kd e = 0) (h1 : ([(0, 3), (0, 5)] : List (Nat × Nat)).all (fun q => !(mds.contains q)) = true) (h2 : ([110, 112] : List Nat).all (fun q => !(mas.contains q)) = true) (h : eOK f e) : eOK f1 e := by
  intro o a e1 e2 i hi
  simp only [List.all_cons, List.all_nil, Bool.and_true, Bool.and_eq_true, Bool.not_eq_true'] at h1 h2
  rw [md_fV hM ht hk (by decide) h1.1] at e1
  rw [md_fV hM ht hk (by decide) h1.2] at e2
  obtain ⟨ho, ko⟩ := ref_kd (K := 110) hW ht hk (by decide) rfl e1
  obtain ⟨ha, ka⟩ := ref_kd (K := 112) hW ht hk (by decide) rfl e2
  have eo := arr_eq hM ho ko (by decide) h2.1
  have ea := arr_eq hM ha ka (by decide) h2.2
  have := h o a e1 e2 i hi
  simpa only [aI, eo, ea] using this
theorem ne_kd {a b K1 K2 : Nat} (h1 : kd a = K1) (h2 : kd b = K2) (h : K1 ≠ K2) : a ≠ b := fun q => h (by rw [← h1, ← h2, q])
theorem push_e {e o b i : Nat} {k t : Int32} {f1 f1' f2 : Nat → va_E} (h : eOK f e) (h3 : fV f e 3 = .ref o) (h5 : fV f e 5 = .ref b) (hob : o ≠ b) (heo : e ≠ o) (heb : e ≠ b) (he : e ∈ L) (hke : kd e = 0) (ho : o ∈ L) (hko : kd o = 110) (hb : b ∈ L) (hkb : kd b = 112)
    (u1 : uA f f1 o i k) (hM : Md L kd [] [111] f1 f1') (u2 : uA f1' f2 b i t) (hr : erel k t) : eOK f2 e := by
  have e3 : fV f2 e 3 = .ref o := by rw [u2.fV heb, md_fV hM he hke (by decide) rfl, u1.fV heo]; exact h3
  have e5 : fV f2 e 5 = .ref b := by rw [u2.fV heb, md_fV hM he hke (by decide) rfl, u1.fV heo]; exact h5
  intro o' b' g3 g5 j hj
  rw [e3] at g3
  rw [e5] at g5
  cases g3
  cases g5
  have ao : aI f2 o j = if j = i then k else aI f o j := by
    rw [u2.aI hob, ← u1.2 j]
    unfold aI
    rw [arr_eq hM ho hko (by decide) rfl]
  have ab : aI f2 b j = if j = i then t else aI f b j := by
    rw [u2.2 j]
    have : aI f1' b j = aI f b j := by
      have h7 : f1' b = f1 b := arr_eq hM hb hkb (by decide) rfl
      have h8 : f1 b = f b := u1.1 b (Ne.symm hob)
      unfold aI
      rw [h7, h8]
    rw [this]
  rw [ao, ab]
  by_cases hji : j = i
  · rw [if_pos hji, if_pos hji]
    exact hr
  · rw [if_neg hji, if_neg hji]
    exact h o b h3 h5 j hj
theorem erel_bd {a b c d : Int} {k t : Int32} (hk : bd a b k) (ht : bd c d t) (h : ((b < 2 ∨ 3 < a) ∨ (0 ≤ c ∧ d ≤ 11)) ∨ ((b < 2 ∨ 2 < a) ∧ (0 ≤ c ∧ d ≤ 95))) : erel k t := by
  obtain ⟨h1, h2⟩ := hk
  obtain ⟨h3, h4⟩ := ht
  refine ⟨fun q => ⟨?_, ?_⟩, fun q => ⟨?_, ?_⟩⟩ <;> omega
theorem er2 {k t : Int32} {lo hi : Int} (h : erel k t) (hx : bd lo hi k) (hh : lo = 2 ∧ hi = 2) : bd 0 11 t := h.1 (by have h1 := hx.1; have h2 := hx.2; omega)
theorem er3 {k t : Int32} {lo hi : Int} (h : erel k t) (hx : bd lo hi k) (hh : lo = 3 ∧ hi = 3) : bd 0 95 t := h.2 (by have h1 := hx.1; have h2 := hx.2; omega)
theorem eOK.at {D : va_G} {s : State} {H : Heap} {locs : List Loc} {md : List (Nat × Nat)} {ma : List Nat} {fx : List Fct} {f0 : Nat → va_E} {e o b : Nat} {x y i : Int32} {lo hi : Int} (h : eOK f e) (g : G3 D L kd tys s f0 md ma f H locs fx) (i3 i5 : Nat) (e3 : fx[i3]? = some (0, 3, e, .ref o)) (e5 : fx[i5]? = some (0, 5, e, .ref b)) (hx : x = aI f o i.toNatClampNeg) (hy : y = aI f b i.toNatClampNeg) (hib : bd lo hi i) (hlo : 0 ≤ lo ∧ hi < 300) : erel x y := by
  rw [hx, hy]
  have h0 := tn_eq (i := i) (by have := hib.1; omega)
  exact h o b (fx_at g e3).2.2.2 (fx_at g e5).2.2.2 _ (by have := hib.2; omega)
end XROWS
