theorem va_nrc (x : Int32) : narrow .char (.int (x.toUInt32 % 65536).toInt32) = .int (x.toUInt32 % 65536).toInt32 := pk_nc x
theorem W_q {p : Program} {l : Launch} {e : Env} {R : Room} {s : State} {m : MethodId} {args : Array Value} {below : List Frame} {meth : Method} {c : Code} {H : Heap} {locs : List Loc} {cells slots : Nat} {Q : State → Prop} {g : JFrame} (h : ∀ Q' : State → Prop, Q' = Q → W p l e R s m args below meth c H locs cells slots Q' g) : W p l e R s m args below meth c H locs cells slots Q g := h Q rfl
theorem i0_ {p : Int32} (h1 : ¬ p < 0) (h2 : p ≤ 0) : p = 0 := by
  rw [Int32.lt_iff_toInt_lt] at h1
  rw [Int32.le_iff_toInt_le] at h2
  apply Int32.toInt_inj.mp
  have k0 : (0 : Int32).toInt = 0 := by decide
  omega
theorem in_lo {x y : Int64} (h : ¬ lg_cmp x y < 0) : y ≤ x := by
  rw [lg_cmp_lt] at h
  exact Int64.not_lt.mp h
theorem in_hi {x y : Int64} (h : ¬ 0 < lg_cmp x y) : x ≤ y := by
  rw [lg_cmp_gt] at h
  exact Int64.not_lt.mp h
theorem in_ix {x r : Int32} {y hi : Int64} (n : Nat) (h1 : n < 2 ^ 31) (h2 : hi.toInt + 1 = n) (ey : y = x.toInt64) (hr : (r = 1 ∧ 0 ≤ y ∧ y ≤ hi) ∨ r = 0) (hc : ¬ r = 0) : vp_in x n := by
  rcases hr with ⟨-, a, b⟩ | h
  · rw [vp_in_iff]
    subst ey
    rw [Int64.le_iff_toInt_le] at a b
    have k0 : (0 : Int64).toInt = 0 := by decide
    rw [Int32.toInt_toInt64] at a b
    omega
  · exact absurd h hc
theorem in_lt {x : Int32} {n : Nat} (h : vp_in x n) : x.toNatClampNeg < n := by
  have h1 := vp_in_iff.mp h
  show x.toInt.toNat < n
  omega
theorem upd4_ (f : Nat → Int32) {j : Nat} (h : j < 4) : upd (upd (upd (upd f 0 (-1)) 1 (-1)) 2 (-1)) 3 (-1) j = -1 := by
  match j, h with
  | 0, _ => rfl
  | 1, _ => rfl
  | 2, _ => rfl
  | 3, _ => rfl
theorem upd2_ (f : Nat → Int32) {j : Nat} (h : j < 2) : upd (upd f 0 (-1)) 1 (-1) j = -1 := by
  match j, h with
  | 0, _ => rfl
  | 1, _ => rfl
