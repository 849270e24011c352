theorem W_q {p : Program} {l : Launch} {e : Env} {R : Room} {s : State} {m : MethodId} {args : Array Value} {below : List Frame} {meth : Method} {c : Code} {H : Heap} {locs : List Loc} {cells slots : Nat} {Q : State → Prop} {g : JFrame} (h : ∀ Q' : State → Prop, Q' = Q → W p l e R s m args below meth c H locs cells slots Q' g) : W p l e R s m args below meth c H locs cells slots Q g := h Q rfl
theorem nar_z {x : Int32} (h1 : 0 ≤ x.toInt) (h2 : x.toInt ≤ 1) : narrow .boolean (.int x) = .int x := by
  have h : x = 0 ∨ x = 1 := by
    rcases (show x.toInt = 0 ∨ x.toInt = 1 by omega) with h | h
    · exact Or.inl (Int32.toInt_inj.mp (h.trans (by decide)))
    · exact Or.inr (Int32.toInt_inj.mp (h.trans (by decide)))
  rcases h with rfl | rfl <;> rfl
theorem add_ok {x y : Int32} (h1 : -2147483648 ≤ x.toInt + y.toInt) (h2 : x.toInt + y.toInt ≤ 2147483647) : (x + y).toInt = x.toInt + y.toInt := by
  rw [Int32.toInt_add]
  exact Int.bmod_eq_of_le (by omega) (by omega)
theorem sub_ok {x y : Int32} (h1 : -2147483648 ≤ x.toInt - y.toInt) (h2 : x.toInt - y.toInt ≤ 2147483647) : (x - y).toInt = x.toInt - y.toInt := by
  rw [Int32.toInt_sub]
  exact Int.bmod_eq_of_le (by omega) (by omega)
theorem in_ok {x : Int32} {n : Nat} (h1 : 0 ≤ x.toInt) (h2 : x.toInt < n) : vp_in x n := vp_in_iff.mpr ⟨h1, h2⟩
theorem lt_f {x y : Int32} (h : x < y) : x.toInt < y.toInt := Int32.lt_iff_toInt_lt.mp h
theorem nlt_f {x y : Int32} (h : ¬ x < y) : y.toInt ≤ x.toInt := by rw [Int32.lt_iff_toInt_lt] at h; omega
theorem le_f {x y : Int32} (h : x ≤ y) : x.toInt ≤ y.toInt := Int32.le_iff_toInt_le.mp h
theorem nle_f {x y : Int32} (h : ¬ x ≤ y) : y.toInt < x.toInt := by rw [Int32.le_iff_toInt_le] at h; omega
theorem eq_f {x y : Int32} (h : x = y) : x.toInt = y.toInt := by rw [h]
theorem neq_f {x y : Int32} (h : ¬ x = y) : x.toInt ≠ y.toInt := fun e => h (Int32.toInt_inj.mp e)
theorem min_ok (x y : Int32) : (if x ≤ y then x else y).toInt = min x.toInt y.toInt := by
  split
  · rename_i h; have := le_f h; omega
  · rename_i h; have := nle_f h; omega
theorem tb_ (x : Int32) : -2147483648 ≤ x.toInt ∧ x.toInt ≤ 2147483647 := ⟨by have := Int32.le_toInt x; omega, by have := Int32.toInt_lt x; omega⟩
theorem mulc_ok {x k : Int32} {c : Int} (hk : k.toInt = c) (h1 : -2147483648 ≤ x.toInt * c) (h2 : x.toInt * c ≤ 2147483647) : (x * k).toInt = x.toInt * c := by
  subst hk
  rw [Int32.toInt_mul]
  exact Int.bmod_eq_of_le (by omega) (by omega)
theorem cmul_ok {x k : Int32} {c : Int} (hk : k.toInt = c) (h1 : -2147483648 ≤ x.toInt * c) (h2 : x.toInt * c ≤ 2147483647) : (k * x).toInt = x.toInt * c := by
  rw [Int32.mul_comm]
  exact mulc_ok hk h1 h2
theorem mmin_ok (x y : Int32) : (if y < x then y else x).toInt = min x.toInt y.toInt := by
  split
  · rename_i h; have := lt_f h; omega
  · rename_i h; have := nlt_f h; omega
theorem mmax_ok (x y : Int32) : (if x < y then y else x).toInt = max x.toInt y.toInt := by
  split
  · rename_i h; have := lt_f h; omega
  · rename_i h; have := nlt_f h; omega
