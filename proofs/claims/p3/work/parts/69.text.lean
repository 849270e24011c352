section TXT
variable {s : State} {H : Heap} {locs : List Loc} {D : va_G} {tys : List (ClassId × FieldType)} {L : List Nat} {kd : Nat → Nat} {f0 f f1 f2 f3 : Nat → va_E} {md : List (Nat × Nat)} {ma : List Nat} {fx : List Fct} {a b o t e r T : Nat} {n n1 x y j k : Int32} {J J2 : Int32 → Prop}
/-- the jumps of J are jumps of the code -/
def jS (f : Nat → va_E) (t : Nat) (J : Int32 → Prop) : Prop := ∀ j, J j → jOK f t j
/-- the other text: its code is whole; its code's arrays are others -/
def dOK (L : List Nat) (kd : Nat → Nat) (f : Nat → va_E) (t T : Nat) : Prop := T ∈ L ∧ kd T = 7 ∧ t ≠ T ∧ cOK f T ∧ ∀ i j b, (i = 4 ∨ i = 5) → (j = 4 ∨ j = 5) → fV f t i = .ref b → fV f T j ≠ .ref b
theorem jOK_fr (hM : Md L kd md ma f f1) (hW : WT L kd tys f) (hq : t ∈ L) (hk : kd t = 7) (h1 : ([(7, 4), (7, 6)] : List (Nat × Nat)).all (fun q => !(md.contains q)) = true) (h2 : ([138] : List Nat).all (fun q => !(ma.contains q)) = true) (h : jOK f t j) : jOK f1 t j := by
  have nm : ∀ i : Nat, (7, i) ∈ ([(7, 4), (7, 6)] : List (Nat × Nat)) → fV f1 t i = fV f t i := fun i hi => (hM t hq).1 i (by omega) (by
    rw [hk]
    intro q
    have := List.all_eq_true.mp h1 _ hi
    simp at this
    exact this q)
  rcases h with q | q | q
  · exact Or.inl q
  · exact Or.inr (Or.inl q)
  · refine Or.inr (Or.inr fun o' n' e4 e6 => ?_)
    rw [nm 4 (by simp)] at e4
    rw [nm 6 (by simp)] at e6
    obtain ⟨q1, q2⟩ := q o' n' e4 e6
    obtain ⟨hoL, hok⟩ := ref_kd hW hq hk (by decide) (K := 138) (j := 4) rfl e4
    have e : f1 o' = f o' := (hM o' hoL).2.1 (by omega) (fun hc => by
      have h9 := List.all_eq_true.mp h2 138 (by simp)
      rw [hok] at hc
      simp [hc] at h9)
    refine ⟨q1, ?_⟩
    unfold aI
    rw [e]
    exact q2
theorem jS.frame (hM : Md L kd md ma f f1) (hW : WT L kd tys f) (hq : t ∈ L) (hk : kd t = 7) (h1 : ([(7, 4), (7, 6)] : List (Nat × Nat)).all (fun q => !(md.contains q)) = true) (h2 : ([138] : List Nat).all (fun q => !(ma.contains q)) = true) (h : jS f t J) : jS f1 t J := fun j hj => jOK_fr hM hW hq hk h1 h2 (h j hj)
theorem dOK.frame (hM : Md L kd md ma f f1) (hW : WT L kd tys f) (hq : t ∈ L) (hk : kd t = 7) (h1 : ([(7, 4), (7, 5), (7, 6)] : List (Nat × Nat)).all (fun q => !(md.contains q)) = true) (h2 : ([138, 139] : List Nat).all (fun q => !(ma.contains q)) = true) (h : dOK L kd f t T) : dOK L kd f1 t T := by
  obtain ⟨a1, a2, a3, a4, a5⟩ := h
  have nm : ∀ c i : Nat, c ∈ L → kd c = 7 → (i = 4 ∨ i = 5) → fV f1 c i = fV f c i := fun c i hc kc hi => (hM c hc).1 i (by omega) (by
    rw [kc]
    intro q
    have h9 := List.all_eq_true.mp h1 (7, i) (by rcases hi with rfl | rfl <;> simp)
    simp at h9
    exact h9 q)
  refine ⟨a1, a2, a3, cOK.frame hM hW a1 a2 h1 h2 a4, fun i j b hi hj e1 e2 => ?_⟩
  rw [nm t i hq hk hi] at e1
  rw [nm T j a1 a2 hj] at e2
  exact a5 i j b hi hj e1 e2
/-- something was written to the text t, to the arrays of its code -/
theorem dOK.st (h : dOK L kd f t T) (hW : WT L kd tys f) (e4 : fV f t 4 = .ref o) (e5 : fV f t 5 = .ref b) (hk : kd t = 7) (ho : kd o = 138) (hb : kd b = 139) (u : ∀ c, c ≠ o → c ≠ b → c ≠ t → f1 c = f c) (g4 : fV f1 t 4 = .ref o) (g5 : fV f1 t 5 = .ref b) : dOK L kd f1 t T := by
  obtain ⟨a1, a2, a3, a4, a5⟩ := h
  have eT : f1 T = f T := u T (fun z => by rw [z] at a2; omega) (fun z => by rw [z] at a2; omega) (fun z => a3 z.symm)
  have fT : ∀ i, fV f1 T i = fV f T i := fun i => by unfold fV; rw [eT]
  refine ⟨a1, a2, a3, fun o' a' n' g1 g2 g3 i hi => ?_, fun i j c hi hj e1 e2 => ?_⟩
  · rw [fT] at g1 g2 g3
    obtain ⟨q1, q2⟩ := ref_kd hW a1 a2 (by decide) (K := 138) (j := 4) rfl g1
    obtain ⟨q3, q4⟩ := ref_kd hW a1 a2 (by decide) (K := 139) (j := 5) rfl g2
    have h3 := a4 o' a' n' g1 g2 g3 i hi
    have x1 : f1 o' = f o' := u o' (fun z => a5 4 4 o (Or.inl rfl) (Or.inl rfl) e4 (by rw [← z]; exact g1)) (fun z => by rw [z] at q2; omega) (fun z => by rw [z] at q2; omega)
    have x2 : f1 a' = f a' := u a' (fun z => by rw [z] at q4; omega) (fun z => a5 5 5 b (Or.inr rfl) (Or.inr rfl) e5 (by rw [← z]; exact g2)) (fun z => by rw [z] at q4; omega)
    unfold aI at h3 ⊢
    rw [x1, x2]
    exact h3
  · rw [fT] at e2
    rcases hi with rfl | rfl
    · rw [g4] at e1
      exact a5 4 j c (Or.inl rfl) hj (e4.trans e1) e2
    · rw [g5] at e1
      exact a5 5 j c (Or.inr rfl) hj (e5.trans e1) e2
/-- a code is written behind the last -/
theorem emit_d (h : dOK L kd f t T) (hW : WT L kd tys f) (hk : kd t = 7) (h4 : fV f t 4 = .ref o) (h5 : fV f t 5 = .ref b) (ho : kd o = 138) (hb : kd b = 139) (u1 : uA f f1 o n.toNatClampNeg x) (u2 : uA f1 f2 b n.toNatClampNeg y) (u3 : uF f2 f3 t 6 (.int n1)) : dOK L kd f3 t T := by
  have hto : t ≠ o := fun z => by rw [z] at hk; omega
  have htb : t ≠ b := fun z => by rw [z] at hk; omega
  refine h.st hW h4 h5 hk ho hb (fun c q1 q2 q3 => by rw [u3.1 c q3, u2.1 c q2, u1.1 c q1]) ?_ ?_
  · rw [u3.2, if_neg (by decide), u2.fV htb, u1.fV hto]
    exact h4
  · rw [u3.2, if_neg (by decide), u2.fV htb, u1.fV hto]
    exact h5
theorem lead_d (h : dOK L kd f t T) (hW : WT L kd tys f) (hk : kd t = 7) (h4 : fV f t 4 = .ref o) (h5 : fV f t 5 = .ref b) (ho : kd o = 138) (hb : kd b = 139) (u1 : uA f f1 b j.toNatClampNeg y) : dOK L kd f1 t T := by
  have htb : t ≠ b := fun z => by rw [z] at hk; omega
  exact h.st hW h4 h5 hk ho hb (fun c _ q2 _ => u1.1 c q2) ((u1.fV htb 4).trans h4) ((u1.fV htb 5).trans h5)
theorem zero_d (h : dOK L kd f t T) (hW : WT L kd tys f) (hk : kd t = 7) (h4 : fV f t 4 = .ref o) (h5 : fV f t 5 = .ref b) (ho : kd o = 138) (hb : kd b = 139) (u3 : uF f f1 t 6 (.int n1)) : dOK L kd f1 t T := by
  refine h.st hW h4 h5 hk ho hb (fun c _ _ q3 => u3.1 c q3) ?_ ?_
  · rw [u3.2, if_neg (by decide)]
    exact h4
  · rw [u3.2, if_neg (by decide)]
    exact h5
theorem zero_c (u3 : fV f t 6 = .int n1) (h0 : n1.toInt ≤ 0) : cOK f t := fun o' a' n' g1 g2 g3 i hi => by
  rw [u3] at g3
  cases g3
  omega
/-- the code that was just written: a jump, where its kind is one -/
theorem emit_j (h4 : fV f t 4 = .ref o) (h5 : fV f t 5 = .ref b) (hn : 0 ≤ n.toInt) (hob : o ≠ b) (hto : t ≠ o) (htb : t ≠ b) (u1 : uA f f1 o n.toNatClampNeg x) (u2 : uA f1 f2 b n.toNatClampNeg y) (u3 : uF f2 f3 t 6 (.int n1)) (hm : n1.toInt = n.toInt + 1) (hx : jop x) : jOK f3 t n := by
  refine Or.inr (Or.inr fun o' n' g4 g6 => ?_)
  rw [u3.2, if_neg (by decide), u2.fV htb, u1.fV hto, h4] at g4
  rw [u3.2, if_pos rfl] at g6
  cases g4
  cases g6
  refine ⟨by omega, ?_⟩
  rw [u3.aI (Ne.symm hto), u2.aI hob, u1.2, if_pos rfl]
  exact hx
theorem full_j (hn : 2000 ≤ n.toInt) : jOK f t n := Or.inr (Or.inl hn)
theorem neg_j (hn : n.toInt < 0) : jOK f t n := Or.inl hn
theorem jS.mv (h : jS f t J) (hz : jS f1 t (fun j => jOK f t j)) : jS f1 t J := fun j hj => hz j (h j hj)
end TXT
section TXU
variable {s : State} {H : Heap} {locs : List Loc} {D : va_G} {tys : List (ClassId × FieldType)} {L : List Nat} {kd : Nat → Nat} {f0 f f1 f2 f3 : Nat → va_E} {md : List (Nat × Nat)} {ma : List Nat} {fx : List Fct} {a b o t e r T : Nat} {n n1 x y j k : Int32} {i : Nat} {J : Int32 → Prop}
theorem jOK.frame (hM : Md L kd md ma f f1) (hW : WT L kd tys f) (hq : t ∈ L) (hk : kd t = 7) (h1 : ([(7, 4), (7, 6)] : List (Nat × Nat)).all (fun q => !(md.contains q)) = true) (h2 : ([138] : List Nat).all (fun q => !(ma.contains q)) = true) (h : jOK f t j) : jOK f1 t j := jOK_fr hM hW hq hk h1 h2 h
/-- what an open part of an expression tells -/
def eJx (f : Nat → va_E) (e : Nat) : Prop := ∀ (t o a : Nat) (n : Int32), fV f e 2 = .ref t → fV f e 3 = .ref o → fV f e 5 = .ref a → fV f e 8 = .int n → ∀ i : Nat, (i : Int) < n.toInt → (((aI f o i).toInt = 205 ∨ (aI f o i).toInt = 206) → jOK f t (aI f a i)) ∧ (((aI f o i).toInt = 4 ∨ (aI f o i).toInt = 5) → bd 0 400 (aI f a i))
/-- an open block's jump -/
def bJx (f : Nat → va_E) (r : Nat) : Prop := ∀ (t o a : Nat) (n : Int32), fV f r 3 = .ref t → fV f r 7 = .ref o → fV f r 8 = .ref a → fV f r 11 = .int n → ∀ i : Nat, (i : Int) < n.toInt → (aI f o i).toInt ≠ 0 → jOK f t (aI f a i)
theorem eJx.zero (h : fV f e 8 = .int n) (hn : n.toInt ≤ 0) : eJx f e := fun t o a n' _ _ _ h8 i hi => by
  rw [h] at h8
  cases h8
  omega
theorem bJx.zero (h : fV f r 11 = .int n) (hn : n.toInt ≤ 0) : bJx f r := fun t o a n' _ _ _ h8 i hi => by
  rw [h] at h8
  cases h8
  omega
theorem jOK.put {v : Value} (h : jOK f t j) (u : uF f f1 e i v) (hW : WT L kd tys f) (ht : t ∈ L) (hkt : kd t = 7) (he : kd e < 7) : jOK f1 t j := by
  rcases h with q | q | q
  · exact Or.inl q
  · exact Or.inr (Or.inl q)
  · refine Or.inr (Or.inr fun o' m' g4 g6 => ?_)
    have hte : t ≠ e := fun z => by rw [z] at hkt; omega
    have e1 : ∀ i, fV f1 t i = fV f t i := fun i => by unfold fV; rw [u.1 t hte]
    rw [e1] at g4 g6
    have h6 := q o' m' g4 g6
    have ho := (ref_kd hW ht hkt (by decide) (K := 138) (j := 4) rfl g4).2
    refine ⟨h6.1, ?_⟩
    rw [u.aI (fun z => by rw [z] at ho; omega)]
    exact h6.2
theorem eJx.dec (h : eJx f e) (h8 : fV f e 8 = .int n) (h2 : fV f e 2 = .ref t) (ht : t ∈ L) (hkt : kd t = 7) (u : uF f f1 e 8 (.int n1)) (hn : n1.toInt ≤ n.toInt) (hW : WT L kd tys f) (he : e ∈ L) (hk : kd e = 0) : eJx f1 e := fun t' o a n' g2 g3 g5 g8 i hi => by
  rw [u.2, if_neg (by decide)] at g2 g3 g5
  rw [u.2, if_pos rfl] at g8
  cases g8
  rw [h2] at g2
  cases g2
  have h9 := h t o a n h2 g3 g5 h8 i (by omega)
  have ho := (ref_kd hW he hk (by decide) (K := 110) (j := 3) rfl g3).2
  have ha := (ref_kd hW he hk (by decide) (K := 112) (j := 5) rfl g5).2
  rw [u.aI (fun z => by rw [z] at ho; omega), u.aI (fun z => by rw [z] at ha; omega)]
  exact ⟨fun q => (h9.1 q).put u hW ht hkt (by omega), h9.2⟩
/-- the text has grown, the parts stayed -/
theorem eJx.mv (h : eJx f e) (hM : Md L kd md ma f f1) (hW : WT L kd tys f) (he : e ∈ L) (hk : kd e = 0) (h1 : ([(0, 2), (0, 3), (0, 5), (0, 8)] : List (Nat × Nat)).all (fun q => !(md.contains q)) = true) (h2 : ([110, 112] : List Nat).all (fun q => !(ma.contains q)) = true) (e2 : fV f e 2 = .ref t) (hz : jS f1 t (fun j => jOK f t j)) : eJx f1 e := fun t' o a n' g2 g3 g5 g8 i hi => by
  have nm : ∀ i : Nat, (0, i) ∈ ([(0, 2), (0, 3), (0, 5), (0, 8)] : List (Nat × Nat)) → fV f1 e i = fV f e i := fun i hi => (hM e he).1 i (by omega) (by
    rw [hk]
    intro q
    have h9 := List.all_eq_true.mp h1 _ hi
    simp at h9
    exact h9 q)
  rw [nm 2 (by simp)] at g2
  rw [nm 3 (by simp)] at g3
  rw [nm 5 (by simp)] at g5
  rw [nm 8 (by simp)] at g8
  obtain ⟨hoL, ho⟩ := ref_kd hW he hk (by decide) (K := 110) (j := 3) rfl g3
  obtain ⟨haL, ha⟩ := ref_kd hW he hk (by decide) (K := 112) (j := 5) rfl g5
  have hn : ∀ {K : Nat}, K = 110 ∨ K = 112 → K ∉ ma := fun q hc => by
    have h3 := h2
    simp only [List.all_cons, List.all_nil, Bool.and_true, Bool.and_eq_true] at h3
    rcases q with rfl | rfl
    · have h9 := h3.1
      simp [hc] at h9
    · have h9 := h3.2
      simp [hc] at h9
  have eo : ∀ i, aI f1 o i = aI f o i := fun i => by unfold aI; rw [(hM o hoL).2.1 (by omega) (by rw [ho]; exact hn (Or.inl rfl))]
  have ea : ∀ i, aI f1 a i = aI f a i := fun i => by unfold aI; rw [(hM a haL).2.1 (by omega) (by rw [ha]; exact hn (Or.inr rfl))]
  rw [eo, ea]
  have h9 := h t' o a n' g2 g3 g5 g8 i hi
  rw [e2] at g2
  cases g2
  exact ⟨fun q => hz _ (h9.1 q), h9.2⟩
theorem bJx.mv (h : bJx f r) (hM : Md L kd md ma f f1) (hW : WT L kd tys f) (he : r ∈ L) (hk : kd r = 2) (h1 : ([(2, 3), (2, 7), (2, 8), (2, 11)] : List (Nat × Nat)).all (fun q => !(md.contains q)) = true) (h2 : ([118, 119] : List Nat).all (fun q => !(ma.contains q)) = true) (e2 : fV f r 3 = .ref t) (hz : jS f1 t (fun j => jOK f t j)) : bJx f1 r := fun t' o a n' g2 g3 g5 g8 i hi hne => by
  have nm : ∀ i : Nat, (2, i) ∈ ([(2, 3), (2, 7), (2, 8), (2, 11)] : List (Nat × Nat)) → fV f1 r i = fV f r i := fun i hi => (hM r he).1 i (by omega) (by
    rw [hk]
    intro q
    have h9 := List.all_eq_true.mp h1 _ hi
    simp at h9
    exact h9 q)
  rw [nm 3 (by simp)] at g2
  rw [nm 7 (by simp)] at g3
  rw [nm 8 (by simp)] at g5
  rw [nm 11 (by simp)] at g8
  obtain ⟨hoL, ho⟩ := ref_kd hW he hk (by decide) (K := 118) (j := 7) rfl g3
  obtain ⟨haL, ha⟩ := ref_kd hW he hk (by decide) (K := 119) (j := 8) rfl g5
  have hn : ∀ {K : Nat}, K = 118 ∨ K = 119 → K ∉ ma := fun q hc => by
    have h3 := h2
    simp only [List.all_cons, List.all_nil, Bool.and_true, Bool.and_eq_true] at h3
    rcases q with rfl | rfl
    · have h9 := h3.1
      simp [hc] at h9
    · have h9 := h3.2
      simp [hc] at h9
  have eo : ∀ i, aI f1 o i = aI f o i := fun i => by unfold aI; rw [(hM o hoL).2.1 (by omega) (by rw [ho]; exact hn (Or.inl rfl))]
  have ea : ∀ i, aI f1 a i = aI f a i := fun i => by unfold aI; rw [(hM a haL).2.1 (by omega) (by rw [ha]; exact hn (Or.inr rfl))]
  rw [eo] at hne
  rw [ea]
  have h9 := h t' o a n' g2 g3 g5 g8 i hi hne
  rw [e2] at g2
  cases g2
  exact hz _ h9
theorem ref3 {ci K : Nat} (hW : WT L kd tys f) (ht : e ∈ L) (hk : kd e = ci) (hci : ci < 100) (hF : (FS ci)[i]? = some ((3, (K : Int), (K : Int)) : rS)) (e1 : fV f e i = .ref o) : o ∈ L ∧ kd o = K := by
  have h := hW e ht
  rw [hk] at h
  unfold okE at h
  rw [if_pos hci] at h
  obtain ⟨fs, a1, a2, a3⟩ := h
  have h4 := a3 i _ hF
  unfold fV at e1
  rw [a1] at e1
  have e2 : fs.getD i .null = .ref o := e1
  rcases h4 with q | ⟨b, q1, q2, q3, q4⟩
  · rw [e2] at q
    cases q
  · rw [e2] at q1
    cases q1
    have q5 : (K : Int) ≤ kd o := q3
    have q6 : (kd o : Int) ≤ K := q4
    exact ⟨q2, by omega⟩
theorem eJx.frame (hM : Md L kd md ma f f1) (hW : WT L kd tys f) (hq : e ∈ L) (hk : kd e = 0) (h1 : ([(0, 2), (0, 3), (0, 5), (0, 8), (7, 4), (7, 6)] : List (Nat × Nat)).all (fun q => !(md.contains q)) = true) (h2 : ([110, 112, 138] : List Nat).all (fun q => !(ma.contains q)) = true) (h : eJx f e) : eJx f1 e := by
  simp only [List.all_cons, List.all_nil, Bool.and_true, Bool.and_eq_true] at h1 h2
  obtain ⟨a1, a2, a3, a4, a5, a6⟩ := h1
  obtain ⟨b1, b2, b3⟩ := h2
  by_cases q : ∃ t, fV f e 2 = .ref t
  · obtain ⟨t, ht⟩ := q
    obtain ⟨c1, c2⟩ := ref3 hW hq hk (by decide) (K := 7) (i := 2) rfl ht
    exact h.mv hM hW hq hk (by simp only [List.all_cons, List.all_nil, Bool.and_true, Bool.and_eq_true]; exact ⟨a1, a2, a3, a4⟩) (by simp only [List.all_cons, List.all_nil, Bool.and_true, Bool.and_eq_true]; exact ⟨b1, b2⟩) ht (fun j hj => jOK_fr hM hW c1 c2 (by simp only [List.all_cons, List.all_nil, Bool.and_true, Bool.and_eq_true]; exact ⟨a5, a6⟩) (by simp only [List.all_cons, List.all_nil, Bool.and_true]; exact b3) hj)
  · intro t o a n g2
    exfalso
    refine q ⟨t, ?_⟩
    rw [← (hM e hq).1 2 (by omega) (fun hc => by rw [hk] at hc; simp [hc] at a1)]
    exact g2
theorem bJx.frame (hM : Md L kd md ma f f1) (hW : WT L kd tys f) (hq : r ∈ L) (hk : kd r = 2) (h1 : ([(2, 3), (2, 7), (2, 8), (2, 11), (7, 4), (7, 6)] : List (Nat × Nat)).all (fun q => !(md.contains q)) = true) (h2 : ([118, 119, 138] : List Nat).all (fun q => !(ma.contains q)) = true) (h : bJx f r) : bJx f1 r := by
  simp only [List.all_cons, List.all_nil, Bool.and_true, Bool.and_eq_true] at h1 h2
  obtain ⟨a1, a2, a3, a4, a5, a6⟩ := h1
  obtain ⟨b1, b2, b3⟩ := h2
  by_cases q : ∃ t, fV f r 3 = .ref t
  · obtain ⟨t, ht⟩ := q
    obtain ⟨c1, c2⟩ := ref3 hW hq hk (by decide) (K := 7) (i := 3) rfl ht
    exact h.mv hM hW hq hk (by simp only [List.all_cons, List.all_nil, Bool.and_true, Bool.and_eq_true]; exact ⟨a1, a2, a3, a4⟩) (by simp only [List.all_cons, List.all_nil, Bool.and_true, Bool.and_eq_true]; exact ⟨b1, b2⟩) ht (fun j hj => jOK_fr hM hW c1 c2 (by simp only [List.all_cons, List.all_nil, Bool.and_true, Bool.and_eq_true]; exact ⟨a5, a6⟩) (by simp only [List.all_cons, List.all_nil, Bool.and_true]; exact b3) hj)
  · intro t o a n g2
    exfalso
    refine q ⟨t, ?_⟩
    rw [← (hM r hq).1 3 (by omega) (fun hc => by rw [hk] at hc; simp [hc] at a1)]
    exact g2
end TXU
section TXV
variable {s : State} {H : Heap} {locs : List Loc} {D : va_G} {tys : List (ClassId × FieldType)} {L : List Nat} {kd : Nat → Nat} {f0 f f1 f2 f3 : Nat → va_E} {md : List (Nat × Nat)} {ma : List Nat} {fx : List Fct} {a b o t e r T : Nat} {n n1 x y j k tg : Int32} {i : Nat} {J : Int32 → Prop}
/-- what stands at a place of an array of targets, of kinds -/
def vT (f : Nat → va_E) (b i : Nat) (x : Int32) : Prop := aI f b i = x
def vK (f : Nat → va_E) (b i : Nat) (x : Int32) : Prop := aI f b i = x
/-- the target of the last of n parts -/
def vP (f : Nat → va_E) (b : Nat) (n x : Int32) : Prop := ∀ i : Nat, (i : Int) + 1 = n.toInt → aI f b i = x
/-- a part of kind k with target x -/
def kQj (f : Nat → va_E) (t : Nat) (k x : Int32) : Prop := ((k.toInt = 205 ∨ k.toInt = 206) → jOK f t x) ∧ ((k.toInt = 4 ∨ k.toInt = 5) → bd 0 400 x)
theorem vT.frame (hM : Md L kd md ma f f1) (hW : WT L kd tys f) (hq : b ∈ L) (hk : kd b = 112) (h1 : (md.all fun _ => true) = true) (h2 : ([112] : List Nat).all (fun q => !(ma.contains q)) = true) (h : vT f b i x) : vT f1 b i x := by
  unfold vT aI at h ⊢
  rw [(hM b hq).2.1 (by omega) (fun hc => by rw [hk] at hc; simp [hc] at h2)]
  exact h
theorem vK.frame (hM : Md L kd md ma f f1) (hW : WT L kd tys f) (hq : b ∈ L) (hk : kd b = 110) (h1 : (md.all fun _ => true) = true) (h2 : ([110] : List Nat).all (fun q => !(ma.contains q)) = true) (h : vK f b i x) : vK f1 b i x := by
  unfold vK aI at h ⊢
  rw [(hM b hq).2.1 (by omega) (fun hc => by rw [hk] at hc; simp [hc] at h2)]
  exact h
theorem vP.frame (hM : Md L kd md ma f f1) (hW : WT L kd tys f) (hq : b ∈ L) (hk : kd b = 112) (h1 : (md.all fun _ => true) = true) (h2 : ([112] : List Nat).all (fun q => !(ma.contains q)) = true) (h : vP f b n x) : vP f1 b n x := fun i hi => by
  unfold aI
  rw [(hM b hq).2.1 (by omega) (fun hc => by rw [hk] at hc; simp [hc] at h2)]
  exact h i hi
theorem kQj.frame (hM : Md L kd md ma f f1) (hW : WT L kd tys f) (hq : t ∈ L) (hk : kd t = 7) (h1 : ([(7, 4), (7, 6)] : List (Nat × Nat)).all (fun q => !(md.contains q)) = true) (h2 : ([138] : List Nat).all (fun q => !(ma.contains q)) = true) (h : kQj f t k x) : kQj f1 t k x := ⟨fun q => jOK_fr hM hW hq hk h1 h2 (h.1 q), h.2⟩
theorem kQj.mv (h : kQj f t k x) (hz : jS f1 t (fun j => jOK f t j)) : kQj f1 t k x := ⟨fun q => hz _ (h.1 q), h.2⟩
theorem eJx.at (h : eJx f e) (g2 : fV f e 2 = .ref t) (g3 : fV f e 3 = .ref o) (g5 : fV f e 5 = .ref a) (g8 : fV f e 8 = .int n) (hi : (i : Int) + 1 = n.toInt) (hx : x = aI f o i) : ∃ tg : Int32, vP f a n tg ∧ kQj f t x tg := by
  have h9 := h t o a n g2 g3 g5 g8 i (by omega)
  rw [← hx] at h9
  exact ⟨_, fun i' hi' => by rw [show i' = i by omega], h9⟩
/-- a store at the place behind the last -/
theorem eJx.sk (h : eJx f e) (g2 : fV f e 2 = .ref t) (g3 : fV f e 3 = .ref o) (g8 : fV f e 8 = .int n) (u : uA f f1 o n.toNatClampNeg k) (hn : 0 ≤ n.toInt) (hW : WT L kd tys f) (he : e ∈ L) (hk : kd e = 0) : eJx f1 e := fun t' o' a' n' q2 q3 q5 q8 i hi => by
  obtain ⟨hoL, ho⟩ := ref_kd hW he hk (by decide) (K := 110) (j := 3) rfl g3
  have heo : e ≠ o := fun z => by rw [z] at hk; omega
  rw [u.fV heo] at q2 q3 q5 q8
  rw [g3] at q3
  cases q3
  rw [g8] at q8
  cases q8
  have ha := (ref_kd hW he hk (by decide) (K := 112) (j := 5) rfl q5).2
  have h9 := h t' o a' n q2 g3 q5 g8 i hi
  have e := tnZ hn
  rw [u.2, if_neg (by omega), u.aI (fun z => by rw [z] at ha; omega)]
  refine ⟨fun q => ?_, h9.2⟩
  have c := ref3 hW he hk (by decide) (K := 7) (i := 2) rfl q2
  rcases h9.1 q with z | z | z
  · exact Or.inl z
  · exact Or.inr (Or.inl z)
  · refine Or.inr (Or.inr fun o' m' g4 g6 => ?_)
    rw [u.fV (fun y => by rw [y] at c; omega)] at g4 g6
    have h6 := z o' m' g4 g6
    have hk4 := (ref_kd hW c.1 c.2 (by decide) (K := 138) (j := 4) rfl g4).2
    rw [u.aI (fun y => by rw [y] at hk4; omega)]
    exact h6
theorem eJx.stt (h : eJx f e) (g2 : fV f e 2 = .ref t) (g5 : fV f e 5 = .ref a) (g8 : fV f e 8 = .int n) (u : uA f f1 a n.toNatClampNeg k) (hn : 0 ≤ n.toInt) (hW : WT L kd tys f) (he : e ∈ L) (hk : kd e = 0) : eJx f1 e := fun t' o' a' n' q2 q3 q5 q8 i hi => by
  obtain ⟨haL, ha⟩ := ref_kd hW he hk (by decide) (K := 112) (j := 5) rfl g5
  have hea : e ≠ a := fun z => by rw [z] at hk; omega
  rw [u.fV hea] at q2 q3 q5 q8
  rw [g5] at q5
  cases q5
  rw [g8] at q8
  cases q8
  have ho := (ref_kd hW he hk (by decide) (K := 110) (j := 3) rfl q3).2
  have h9 := h t' o' a n q2 q3 g5 g8 i hi
  have e := tnZ hn
  rw [u.2, if_neg (by omega), u.aI (fun z => by rw [z] at ho; omega)]
  refine ⟨fun q => ?_, h9.2⟩
  have c := ref3 hW he hk (by decide) (K := 7) (i := 2) rfl q2
  rcases h9.1 q with z | z | z
  · exact Or.inl z
  · exact Or.inr (Or.inl z)
  · refine Or.inr (Or.inr fun o' m' g4 g6 => ?_)
    rw [u.fV (fun y => by rw [y] at c; omega)] at g4 g6
    have h6 := z o' m' g4 g6
    have hk4 := (ref_kd hW c.1 c.2 (by decide) (K := 138) (j := 4) rfl g4).2
    rw [u.aI (fun y => by rw [y] at hk4; omega)]
    exact h6
/-- one part more -/
theorem eJx.inc (h : eJx f e) (g2 : fV f e 2 = .ref t) (g3 : fV f e 3 = .ref o) (g5 : fV f e 5 = .ref a) (g8 : fV f e 8 = .int n) (ht : t ∈ L) (hkt : kd t = 7) (u : uF f f1 e 8 (.int n1)) (hn : 0 ≤ n.toInt) (h1 : n1.toInt = n.toInt + 1) (hk : vK f o n.toNatClampNeg k) (hx : vT f a n.toNatClampNeg x) (hJ : kQj f t k x) (hW : WT L kd tys f) (he : e ∈ L) (hke : kd e = 0) : eJx f1 e := fun t' o' a' n' q2 q3 q5 q8 i hi => by
  rw [u.2, if_neg (by decide)] at q2 q3 q5
  rw [u.2, if_pos rfl] at q8
  cases q8
  rw [g2] at q2
  cases q2
  rw [g3] at q3
  cases q3
  rw [g5] at q5
  cases q5
  have ho := (ref_kd hW he hke (by decide) (K := 110) (j := 3) rfl g3).2
  have ha := (ref_kd hW he hke (by decide) (K := 112) (j := 5) rfl g5).2
  rw [u.aI (fun z => by rw [z] at ho; omega), u.aI (fun z => by rw [z] at ha; omega)]
  have e0 := tnZ hn
  by_cases hin : i = n.toNatClampNeg
  · unfold vK at hk
    unfold vT at hx
    rw [hin, hk, hx]
    exact ⟨fun q => (hJ.1 q).put u hW ht hkt (by omega), hJ.2⟩
  · have h9 := h t o a n g2 g3 g5 g8 i (by omega)
    exact ⟨fun q => (h9.1 q).put u hW ht hkt (by omega), h9.2⟩
end TXV
section TXB
variable {s : State} {H : Heap} {locs : List Loc} {D : va_G} {tys : List (ClassId × FieldType)} {L : List Nat} {kd : Nat → Nat} {f0 f f1 f2 f3 : Nat → va_E} {md : List (Nat × Nat)} {ma : List Nat} {fx : List Fct} {a b o t e r T : Nat} {n n1 x y j k tg : Int32} {i : Nat} {J : Int32 → Prop}
/-- a block of kind k with jump x -/
def lJ (f : Nat → va_E) (t : Nat) (k x : Int32) : Prop := k.toInt ≠ 0 → jOK f t x
def vB (f : Nat → va_E) (b i : Nat) (x : Int32) : Prop := aI f b i = x
def vC (f : Nat → va_E) (b i : Nat) (x : Int32) : Prop := aI f b i = x
theorem vB.frame (hM : Md L kd md ma f f1) (hW : WT L kd tys f) (hq : b ∈ L) (hk : kd b = 119) (h1 : (md.all fun _ => true) = true) (h2 : ([119] : List Nat).all (fun q => !(ma.contains q)) = true) (h : vB f b i x) : vB f1 b i x := by
  unfold vB aI at h ⊢
  rw [(hM b hq).2.1 (by omega) (fun hc => by rw [hk] at hc; simp [hc] at h2)]
  exact h
theorem vC.frame (hM : Md L kd md ma f f1) (hW : WT L kd tys f) (hq : b ∈ L) (hk : kd b = 118) (h1 : (md.all fun _ => true) = true) (h2 : ([118] : List Nat).all (fun q => !(ma.contains q)) = true) (h : vC f b i x) : vC f1 b i x := by
  unfold vC aI at h ⊢
  rw [(hM b hq).2.1 (by omega) (fun hc => by rw [hk] at hc; simp [hc] at h2)]
  exact h
theorem lJ.frame (hM : Md L kd md ma f f1) (hW : WT L kd tys f) (hq : t ∈ L) (hk : kd t = 7) (h1 : ([(7, 4), (7, 6)] : List (Nat × Nat)).all (fun q => !(md.contains q)) = true) (h2 : ([138] : List Nat).all (fun q => !(ma.contains q)) = true) (h : lJ f t k x) : lJ f1 t k x := fun q => jOK_fr hM hW hq hk h1 h2 (h q)
theorem lJ.mv (h : lJ f t k x) (hz : jS f1 t (fun j => jOK f t j)) : lJ f1 t k x := fun q => hz _ (h q)
theorem bJx.at (h : bJx f r) (g2 : fV f r 3 = .ref t) (g3 : fV f r 7 = .ref o) (g5 : fV f r 8 = .ref a) (g8 : fV f r 11 = .int n) (hi : (i : Int) < n.toInt) : ∃ k x : Int32, vC f o i k ∧ vB f a i x ∧ lJ f t k x := ⟨_, _, rfl, rfl, fun q => h t o a n g2 g3 g5 g8 i hi q⟩
theorem bJx.dec (h : bJx f r) (h8 : fV f r 11 = .int n) (h2 : fV f r 3 = .ref t) (ht : t ∈ L) (hkt : kd t = 7) (u : uF f f1 r 11 (.int n1)) (hn : n1.toInt ≤ n.toInt) (hW : WT L kd tys f) (he : r ∈ L) (hk : kd r = 2) : bJx f1 r := fun t' o a n' g2 g3 g5 g8 i hi hne => by
  rw [u.2, if_neg (by decide)] at g2 g3 g5
  rw [u.2, if_pos rfl] at g8
  cases g8
  rw [h2] at g2
  cases g2
  have ho := (ref_kd hW he hk (by decide) (K := 118) (j := 7) rfl g3).2
  have ha := (ref_kd hW he hk (by decide) (K := 119) (j := 8) rfl g5).2
  rw [u.aI (fun z => by rw [z] at ho; omega)] at hne
  rw [u.aI (fun z => by rw [z] at ha; omega)]
  exact (h t o a n h2 g3 g5 h8 i (by omega) hne).put u hW ht hkt (by omega)
theorem jOK.ast (h : jOK f t j) (u : ∀ c, c ≠ b → f1 c = f c) (hW : WT L kd tys f) (ht : t ∈ L) (hkt : kd t = 7) (hb : 100 ≤ kd b) (hb2 : kd b ≠ 138) : jOK f1 t j := by
  rcases h with q | q | q
  · exact Or.inl q
  · exact Or.inr (Or.inl q)
  · refine Or.inr (Or.inr fun o' m' g4 g6 => ?_)
    have e1 : ∀ i, fV f1 t i = fV f t i := fun i => by unfold fV; rw [u t (fun z => by rw [z] at hkt; omega)]
    rw [e1] at g4 g6
    have h6 := q o' m' g4 g6
    have ho := (ref_kd hW ht hkt (by decide) (K := 138) (j := 4) rfl g4).2
    refine ⟨h6.1, ?_⟩
    unfold aI at h6 ⊢
    rw [u o' (fun z => by rw [z] at ho; omega)]
    exact h6.2
/-- a store at the place behind the last -/
theorem bJx.st (h : bJx f r) (g8 : fV f r 11 = .int n) (u : uA f f1 b n.toNatClampNeg k) (hb : kd b = 118 ∨ kd b = 119) (hn : 0 ≤ n.toInt) (hW : WT L kd tys f) (he : r ∈ L) (hk : kd r = 2) : bJx f1 r := fun t' o' a' n' q2 q3 q5 q8 i hi hne => by
  have hrb : r ≠ b := fun z => by rw [z] at hk; omega
  rw [u.fV hrb] at q2 q3 q5 q8
  rw [g8] at q8
  cases q8
  have e0 := tnZ hn
  have ei : ∀ c, aI f1 c i = aI f c i := fun c => by
    by_cases z : c = b
    · rw [z, u.2, if_neg (by omega)]
    · exact u.aI z i
  rw [ei] at hne ⊢
  have c := ref3 hW he hk (by decide) (K := 7) (i := 3) rfl q2
  exact (h t' o' a' n q2 q3 q5 g8 i hi hne).ast u.1 hW c.1 c.2 (by omega) (by omega)
theorem bJx.inc (h : bJx f r) (g2 : fV f r 3 = .ref t) (g3 : fV f r 7 = .ref o) (g5 : fV f r 8 = .ref a) (g8 : fV f r 11 = .int n) (ht : t ∈ L) (hkt : kd t = 7) (u : uF f f1 r 11 (.int n1)) (hn : 0 ≤ n.toInt) (h1 : n1.toInt = n.toInt + 1) (hk : vC f o n.toNatClampNeg k) (hx : vB f a n.toNatClampNeg x) (hJ : lJ f t k x) (hW : WT L kd tys f) (he : r ∈ L) (hke : kd r = 2) : bJx f1 r := fun t' o' a' n' q2 q3 q5 q8 i hi hne => by
  rw [u.2, if_neg (by decide)] at q2 q3 q5
  rw [u.2, if_pos rfl] at q8
  cases q8
  rw [g2] at q2
  cases q2
  rw [g3] at q3
  cases q3
  rw [g5] at q5
  cases q5
  have ho := (ref_kd hW he hke (by decide) (K := 118) (j := 7) rfl g3).2
  have ha := (ref_kd hW he hke (by decide) (K := 119) (j := 8) rfl g5).2
  rw [u.aI (fun z => by rw [z] at ho; omega)] at hne
  rw [u.aI (fun z => by rw [z] at ha; omega)]
  have e0 := tnZ hn
  by_cases hin : i = n.toNatClampNeg
  · unfold vC at hk
    unfold vB at hx
    rw [hin, hk] at hne
    rw [hin, hx]
    exact (hJ hne).put u hW ht hkt (by omega)
  · exact (h t o a n g2 g3 g5 g8 i (by omega) hne).put u hW ht hkt (by omega)
end TXB
theorem pt0_ {x : Int32} (h : bd 0 0 x) : x = 0 := Int32.toInt_inj.mp ((show x.toInt = 0 by have h1 := h.1; have h2 := h.2; omega).trans (by decide))
theorem pt1_ {x : Int32} (h : bd 1 1 x) : x = 1 := Int32.toInt_inj.mp ((show x.toInt = 1 by have h1 := h.1; have h2 := h.2; omega).trans (by decide))
