theorem aI_cg {F G : Nat → va_E} {a : Nat} {i : Nat} (h : F a = G a) : aI F a i = aI G a i := by
  unfold aI
  rw [h]
section CON1
variable {A : Nat → Prop} {D : va_G} {tys tys' : List (ClassId × FieldType)} {L L1 M M' L0 : List Nat} {kd kd' kd0 : Nat → Nat} {f f1 : Nat → va_E} {W W' X : va_W} {H H1 : Heap} {h ci q sz K : Nat} {e e0 : va_E} {fs : List Value} {dn : List Nat} {kn : List (Nat × Value)}
theorem va_Pm (hP : va_P D vwCl W H) (hs : ∀ x ∈ W', x ∈ W) : va_P D vwCl W' H := fun k x hk => by
  obtain ⟨j, hj⟩ := List.mem_iff_getElem?.mp (hs x (List.mem_of_getElem? hk))
  exact hP j x hj
theorem va_Dn : va_D A W ↔ (W.map (fun x => x.1)).Nodup ∧ ∀ x ∈ W, A x.1 := by
  constructor
  · rintro ⟨h1, h2⟩
    refine ⟨?_, fun x hx => ?_⟩
    · rw [List.nodup_iff_pairwise_ne, List.pairwise_iff_getElem]
      intro i j hi hj hij he
      have hi' : i < W.length := by rw [List.length_map] at hi; exact hi
      have hj' : j < W.length := by rw [List.length_map] at hj; exact hj
      have e : (W[i]).1 = (W[j]).1 := by
        rw [List.getElem_map, List.getElem_map] at he
        exact he
      have := h1 i j _ _ (List.getElem?_eq_getElem hi') (List.getElem?_eq_getElem hj') e
      omega
    · obtain ⟨k, hk⟩ := List.mem_iff_getElem?.mp hx
      exact h2 k x hk
  · rintro ⟨h1, h2⟩
    refine ⟨fun i j x y hi hj e => ?_, fun k x hk => h2 x (List.mem_of_getElem? hk)⟩
    rw [List.nodup_iff_pairwise_ne, List.pairwise_iff_getElem] at h1
    obtain ⟨hi', ei⟩ := List.getElem?_eq_some_iff.mp hi
    obtain ⟨hj', ej⟩ := List.getElem?_eq_some_iff.mp hj
    have li : i < (W.map (fun x => x.1)).length := by rw [List.length_map]; exact hi'
    have lj : j < (W.map (fun x => x.1)).length := by rw [List.length_map]; exact hj'
    have e2 : (W.map (fun x => x.1))[i] = (W.map (fun x => x.1))[j] := by
      rw [List.getElem_map, List.getElem_map, ei, ej]
      exact e
    rcases Nat.lt_trichotomy i j with q | q | q
    · exact absurd e2 (h1 i j li lj q)
    · exact q
    · exact absurd e2.symm (h1 j i lj li q)
theorem pl_fst : (va_pl L f).map (fun x => x.1) = L := by
  induction L with
  | nil => rfl
  | cons a L ih =>
    show a :: (va_pl L f).map (fun x => x.1) = a :: L
    rw [ih]
theorem pl_mem {x : Nat × va_E} : x ∈ va_pl L f ↔ x.1 ∈ L ∧ x.2 = f x.1 := by
  unfold va_pl
  rw [List.mem_map]
  constructor
  · rintro ⟨a, ha, rfl⟩
    exact ⟨ha, rfl⟩
  · rintro ⟨h1, h2⟩
    exact ⟨x.1, h1, by rw [← h2]⟩
theorem cW_re (hp : List.Perm (W.map (fun x => x.1)) (W'.map (fun x => x.1))) (hm : ∀ x ∈ W', x ∈ W) (hP : va_P D vwCl W H) (hD : va_D A W) : va_P D vwCl W' H ∧ va_D A W' :=
  ⟨va_Pm hP hm, va_Dn.mpr ⟨hp.nodup (va_Dn.mp hD).1, fun x hx => (va_Dn.mp hD).2 x (hm x hx)⟩⟩
/-- an object that is made, rows and objects of its that stand apart, the pool -/
def cW (h ci : Nat) (fs : List Value) (X : va_W) (L : List Nat) (f : Nat → va_E) : va_W := (h, .inr (ci, fs)) :: (X ++ va_pl L f)
theorem cW_fst : (cW h ci fs X L f).map (fun x => x.1) = h :: (X.map (fun x => x.1) ++ L) := by
  show h :: (X ++ va_pl L f).map (fun x => x.1) = _
  rw [List.map_append, pl_fst]
theorem cW_mem {x : Nat × va_E} : x ∈ cW h ci fs X L f ↔ x = (h, .inr (ci, fs)) ∨ x ∈ X ∨ (x.1 ∈ L ∧ x.2 = f x.1) := by
  unfold cW
  rw [List.mem_cons, List.mem_append, pl_mem]
theorem okV.up (hM : ∀ a ∈ M, a ∈ M' ∧ kd' a = kd a) {t : rS} {v : Value} (hv : okV M kd t v) : okV M' kd' t v := by
  obtain ⟨t1, lo, hi⟩ := t
  match t1, hv with
  | 0, hv => exact hv
  | 1, hv => exact hv
  | 2, hv =>
    obtain ⟨a, e, m, k1, k2⟩ := hv
    exact ⟨a, e, (hM a m).1, by rw [(hM a m).2]; exact k1, by rw [(hM a m).2]; exact k2⟩
  | n + 3, hv =>
    rcases hv with hv | ⟨a, e, m, k1, k2⟩
    · exact Or.inl hv
    · exact Or.inr ⟨a, e, (hM a m).1, by rw [(hM a m).2]; exact k1, by rw [(hM a m).2]; exact k2⟩
theorem ty_up (ht : ∀ x ∈ tys, x ∈ tys') {t0 : Nat} {x : ClassId × FieldType} (hx : tys[t0]? = some x) : ∃ t1 : Nat, tys'[t1]? = some x := List.mem_iff_getElem?.mp (ht x (List.mem_of_getElem? hx))
theorem okI.up (ht : ∀ x ∈ tys, x ∈ tys') {ty : FieldType} {n : Nat} {lo hi : Int} {x : va_E} (hx : okI tys ty n lo hi x) : okI tys' ty n lo hi x := by
  obtain ⟨cA, t0, g, e1, e2, e3⟩ := hx
  obtain ⟨t1, e4⟩ := ty_up ht e2
  exact ⟨cA, t1, g, e1, e4, e3⟩
theorem okJ.up (ht : ∀ x ∈ tys, x ∈ tys') {n : Nat} {x : va_E} (hx : okJ tys n x) : okJ tys' n x := by
  obtain ⟨cA, t0, g, e1, e2⟩ := hx
  obtain ⟨t1, e4⟩ := ty_up ht e2
  exact ⟨cA, t1, g, e1, e4⟩
theorem okR.up (hM : ∀ a ∈ M, a ∈ M' ∧ kd' a = kd a) (ht : ∀ x ∈ tys, x ∈ tys') {ty : FieldType} {n : Nat} {lo hi : Int} {x : va_E} (hx : okR M kd tys ty n lo hi x) : okR M' kd' tys' ty n lo hi x := by
  obtain ⟨cA, t0, g, e1, e2, e3⟩ := hx
  obtain ⟨t1, e4⟩ := ty_up ht e2
  refine ⟨cA, t1, g, e1, e4, fun i hi => ?_⟩
  obtain ⟨a, a1, a2, a3, a4⟩ := e3 i hi
  exact ⟨a, a1, (hM a a2).1, by rw [(hM a a2).2]; exact a3, by rw [(hM a a2).2]; exact a4⟩
theorem okE.up (hM : ∀ a ∈ M, a ∈ M' ∧ kd' a = kd a) (ht : ∀ x ∈ tys, x ∈ tys') {k : Nat} {x : va_E} (he : okE M kd tys k x) : okE M' kd' tys' k x := by
  unfold okE at he ⊢
  by_cases hk : k < 100
  · rw [if_pos hk] at he ⊢
    obtain ⟨fs, e1, e2, e3⟩ := he
    exact ⟨fs, e1, e2, fun j t ht => (e3 j t ht).up hM⟩
  · rw [if_neg hk] at he ⊢
    generalize AT k = A at he ⊢
    obtain ⟨s, n, lo, hi⟩ := A
    match s, he with
    | 0, he => exact okI.up ht he
    | 1, he => exact okI.up ht he
    | 2, he => exact okI.up ht he
    | 3, he => exact okJ.up ht he
    | 4, he => exact okR.up hM ht he
    | 5, he => exact okR.up hM ht he
    | 6, he => exact okR.up hM ht he
    | 7, he => exact ⟨okI.up ht he.1, he.2⟩
    | s + 8, he => exact okR.up hM ht he
/-- what is made has its kinds, its int cells are 0 -/
def CT (h : Nat) (L0 : List Nat) (kd0 : Nat → Nat) (sz ci : Nat) (fs : List Value) (dn : List Nat) (kn : List (Nat × Value)) (X : va_W) (M L : List Nat) (kd : Nat → Nat) (tys : List (ClassId × FieldType)) (f : Nat → va_E) : Prop :=
  (∀ a ∈ L, a ∈ M ∧ okE M kd tys (kd a) (f a) ∧ ∀ i, aI f a i = 0) ∧ (∀ a ∈ M, a ∈ L0 ∨ a ∈ X.map (fun x => x.1) ∨ a ∈ L) ∧ (∀ a ∈ L0, a ∈ M ∧ kd a = kd0 a ∧ a < sz ∧ a ≠ h) ∧ fs.length = (FS ci).length ∧ (∀ j ∈ dn, ∀ t : rS, (FS ci)[j]? = some t → okV M kd t (fs.getD j .null)) ∧ ∀ x ∈ kn, fs.getD x.1 .null = x.2
def CI (D : va_G) (s : State) (h : Nat) (e0 : va_E) (L0 : List Nat) (kd0 : Nat → Nat) (ci : Nat) (fs : List Value) (dn : List Nat) (kn : List (Nat × Value)) (X : va_W) (M L : List Nat) (kd : Nat → Nat) (tys : List (ClassId × FieldType)) (f : Nat → va_E) (H : Heap) (locs : List Loc) : Prop :=
  va_K D vwCl tys s ∧ va_P D vwCl (cW h ci fs X L f) H ∧ va_D (va_A [(h, e0)] s.heap.size) (cW h ci fs X L f) ∧ va_S (va_A [(h, e0)] s.heap.size) s.heap H locs ∧ CT h L0 kd0 s.heap.size ci fs dn kn X M L kd tys f
/-- all that was in the pool is there as it was -/
def Mo (L : List Nat) (kd : Nat → Nat) (f : Nat → va_E) (L1 : List Nat) (kd1 : Nat → Nat) (f1 : Nat → va_E) : Prop := ∀ a ∈ L, a ∈ L1 ∧ kd1 a = kd a ∧ f1 a = f a
theorem Mo.rf : Mo L kd f L kd f := fun _ ha => ⟨ha, rfl, rfl⟩
theorem Mo.tr {L2 : List Nat} {kd1 kd2 : Nat → Nat} {f2 : Nat → va_E} (h1 : Mo L kd f L1 kd1 f1) (h2 : Mo L1 kd1 f1 L2 kd2 f2) : Mo L kd f L2 kd2 f2 := fun a ha => ⟨(h2 a (h1 a ha).1).1, (h2 a (h1 a ha).1).2.1.trans (h1 a ha).2.1, (h2 a (h1 a ha).1).2.2.trans (h1 a ha).2.2⟩
theorem A_one (hq : va_A [(h, e0)] sz q) : q = h ∨ sz ≤ q := by
  rcases hq with ⟨k, x, hk⟩ | hq
  · have := List.mem_of_getElem? hk
    rw [List.mem_singleton] at this
    exact Or.inl (congrArg (fun x => x.1) this)
  · exact Or.inr hq
theorem A_self : va_A [(h, e0)] sz h := Or.inl ⟨0, e0, rfl⟩
/-- a cell that was made is none of those that were there -/
theorem cW_new (hD : va_D (va_A [(h, e0)] sz) (cW h ci fs X L f ++ [(q, e)])) : q ≠ h ∧ q ∉ X.map (fun x => x.1) ∧ q ∉ L ∧ sz ≤ q ∧ (h :: (X.map (fun x => x.1) ++ L)).Nodup := by
  obtain ⟨h1, h2⟩ := va_Dn.mp hD
  rw [List.map_append, cW_fst, List.nodup_append] at h1
  obtain ⟨h3, -, h4⟩ := h1
  have h5 : ∀ a, a ∈ h :: (X.map (fun x => x.1) ++ L) → a ≠ q := fun a ha => h4 a ha q (List.mem_singleton.mpr rfl)
  have h6 : q ≠ h := fun z => h5 h List.mem_cons_self z.symm
  refine ⟨h6, fun z => h5 q (List.mem_cons_of_mem _ (List.mem_append_left _ z)) rfl, fun z => h5 q (List.mem_cons_of_mem _ (List.mem_append_right _ z)) rfl, ?_, h3⟩
  rcases A_one (h2 (q, e) (List.mem_append_right _ (List.mem_singleton.mpr rfl))) with z | z
  · exact absurd z h6
  · exact z
theorem CT.nM (C : CT h L0 kd0 sz ci fs dn kn X M L kd tys f) (h1 : q ∉ X.map (fun x => x.1)) (h2 : q ∉ L) (h3 : sz ≤ q) : q ∉ M := fun z => by
  rcases C.2.1 q z with y | y | y
  · have := (C.2.2.1 q y).2.2.1
    omega
  · exact h1 y
  · exact h2 y
theorem aI_up {g : Nat → va_E} {a i : Nat} (h : a ≠ q) : aI (va_up g q e) a i = aI g a i := by unfold aI; rw [va_up_ne g e h]
theorem CT.push (C : CT h L0 kd0 sz ci fs dn kn X M L kd tys f) (hM : q ∉ M) (hqh : q ≠ h) (ht : ∀ x ∈ tys, x ∈ tys') (hok : okE (q :: M) (va_up kd q K) tys' K e) (hz : ∀ i, aI (va_up f q e) q i = 0) : CT h L0 kd0 sz ci fs dn kn X (q :: M) (q :: L) (va_up kd q K) tys' (va_up f q e) := by
  obtain ⟨c1, c2, c3, c4, c5, c6⟩ := C
  have hne : ∀ a ∈ M, a ≠ q := fun a ha z => hM (z ▸ ha)
  have hup : ∀ a ∈ M, a ∈ q :: M ∧ va_up kd q K a = kd a := fun a ha => ⟨List.mem_cons_of_mem _ ha, va_up_ne kd K (hne a ha)⟩
  refine ⟨fun a ha => ?_, fun a ha => ?_, fun a ha => ?_, c4, fun j hj t hjt => (c5 j hj t hjt).up hup, c6⟩
  · rcases List.mem_cons.mp ha with rfl | ha
    · exact ⟨List.mem_cons_self, by rw [va_up_self, va_up_self]; exact hok, hz⟩
    · obtain ⟨d1, d2, d3⟩ := c1 a ha
      exact ⟨List.mem_cons_of_mem _ d1, by rw [va_up_ne kd K (hne a d1), va_up_ne f e (hne a d1)]; exact d2.up hup ht, fun i => by rw [aI_up (hne a d1)]; exact d3 i⟩
  · rcases List.mem_cons.mp ha with rfl | ha
    · exact Or.inr (Or.inr List.mem_cons_self)
    · rcases c2 a ha with y | y | y
      · exact Or.inl y
      · exact Or.inr (Or.inl y)
      · exact Or.inr (Or.inr (List.mem_cons_of_mem _ y))
  · obtain ⟨d1, d2, d3⟩ := c3 a ha
    exact ⟨List.mem_cons_of_mem _ d1, by rw [va_up_ne kd K (hne a d1)]; exact d2, d3⟩
theorem perm1 {B : List Nat} : List.Perm ((h :: (B ++ L)) ++ [q]) (h :: (B ++ q :: L)) := by
  rw [List.cons_append, List.append_assoc]
  exact (List.Perm.append_left B (List.perm_append_singleton q L)).cons h
theorem perm2 {B : List Nat} : List.Perm ((h :: (B ++ L)) ++ [q]) (h :: ((B ++ [q]) ++ L)) := by
  rw [List.cons_append, List.append_assoc, List.append_assoc]
  exact (List.Perm.append_left B (List.perm_append_singleton q L)).cons h
end CON1
section CON2
variable {p : Program} {l : Launch} {e : Env} {R : Room} {s : State} {m : MethodId} {args : Array Value} {below : List Frame} {meth : Method} {c : Code} {H : Heap} {locs : List Loc} {cells slots : Nat} {Q : State → Prop} {cc : ByteArray} {pc : Nat} {ls : Array Slot} {rest : List Value} {D : va_G} {tys : List (ClassId × FieldType)} {L M L0 : List Nat} {kd kd0 : Nat → Nat} {f : Nat → va_E} {h ci : Nat} {e0 : va_E} {fs : List Value} {dn : List Nat} {kn : List (Nat × Value)} {X : va_W}
theorem CI.start (hP : va_P D vwCl [(h, .inr (ci, fs))] s.heap) (hK : va_K D vwCl [] s) (hl : fs.length = (FS ci).length) (h0 : ∀ a ∈ L0, a < s.heap.size ∧ a ≠ h) : CI D s h (.inr (ci, fs)) L0 kd0 ci fs [] [] [] L0 [] kd0 [] (fun _ => .inr (0, [])) s.heap [] :=
  ⟨hK, hP, va_Dn.mpr ⟨List.nodup_cons.mpr ⟨List.not_mem_nil, List.nodup_nil⟩, fun x hx => by rw [List.mem_singleton.mp hx]; exact A_self⟩, va_S.rf, ⟨fun a ha => absurd ha List.not_mem_nil, fun a ha => Or.inl ha, fun a ha => ⟨ha, rfl, h0 a ha⟩, hl, fun j hj => absurd hj List.not_mem_nil, fun x hx => absurd hx List.not_mem_nil⟩⟩
/-- a field that stays as it was made -/
theorem CI.pr (C : CI D s h e0 L0 kd0 ci fs dn kn X M L kd tys f H locs) (k : Nat) (v : Value) {t : rS} (ht : (FS ci)[k]? = some t) (hv : fs.getD k .null = v) (hok : okV M kd t v) : CI D s h e0 L0 kd0 ci fs (k :: dn) ((k, v) :: kn) X M L kd tys f H locs := by
  obtain ⟨h1, h2, h3, h4, c1, c2, c3, c4, c5, c6⟩ := C
  refine ⟨h1, h2, h3, h4, c1, c2, c3, c4, fun j hj t' ht' => ?_, fun x hx => ?_⟩
  · rcases List.mem_cons.mp hj with rfl | hj
    · cases ht.symm.trans ht'
      rw [hv]
      exact hok
    · exact c5 j hj t' ht'
  · rcases List.mem_cons.mp hx with rfl | hx
    · exact hv
    · exact c6 x hx
theorem CT.put {k : Nat} {v : Value} {t : rS} {sz : Nat} {kn' : List (Nat × Value)} (C : CT h L0 kd0 sz ci fs dn kn X M L kd tys f) (ht : (FS ci)[k]? = some t) (hv : okV M kd t v) (hkn : kn.filter (fun x => !(x.1 == k)) = kn') : CT h L0 kd0 sz ci (fs.set k v) (k :: dn) ((k, v) :: kn') X M L kd tys f := by
  obtain ⟨c1, c2, c3, c4, c5, c6⟩ := C
  have hk : k < fs.length := by rw [c4]; exact (List.getElem?_eq_some_iff.mp ht).1
  refine ⟨c1, c2, c3, by rw [List.length_set]; exact c4, fun j hj t' ht' => ?_, fun x hx => ?_⟩
  · by_cases hjk : j = k
    · subst hjk
      cases ht.symm.trans ht'
      rw [getD_set_self hk]
      exact hv
    · rcases List.mem_cons.mp hj with z | hj
      · exact absurd z hjk
      · rw [getD_set_ne hjk]
        exact c5 j hj t' ht'
  · rcases List.mem_cons.mp hx with rfl | hx
    · exact getD_set_self hk
    · subst hkn
      obtain ⟨h1, h2⟩ := List.mem_filter.mp hx
      have h3 : x.1 ≠ k := fun z => by simp [z] at h2
      rw [getD_set_ne h3]
      exact c6 x h1
section PUT
variable {own ref CC : String} {T : u_T} {N index : Nat} {Ts : List Cond}
theorem c_put (hx : p.tables.exec = Jvm.exec) (hb : c.code = cc) (hts : ∀ w ∈ Ts, w.before args s = true) (hin : ∀ w ∈ u_ws CC T N, w ∈ Ts) (ty0 : Nat → FieldType) (hty : ∀ k, k < N → parseFieldDescriptor (T k).2.2.1 = some (ty0 k)) (hnm : ∀ a, a < N → ∀ b, b < N → a ≠ b → (T a).2.1 ≠ (T b).2.1) (hown : s.vm.findClass own = some m.cls) (C : CI D s h e0 L0 kd0 ci fs dn kn X M L kd tys f H locs) (hc : vwCl[ci]? = some (CC, T, N)) (k : Nat) (hkN : k < N) (hN : (FS ci).length = N) (hlink : (Cond.fieldLink own index ref (T k).2.1 (T k).2.2.1).before args s = true) (hsame : ∀ x, s.fieldFound? (T k).1 (T k).2.1 (T k).2.2.1 = some x → s.fieldFound? ref (T k).2.1 (T k).2.2.1 = some x) (hfin : (T k).2.2.2 = false) {v : Value} {t : rS} (ht : (FS ci)[k]? = some t) (hv : okV M kd t v) (hn : narrow (ty0 k) v = v) (hfit : fits (ty0 k) v = true) {kn' : List (Nat × Value)} (hkn : kn.filter (fun x => !(x.1 == k)) = kn') (hdg : decode cc pc = .ok (.putfield index, 3))
    (kk : ∀ (fs : List Value) (H : Heap) (locs : List Loc), CI D s h e0 L0 kd0 ci fs (k :: dn) ((k, v) :: kn') X M L kd tys f H locs → W p l e R s m args below meth c H locs cells slots Q (F0 m (pc + 3) ls rest)) : W p l e R s m args below meth c H locs cells slots Q (F0 m pc ls (v :: .ref h :: rest)) :=
  va_put (ws := cW h ci fs X L f) hx hb hts hin ty0 hty hnm hown C.1 C.2.1 C.2.2.1 C.2.2.2.1 0 rfl hc k hkN hlink hsame hfin (hty k hkN) hn hfit (by rw [C.2.2.2.2.2.2.2.1, hN]; exact hkN) hdg (fun H1 locs1 hP1 hD1 hS1 => kk (fs.set k v) H1 locs1 ⟨C.1, hP1, hD1, hS1, C.2.2.2.2.put ht hv hkn⟩)
theorem c_putF (hx : p.tables.exec = Jvm.exec) (hb : c.code = cc) (hts : ∀ w ∈ Ts, w.before args s = true) (hin : ∀ w ∈ u_ws CC T N, w ∈ Ts) (ty0 : Nat → FieldType) (hty : ∀ k, k < N → parseFieldDescriptor (T k).2.2.1 = some (ty0 k)) (hnm : ∀ a, a < N → ∀ b, b < N → a ≠ b → (T a).2.1 ≠ (T b).2.1) (hown : s.vm.findClass own = some m.cls) (C : CI D s h e0 L0 kd0 ci fs dn kn X M L kd tys f H locs) (hc : vwCl[ci]? = some (CC, T, N)) (k : Nat) (hkN : k < N) (hN : (FS ci).length = N) (hlink : (Cond.fieldLink own index ref (T k).2.1 (T k).2.2.1).before args s = true) (hsame : ∀ x, s.fieldFound? (T k).1 (T k).2.1 (T k).2.2.1 = some x → s.fieldFound? ref (T k).2.1 (T k).2.2.1 = some x) (hfin : (T k).2.2.2 = true) (hin2 : meth.name = "<init>") (hdecl : (T k).1 = own) {v : Value} {t : rS} (ht : (FS ci)[k]? = some t) (hv : okV M kd t v) (hn : narrow (ty0 k) v = v) (hfit : fits (ty0 k) v = true) {kn' : List (Nat × Value)} (hkn : kn.filter (fun x => !(x.1 == k)) = kn') (hdg : decode cc pc = .ok (.putfield index, 3))
    (kk : ∀ (fs : List Value) (H : Heap) (locs : List Loc), CI D s h e0 L0 kd0 ci fs (k :: dn) ((k, v) :: kn') X M L kd tys f H locs → W p l e R s m args below meth c H locs cells slots Q (F0 m (pc + 3) ls rest)) : W p l e R s m args below meth c H locs cells slots Q (F0 m pc ls (v :: .ref h :: rest)) :=
  va_putF (ws := cW h ci fs X L f) hx hb hts hin ty0 hty hnm hown C.1 C.2.1 C.2.2.1 C.2.2.2.1 0 rfl hc k hkN hlink hsame hfin hin2 hdecl (hty k hkN) hn hfit (by rw [C.2.2.2.2.2.2.2.1, hN]; exact hkN) hdg (fun H1 locs1 hP1 hD1 hS1 => kk (fs.set k v) H1 locs1 ⟨C.1, hP1, hD1, hS1, C.2.2.2.2.put ht hv hkn⟩)
theorem c_get (hx : p.tables.exec = Jvm.exec) (hb : c.code = cc) (hts : ∀ w ∈ Ts, w.before args s = true) (hin : ∀ w ∈ u_ws CC T N, w ∈ Ts) (hown : s.vm.findClass own = some m.cls) (C : CI D s h e0 L0 kd0 ci fs dn kn X M L kd tys f H locs) (hc : vwCl[ci]? = some (CC, T, N)) (k : Nat) (hkN : k < N) (hN : (FS ci).length = N) (hlink : (Cond.fieldLink own index ref (T k).2.1 (T k).2.2.1).before args s = true) (hsame : ∀ x, s.fieldFound? (T k).1 (T k).2.1 (T k).2.2.1 = some x → s.fieldFound? ref (T k).2.1 (T k).2.2.1 = some x) {v : Value} (i : Nat) (hi : kn[i]? = some (k, v)) (hdg : decode cc pc = .ok (.getfield index, 3))
    (kk : W p l e R s m args below meth c H locs cells slots Q (F0 m (pc + 3) ls (v :: rest))) : W p l e R s m args below meth c H locs cells slots Q (F0 m pc ls (.ref h :: rest)) := by
  have hl : fs.length = N := by rw [C.2.2.2.2.2.2.2.1, hN]
  have hv : fs[k]? = some v := by
    rw [fs_at hl hkN]
    exact congrArg some (C.2.2.2.2.2.2.2.2.2 _ (List.mem_of_getElem? hi))
  exact va_get hx hb hts hin hown C.1 C.2.1 0 rfl hc k hkN hlink hsame hv hdg kk
theorem c_new (hx : p.tables.exec = Jvm.exec) (hb : c.code = cc) {C2 : String} {T2 : u_T} {N2 ci2 : Nat} (hts : ∀ w ∈ Ts, w.before args s = true) (hin : ∀ w ∈ u_ws C2 T2 N2, w ∈ Ts) (ty2 : Nat → FieldType) (hty : ∀ k, k < N2 → parseFieldDescriptor (T2 k).2.2.1 = some (ty2 k)) (hown : s.vm.findClass own = some m.cls) (hcl : (Cond.classLink own index C2).before args s = true) (hinst : (Cond.instantiable C2 N2).before args s = true) (hini : (Cond.initialized C2).before args s = true)
    (C : CI D s h e0 L0 kd0 ci fs dn kn X M L kd tys f H locs) (hc : vwCl[ci2]? = some (C2, T2, N2)) {fs2 : List Value} (hfs : ∀ j, j < N2 → defaultValue (ty2 j) = vp_V fs2 j) (hcells : cells + 1 ≤ R.cells) (hslots : slots + N2 ≤ R.slots) (hdg : decode cc pc = .ok (.new index, 3))
    (kk : ∀ (q : Nat) (H : Heap), q ∉ M → CI D s h e0 L0 kd0 ci fs dn kn (X ++ [(q, .inr (ci2, fs2))]) M L kd tys f H locs → W p l e R s m args below meth c H locs (cells + 1) (slots + N2) Q (F0 m (pc + 3) ls (.ref q :: rest))) : W p l e R s m args below meth c H locs cells slots Q (F0 m pc ls rest) := by
  refine va_new (ws := cW h ci fs X L f) hx hb hts hin ty2 hty hown hcl hinst hini C.1 C.2.1 C.2.2.1 C.2.2.2.1 (fun q hq => Or.inr hq) hc hfs hcells hslots hdg (fun q H1 hP1 hD1 hS1 => ?_)
  obtain ⟨n1, n2, n3, n4, -⟩ := cW_new hD1
  obtain ⟨hP2, hD2⟩ := cW_re (W' := cW h ci fs (X ++ [(q, .inr (ci2, fs2))]) L f) (by rw [List.map_append, cW_fst, cW_fst, List.map_append]; exact perm2) (fun x hx => by
    rcases cW_mem.mp hx with z | z | z
    · exact List.mem_append_left _ (cW_mem.mpr (Or.inl z))
    · rcases List.mem_append.mp z with z | z
      · exact List.mem_append_left _ (cW_mem.mpr (Or.inr (Or.inl z)))
      · exact List.mem_append_right _ z
    · exact List.mem_append_left _ (cW_mem.mpr (Or.inr (Or.inr z)))) hP1 hD1
  obtain ⟨c1, c2, c3, c4, c5, c6⟩ := C.2.2.2.2
  refine kk q H1 (C.2.2.2.2.nM n2 n3 n4) ⟨C.1, hP2, hD2, hS1, c1, fun a ha => ?_, c3, c4, c5, c6⟩
  rcases c2 a ha with z | z | z
  · exact Or.inl z
  · exact Or.inr (Or.inl (by rw [List.map_append]; exact List.mem_append_left _ z))
  · exact Or.inr (Or.inr z)
end PUT
theorem c_push {q K : Nat} {e : va_E} {tys' : List (ClassId × FieldType)} {H1 : Heap} (C : CI D s h e0 L0 kd0 ci fs dn kn X M L kd tys f H locs) (hK : va_K D vwCl tys' s) (ht : ∀ x ∈ tys, x ∈ tys') (hP1 : va_P D vwCl (cW h ci fs X L f ++ [(q, e)]) H1) (hD1 : va_D (va_A [(h, e0)] s.heap.size) (cW h ci fs X L f ++ [(q, e)])) (hS1 : va_S (va_A [(h, e0)] s.heap.size) s.heap H1 locs)
    (hok : okE (q :: M) (va_up kd q K) tys' K e) (hz : ∀ i, aI (va_up f q e) q i = 0) : q ∉ M ∧ CI D s h e0 L0 kd0 ci fs dn kn X (q :: M) (q :: L) (va_up kd q K) tys' (va_up f q e) H1 locs := by
  obtain ⟨n1, n2, n3, n4, -⟩ := cW_new hD1
  have hM := C.2.2.2.2.nM n2 n3 n4
  have hne : ∀ a ∈ L, a ≠ q := fun a ha z => n3 (z ▸ ha)
  obtain ⟨hP2, hD2⟩ := cW_re (W' := cW h ci fs X (q :: L) (va_up f q e)) (by rw [List.map_append, cW_fst, cW_fst]; exact perm1) (fun x hx => by
    rcases cW_mem.mp hx with z | z | ⟨z1, z2⟩
    · exact List.mem_append_left _ (cW_mem.mpr (Or.inl z))
    · exact List.mem_append_left _ (cW_mem.mpr (Or.inr (Or.inl z)))
    · rcases List.mem_cons.mp z1 with y | y
      · refine List.mem_append_right _ (List.mem_singleton.mpr ?_)
        rw [y, va_up_self] at z2
        exact Prod.ext y z2
      · rw [va_up_ne f e (hne _ y)] at z2
        exact List.mem_append_left _ (cW_mem.mpr (Or.inr (Or.inr ⟨y, z2⟩)))) hP1 hD1
  exact ⟨hM, hK, hP2, hD2, hS1, C.2.2.2.2.push hM n1 ht hok hz⟩
theorem Mo.push {q K : Nat} {e : va_E} (hq : q ∉ L) : Mo L kd f (q :: L) (va_up kd q K) (va_up f q e) := fun a ha => ⟨List.mem_cons_of_mem _ ha, va_up_ne kd K (fun z => hq (z ▸ ha)), va_up_ne f e (fun z => hq (z ▸ ha))⟩
theorem c_newa {atype : ArrayType} {ty : FieldType} (hx : p.tables.exec = Jvm.exec) (hb : c.code = cc) (harr : (Cond.arrayClass (newarray.typeOf atype)).before args s = true) (hty : newarray.typeOf atype = ty) (C : CI D s h e0 L0 kd0 ci fs dn kn X M L kd tys f H locs) (K : Nat) {n : Int32} {N' : Nat} {a0 : vp_A} (ha : ∀ cA : ClassId, vp_cell cA a0 = arrV cA N' (fun _ => defaultValue ty)) (hn : ¬ n < 0) (hN : n.toNatClampNeg = N') (hbytes : N' * componentBytes ty ≤ 536870912)
    (hok : ∀ (cA : ClassId) (M : List Nat) (kd : Nat → Nat) (tys : List (ClassId × FieldType)), (cA, ty) ∈ tys → okE M kd tys K (.inl (cA, a0))) (hz : ∀ (cA : ClassId) (g : Nat → va_E) (q : Nat), g q = .inl (cA, a0) → ∀ i, aI g q i = 0) (hcells : cells + 1 ≤ R.cells) (hslots : slots + N' ≤ R.slots) (hdg : decode cc pc = .ok (.newarray atype, 2))
    (kk : ∀ (q : Nat) (M1 L1 : List Nat) (kd1 : Nat → Nat) (tys1 : List (ClassId × FieldType)) (f1 : Nat → va_E) (H : Heap), (q ∈ M1 ∧ kd1 q = K) → Mo L kd f L1 kd1 f1 → (∀ t ∈ tys, t ∈ tys1) → (∃ cA, (cA, ty) ∈ tys1) → CI D s h e0 L0 kd0 ci fs dn kn X M1 L1 kd1 tys1 f1 H locs → W p l e R s m args below meth c H locs (cells + 1) (slots + N') Q (F0 m (pc + 2) ls (.ref q :: rest))) : W p l e R s m args below meth c H locs cells slots Q (F0 m pc ls (.int n :: rest)) := by
  refine va_newa (ws := cW h ci fs X L f) hx hb harr hty C.1 C.2.1 C.2.2.1 C.2.2.2.1 (fun q hq => Or.inr hq) ha hn hN hbytes hcells hslots hdg (fun q cA H1 hK1 hP1 hD1 hS1 => ?_)
  have hmem : (cA, ty) ∈ tys ++ [(cA, ty)] := List.mem_append_right _ (List.mem_singleton.mpr rfl)
  obtain ⟨hM, C2⟩ := c_push (K := K) C hK1 (fun x hx => List.mem_append_left _ hx) hP1 hD1 hS1 (hok cA _ _ _ hmem) (hz cA _ q (va_up_self _ _ _))
  exact kk q _ _ _ _ _ H1 ⟨List.mem_cons_self, va_up_self _ _ _⟩ (Mo.push (fun z => hM (C.2.2.2.2.1 q z).1)) (fun t9 h9 => List.mem_append_left _ h9) ⟨cA, hmem⟩ C2
/-- rows of zeros have their kinds -/
theorem zo_i {K n : Nat} {lo hi : Int} (hK : 100 ≤ K) (hA : AT K = (0, n, lo, hi)) (h0 : lo ≤ 0 ∧ 0 ≤ hi) (cA : ClassId) (M : List Nat) (kd : Nat → Nat) (tys : List (ClassId × FieldType)) (hm : (cA, FieldType.int) ∈ tys) : okE M kd tys K (.inl (cA, n, .inl (fun _ => 0))) := by
  rw [okE_i hK hA]
  obtain ⟨t0, h1⟩ := List.mem_iff_getElem?.mp hm
  exact ⟨cA, t0, _, rfl, h1, fun _ _ => ⟨by rw [show (0 : Int32).toInt = 0 by decide]; exact h0.1, by rw [show (0 : Int32).toInt = 0 by decide]; exact h0.2⟩⟩
theorem zo_b {K n : Nat} {lo hi : Int} (hK : 100 ≤ K) (hA : AT K = (1, n, lo, hi)) (h0 : lo ≤ 0 ∧ 0 ≤ hi) (cA : ClassId) (M : List Nat) (kd : Nat → Nat) (tys : List (ClassId × FieldType)) (hm : (cA, FieldType.byte) ∈ tys) : okE M kd tys K (.inl (cA, n, .inl (fun _ => 0))) := by
  rw [okE_b hK hA]
  obtain ⟨t0, h1⟩ := List.mem_iff_getElem?.mp hm
  exact ⟨cA, t0, _, rfl, h1, fun _ _ => ⟨by rw [show (0 : Int32).toInt = 0 by decide]; exact h0.1, by rw [show (0 : Int32).toInt = 0 by decide]; exact h0.2⟩⟩
theorem zo_z {K n : Nat} {lo hi : Int} (hK : 100 ≤ K) (hA : AT K = (2, n, lo, hi)) (h0 : lo ≤ 0 ∧ 0 ≤ hi) (cA : ClassId) (M : List Nat) (kd : Nat → Nat) (tys : List (ClassId × FieldType)) (hm : (cA, FieldType.boolean) ∈ tys) : okE M kd tys K (.inl (cA, n, .inl (fun _ => 0))) := by
  rw [okE_z hK hA]
  obtain ⟨t0, h1⟩ := List.mem_iff_getElem?.mp hm
  exact ⟨cA, t0, _, rfl, h1, fun _ _ => ⟨by rw [show (0 : Int32).toInt = 0 by decide]; exact h0.1, by rw [show (0 : Int32).toInt = 0 by decide]; exact h0.2⟩⟩
theorem zo_l {K n : Nat} {lo hi : Int} (hK : 100 ≤ K) (hA : AT K = (3, n, lo, hi)) (cA : ClassId) (M : List Nat) (kd : Nat → Nat) (tys : List (ClassId × FieldType)) (hm : (cA, FieldType.long) ∈ tys) : okE M kd tys K (.inl (cA, n, .inr (.inl (fun _ => 0)))) := by
  rw [okE_l hK hA]
  obtain ⟨t0, h1⟩ := List.mem_iff_getElem?.mp hm
  exact ⟨cA, t0, _, rfl, h1⟩
theorem zo_k {K n : Nat} {lo hi : Int} (hK : 100 ≤ K) (hA : AT K = (7, n, lo, hi)) (h0 : lo ≤ 0 ∧ 0 ≤ hi) (cA : ClassId) (M : List Nat) (kd : Nat → Nat) (tys : List (ClassId × FieldType)) (hm : (cA, FieldType.int) ∈ tys) : okE M kd tys K (.inl (cA, n, .inl (fun _ => 0))) := by
  rw [okE_7 hK hA]
  obtain ⟨t0, h1⟩ := List.mem_iff_getElem?.mp hm
  refine ⟨⟨cA, t0, _, rfl, h1, fun _ _ => ⟨by rw [show (0 : Int32).toInt = 0 by decide]; exact h0.1, by rw [show (0 : Int32).toInt = 0 by decide]; exact h0.2⟩⟩, fun c1 n1 g e1 => ?_⟩
  cases e1
  rfl
theorem zz_i {n : Nat} (cA : ClassId) (g : Nat → va_E) (q : Nat) (h : g q = .inl (cA, n, .inl (fun _ => 0))) (i : Nat) : aI g q i = 0 := by unfold aI; rw [h]
theorem zz_l {n : Nat} (cA : ClassId) (g : Nat → va_E) (q : Nat) (h : g q = .inl (cA, n, .inr (.inl (fun _ => 0)))) (i : Nat) : aI g q i = 0 := by unfold aI; rw [h]
end CON2
/-- what a constructor starts with, what it leaves -/
def CPre (D : va_G) (q : Nat) (eq : va_E) (L0 : List Nat) (adK adV : Nat → Nat) (sz : Nat) (U : State) : Prop := U.heap.size = sz ∧ va_P D vwCl [(q, eq)] U.heap ∧ va_K D vwCl [] U ∧ va_D (fun _ => True) [(q, eq)] ∧ am_ adK adV (va_A [(q, eq)] sz) U U.heap ∧ ∀ a ∈ L0, a < sz ∧ a ≠ q
def CP (D : va_G) (L0 : List Nat) (kd0 : Nat → Nat) (ci q : Nat) (eq : va_E) (sz : Nat) (G : List Nat → (Nat → Nat) → (Nat → va_E) → Prop) (t : State) : Prop := ∃ (L : List Nat) (kd : Nat → Nat) (tys : List (ClassId × FieldType)) (f : Nat → va_E), q ∈ L ∧ kd q = ci ∧ (∀ a ∈ L, okE (L0 ++ L) kd tys (kd a) (f a) ∧ ∀ i, aI f a i = 0) ∧ (∀ a ∈ L0, kd a = kd0 a) ∧ va_P D vwCl (va_pl L f) t.heap ∧ va_K D vwCl tys t ∧ va_D (va_A [(q, eq)] sz) (va_pl L f) ∧ G L kd f
section CON3
variable {p : Program} {l : Launch} {e : Env} {R : Room} {s : State} {m : MethodId} {args : Array Value} {below : List Frame} {meth : Method} {c : Code} {H : Heap} {locs : List Loc} {cells slots : Nat} {Q : State → Prop} {cc : ByteArray} {pc : Nat} {ls : Array Slot} {rest : List Value} {D : va_G} {tys : List (ClassId × FieldType)} {L M L0 : List Nat} {kd kd0 : Nat → Nat} {f : Nat → va_E} {h ci : Nat} {e0 : va_E} {fs : List Value} {dn : List Nat} {kn : List (Nat × Value)} {X : va_W}
theorem cpre_blind {av : List Value} {q sz : Nat} {eq : va_E} {L0 : List Nat} {adK adV : Nat → Nat} : FrameBlind (va_Pc av (CPre D q eq L0 adK adV sz)) := fun a U g mk x => by
  obtain ⟨q0, q1, qP, qK, qD, qM, qL⟩ := x
  exact ⟨q0, q1, qP, va_K.moved (u := U) (U := U.calling g mk a) (Vm.Alike.refl U.vm) qK, qD, am_.same (U := U.calling g mk a) rfl qM, qL⟩
theorem va_Pat {W : va_W} (hP : va_P D vwCl W H) {x : Nat × va_E} (hx : x ∈ W) : va_at D vwCl x H := by
  obtain ⟨k, hk⟩ := List.mem_iff_getElem?.mp hx
  exact hP k x hk
theorem nd_new {B : List Nat} {q : Nat} (hN : ((h :: (B ++ L)) ++ [q]).Nodup) : q ≠ h ∧ q ∉ B ∧ q ∉ L ∧ (h :: (B ++ L)).Nodup := by
  rw [List.nodup_append] at hN
  obtain ⟨h3, -, h4⟩ := hN
  have h5 : ∀ a, a ∈ h :: (B ++ L) → a ≠ q := fun a ha => h4 a ha q (List.mem_singleton.mpr rfl)
  exact ⟨fun z => h5 h List.mem_cons_self z.symm, fun z => h5 q (List.mem_cons_of_mem _ (List.mem_append_left _ z)) rfl, fun z => h5 q (List.mem_cons_of_mem _ (List.mem_append_right _ z)) rfl, h3⟩
theorem perm3 {B L1 : List Nat} : List.Perm (L1 ++ (h :: (B ++ L))) (h :: (B ++ (L1 ++ L))) := by
  refine List.perm_middle.trans (List.Perm.cons h ?_)
  rw [← List.append_assoc, ← List.append_assoc]
  exact List.Perm.append_right L List.perm_append_comm
/-- a constructor is called for the object that stands last; what it made is added to the pool -/
theorem c_callI {q ciq mc ms : Nat} {eq : va_E} {L0' : List Nat} {G : List Nat → (Nat → Nat) → (Nat → va_E) → Prop} {adK adV : Nat → Nat} {av : Array Value} {avl st0 : List Value} (C : CI D s h e0 L0 kd0 ci fs dn kn (X ++ [(q, eq)]) M L kd tys f H locs) (hqM : q ∉ M) (hl0 : ∀ a ∈ L0', a ∈ M) (hAm : am_ adK adV (va_A [(h, e0)] s.heap.size) s s.heap)
    (hr : PreS s H (va_Pc avl (CPre D q eq L0' adK adV H.size)) avl → va_Run p l e R s m args below meth c H locs cells slots mc ms (F0 m pc ls st0) rest (va_Qv (fun _ : Unit => True) (fun _ t => CP D L0' kd ciq q eq H.size G t) (va_A [(q, eq)] H.size) av) (va_A [(q, eq)] H.size))
    (kk : ∀ (L1 M2 L2 : List Nat) (kd1 kd2 : Nat → Nat) (tys1 tys2 : List (ClassId × FieldType)) (f1 f2 : Nat → va_E) (H2 : Heap) (locs2 : List Loc), CI D s h e0 L0 kd0 ci fs dn kn X M2 L2 kd2 tys2 f2 H2 locs2 → Mo L kd f L2 kd2 f2 → Mo L1 kd1 f1 L2 kd2 f2 → (∀ a ∈ M, a ∈ M2 ∧ kd2 a = kd a) → (q ∈ M2 ∧ kd2 q = ciq) → (q ∈ L1 ∧ kd1 q = ciq) → (∀ a ∈ L1, a ∉ L ∧ a ∉ L0) → (∀ a ∈ L1, okE (L0' ++ L1) kd1 tys1 (kd1 a) (f1 a)) → (∀ x ∈ tys, x ∈ tys2) → G L1 kd1 f1 → W p l e R s m args below meth c H2 locs2 (cells + mc) (slots + ms) Q (F0 m (pc + 3) ls rest)) : W p l e R s m args below meth c H locs cells slots Q (F0 m pc ls st0) := by
  have hS := C.2.2.2.1
  have hWm : ∀ x ∈ cW h ci fs X L f, x ∈ cW h ci fs (X ++ [(q, eq)]) L f := fun x hx => by
    rcases cW_mem.mp hx with z | z | z
    · exact cW_mem.mpr (Or.inl z)
    · exact cW_mem.mpr (Or.inr (Or.inl (List.mem_append_left _ z)))
    · exact cW_mem.mpr (Or.inr (Or.inr z))
  have hqW : (q, eq) ∈ cW h ci fs (X ++ [(q, eq)]) L f := cW_mem.mpr (Or.inr (Or.inl (List.mem_append_right _ (List.mem_singleton.mpr rfl))))
  have hA := (va_Dn.mp C.2.2.1).2
  have hnd := (va_Dn.mp C.2.2.1).1
  rw [cW_fst, List.map_append] at hnd
  obtain ⟨n1, n2, n3, n4⟩ := nd_new (perm2.symm.nodup hnd)
  have hlt : ∀ x ∈ cW h ci fs (X ++ [(q, eq)]) L f, x.1 < H.size := fun x hx => (va_Pat C.2.1 hx).lt
  have hML : ∀ a ∈ M, a < H.size ∧ a ≠ q := fun a ha => by
    refine ⟨?_, fun z => hqM (z ▸ ha)⟩
    rcases C.2.2.2.2.2.1 a ha with z | z | z
    · exact Nat.lt_of_lt_of_le (C.2.2.2.2.2.2.1 a z).2.2.1 hS.1
    · obtain ⟨x, hx, rfl⟩ := List.mem_map.mp z
      exact hlt x (cW_mem.mpr (Or.inr (Or.inl hx)))
    · exact hlt (a, f a) (cW_mem.mpr (Or.inr (Or.inr ⟨z, rfl⟩)))
  have hFc : ∀ y, va_A [(q, eq)] H.size y → va_A [(h, e0)] s.heap.size y := fun y hy => by
    rcases A_one hy with z | z
    · rw [z]
      exact hA _ hqW
    · exact Or.inr (Nat.le_trans hS.1 z)
  have hpS : PreS s H (va_Pc avl (CPre D q eq L0' adK adV H.size)) avl := ⟨cpre_blind, fun U hU hW => ⟨rfl, by rw [hU], by rw [hU]; exact va_Pm C.2.1 (fun x hx => by rw [List.mem_singleton.mp hx]; exact hqW), va_K.moved hW.alike ⟨C.1.1, fun k x hk => by simp at hk⟩, va_Dn.mpr ⟨List.nodup_cons.mpr ⟨List.not_mem_nil, List.nodup_nil⟩, fun _ _ => trivial⟩, by rw [hU]; exact ((hAm.kept hS.2.1).narrow hFc).warm hW, fun a ha => hML a (hl0 a ha)⟩⟩
  refine va_callv (hr hpS) hS (fun y _ hy => hFc y hy) hFc (fun u_ t H1 locs1 ht hvm hw hB hz1 hk1 hS1 => ?_)
  obtain ⟨L1, kd1, tys1, f1, b1, b2, b3, b4, hP1, hK1, hD1, hG⟩ := hB
  rw [ht] at hP1
  have hK1 := va_K.moved hvm.symm hK1
  obtain ⟨k1, k2⟩ := va_Dn.mp hD1
  rw [pl_fst] at k1
  have hL1 : ∀ a ∈ L1, a = q ∨ H.size ≤ a := fun a ha => A_one (k2 (a, f1 a) (pl_mem.mpr ⟨ha, rfl⟩))
  have hno : ∀ a, a < H.size → a ≠ q → a ∉ L1 := fun a h1 h2 h3 => by
    rcases hL1 a h3 with z | z
    · exact h2 z
    · omega
  have hWq : ∀ x ∈ cW h ci fs X L f, x.1 ≠ q := fun x hx z => by
    have hx' : x.1 ∈ h :: (X.map (fun x => x.1) ++ L) := by
      rw [← cW_fst (ci := ci) (fs := fs) (f := f)]
      exact List.mem_map.mpr ⟨x, hx, rfl⟩
    rw [z] at hx'
    rcases List.mem_cons.mp hx' with y | y
    · exact n1 y
    · rcases List.mem_append.mp y with y | y
      · exact n2 y
      · exact n3 y
  have hold : ∀ x ∈ cW h ci fs X L f, va_at D vwCl x H1 := fun x hx => (va_Pat C.2.1 (hWm x hx)).kept (hk1 x.1 (hlt x (hWm x hx)) (fun z => by
    rcases A_one z with y | y
    · exact hWq x hx y
    · have := hlt x (hWm x hx)
      omega))
  have hLl : ∀ a ∈ L, a < H.size ∧ a ≠ q := fun a ha => ⟨hlt (a, f a) (cW_mem.mpr (Or.inr (Or.inr ⟨ha, rfl⟩))), fun z => n3 (z ▸ ha)⟩
  have hfo : ∀ a, a ∉ L1 → (if a ∈ L1 then f1 a else f a) = f a := fun a ha => if_neg ha
  have hfn : ∀ a, a ∈ L1 → (if a ∈ L1 then f1 a else f a) = f1 a := fun a ha => if_pos ha
  have hup : ∀ a ∈ M, a ∈ L1 ++ M ∧ (fun a => if a ∈ L1 then kd1 a else kd a) a = kd a := fun a ha => ⟨List.mem_append_right _ ha, if_neg (hno a (hML a ha).1 (hML a ha).2)⟩
  have hup1 : ∀ a ∈ L0' ++ L1, a ∈ L1 ++ M ∧ (fun a => if a ∈ L1 then kd1 a else kd a) a = kd1 a := fun a ha => by
    rcases List.mem_append.mp ha with z | z
    · exact ⟨List.mem_append_right _ (hl0 a z), (hup a (hl0 a z)).2.trans (b4 a z).symm⟩
    · exact ⟨List.mem_append_left _ z, if_pos z⟩
  have aI1 : ∀ a ∈ L1, ∀ i, aI (fun a => if a ∈ L1 then f1 a else f a) a i = aI f1 a i := fun a ha i => aI_cg (hfn a ha)
  have aI0 : ∀ a ∈ L, ∀ i, aI (fun a => if a ∈ L1 then f1 a else f a) a i = aI f a i := fun a ha i => aI_cg (hfo a (hno a (hLl a ha).1 (hLl a ha).2))
  refine kk L1 (L1 ++ M) (L1 ++ L) kd1 (fun a => if a ∈ L1 then kd1 a else kd a) tys1 (tys ++ tys1) f1 (fun a => if a ∈ L1 then f1 a else f a) H1 locs1 ⟨C.1.app hK1, fun k x hk => ?_, va_Dn.mpr ⟨?_, fun x hx => ?_⟩, hS1, fun a ha => ?_, fun a ha => ?_, fun a ha => ?_, C.2.2.2.2.2.2.2.1, fun j hj t hjt => (C.2.2.2.2.2.2.2.2.1 j hj t hjt).up hup, C.2.2.2.2.2.2.2.2.2⟩ (fun a ha => ⟨List.mem_append_right _ ha, if_neg (hno a (hLl a ha).1 (hLl a ha).2), hfo a (hno a (hLl a ha).1 (hLl a ha).2)⟩) (fun a ha => ⟨List.mem_append_left _ ha, if_pos ha, hfn a ha⟩) hup ⟨List.mem_append_left _ b1, (if_pos b1).trans b2⟩ ⟨b1, b2⟩ (fun a ha => ⟨fun z => hno a (hLl a z).1 (hLl a z).2 ha, fun z => hno a (Nat.lt_of_lt_of_le (C.2.2.2.2.2.2.1 a z).2.2.1 hS.1) (hML a (C.2.2.2.2.2.2.1 a z).1).2 ha⟩) (fun a ha => (b3 a ha).1) (fun x hx => List.mem_append_left _ hx) hG
  · have hx := List.mem_of_getElem? hk
    rcases cW_mem.mp hx with z | z | ⟨z1, z2⟩
    · exact hold x (cW_mem.mpr (Or.inl z))
    · exact hold x (cW_mem.mpr (Or.inr (Or.inl z)))
    · by_cases y : x.1 ∈ L1
      · exact va_Pat hP1 (pl_mem.mpr ⟨y, z2.trans (hfn _ y)⟩)
      · rcases List.mem_append.mp z1 with z1 | z1
        · exact absurd z1 y
        · exact hold x (cW_mem.mpr (Or.inr (Or.inr ⟨z1, z2.trans (hfo _ y)⟩)))
  · rw [cW_fst]
    refine perm3.nodup (List.nodup_append.mpr ⟨k1, n4, fun a ha b hb hab => ?_⟩)
    subst hab
    have hb' : a ∈ (cW h ci fs X L f).map (fun x => x.1) := by rw [cW_fst]; exact hb
    obtain ⟨x, hx, e9⟩ := List.mem_map.mp hb'
    subst e9
    exact hno _ (hlt x (hWm x hx)) (hWq x hx) ha
  · rcases cW_mem.mp hx with z | z | ⟨z1, z2⟩
    · exact hA x (cW_mem.mpr (Or.inl z))
    · exact hA x (cW_mem.mpr (Or.inr (Or.inl (List.mem_append_left _ z))))
    · rcases List.mem_append.mp z1 with z1 | z1
      · rcases hL1 _ z1 with y | y
        · rw [y]
          exact hA _ hqW
        · exact Or.inr (Nat.le_trans hS.1 y)
      · exact hA (x.1, f x.1) (cW_mem.mpr (Or.inr (Or.inr ⟨z1, rfl⟩)))
  · rcases List.mem_append.mp ha with z | z
    · refine ⟨List.mem_append_left _ z, ?_, fun i => (aI1 a z i).trans ((b3 a z).2 i)⟩
      show okE _ _ _ (if a ∈ L1 then kd1 a else kd a) (if a ∈ L1 then f1 a else f a)
      rw [if_pos z, if_pos z]
      exact okE.up hup1 (fun x hx => List.mem_append_right _ hx) (b3 a z).1
    · have z' := hno a (hLl a z).1 (hLl a z).2
      obtain ⟨d1, d2, d3⟩ := C.2.2.2.2.1 a z
      refine ⟨List.mem_append_right _ d1, ?_, fun i => (aI0 a z i).trans (d3 i)⟩
      show okE _ _ _ (if a ∈ L1 then kd1 a else kd a) (if a ∈ L1 then f1 a else f a)
      rw [if_neg z', if_neg z']
      exact okE.up hup (fun x hx => List.mem_append_left _ hx) d2
  · rcases List.mem_append.mp ha with z | z
    · exact Or.inr (Or.inr (List.mem_append_left _ z))
    · rcases C.2.2.2.2.2.1 a z with y | y | y
      · exact Or.inl y
      · rw [List.map_append] at y
        rcases List.mem_append.mp y with y | y
        · exact Or.inr (Or.inl y)
        · exact absurd (List.mem_singleton.mp y) (hML a z).2
      · exact Or.inr (Or.inr (List.mem_append_right _ y))
  · obtain ⟨d1, d2, d3⟩ := C.2.2.2.2.2.2.1 a ha
    exact ⟨List.mem_append_right _ d1, (hup a d1).2.trans d2, d3⟩
/-- the object is whole: it goes to the pool -/
theorem c_exit {G : List Nat → (Nat → Nat) → (Nat → va_E) → Prop} {t : State} (C : CI D s h e0 L0 kd0 ci fs dn kn [] M L kd tys f H locs) (hci : ci < 100) (hd : ∀ j, j < (FS ci).length → j ∈ dn) (ht : t.heap = H) (hW : s.WarmedH t.vm) (hG : G (h :: L) (va_up kd h ci) (va_up f h (.inr (ci, fs)))) : CP D L0 kd0 ci h e0 s.heap.size G t := by
  obtain ⟨h1, h2, h3, h4, c1, c2, c3, c4, c5, c6⟩ := C
  have hnd := (va_Dn.mp h3).1
  rw [cW_fst] at hnd
  have hhL : h ∉ L := (List.nodup_cons.mp hnd).1
  have hne : ∀ a ∈ L, a ≠ h := fun a ha z => hhL (z ▸ ha)
  have hup : ∀ a ∈ M, a ∈ L0 ++ (h :: L) ∧ va_up kd h ci a = kd a := fun a ha => by
    rcases c2 a ha with z | z | z
    · exact ⟨List.mem_append_left _ z, va_up_ne kd ci (c3 a z).2.2.2⟩
    · exact absurd z List.not_mem_nil
    · exact ⟨List.mem_append_right _ (List.mem_cons_of_mem _ z), va_up_ne kd ci (hne a z)⟩
  obtain ⟨hP2, hD2⟩ := cW_re (W := cW h ci fs [] L f) (W' := va_pl (h :: L) (va_up f h (.inr (ci, fs)))) (by rw [cW_fst, pl_fst]; exact List.Perm.refl _) (fun x hx => by
    obtain ⟨z1, z2⟩ := pl_mem.mp hx
    rcases List.mem_cons.mp z1 with y | y
    · rw [y, va_up_self] at z2
      exact cW_mem.mpr (Or.inl (Prod.ext y z2))
    · rw [va_up_ne f _ (hne _ y)] at z2
      exact cW_mem.mpr (Or.inr (Or.inr ⟨y, z2⟩))) h2 h3
  refine ⟨h :: L, va_up kd h ci, tys, va_up f h (.inr (ci, fs)), List.mem_cons_self, va_up_self _ _ _, fun a ha => ?_, fun a ha => by rw [va_up_ne kd ci (c3 a ha).2.2.2]; exact (c3 a ha).2.1, by rw [ht]; exact hP2, va_K.moved hW.alike h1, hD2, hG⟩
  rcases List.mem_cons.mp ha with rfl | ha
  · refine ⟨?_, fun i => by unfold aI; rw [va_up_self]⟩
    rw [va_up_self, va_up_self]
    unfold okE
    rw [if_pos hci]
    exact ⟨fs, rfl, c4, fun j t hjt => (c5 j (hd j (List.getElem?_eq_some_iff.mp hjt).1) t hjt).up hup⟩
  · obtain ⟨d1, d2, d3⟩ := c1 a ha
    exact ⟨by rw [va_up_ne kd ci (hne a ha), va_up_ne f _ (hne a ha)]; exact d2.up hup (fun _ hx => hx), fun i => by rw [aI_up (hne a ha)]; exact d3 i⟩
end CON3
section CON4
variable {p : Program} {l : Launch} {e : Env} {R : Room} {s : State} {m : MethodId} {args : Array Value} {below : List Frame} {meth : Method} {c : Code} {H : Heap} {locs : List Loc} {cells slots : Nat} {Q : State → Prop} {cc : ByteArray} {pc : Nat} {ls : Array Slot} {rest : List Value} {D : va_G} {tys : List (ClassId × FieldType)} {L M L0 : List Nat} {kd kd0 : Nat → Nat} {f : Nat → va_E} {h ci : Nat} {e0 : va_E} {fs : List Value} {dn : List Nat} {kn : List (Nat × Value)} {X : va_W}
/-- where a value of a field stands -/
theorem CI.fr (C : CI D s h e0 L0 kd0 ci fs dn kn X M L kd tys f H locs) {k K z : Nat} (i : Nat) (hi : kn[i]? = some (k, .ref z)) (hd : k ∈ dn) (ht : (FS ci)[k]? = some ((2, (K : Int), (K : Int)) : rS)) : z ∈ M ∧ kd z = K := by
  have h1 := C.2.2.2.2.2.2.2.2.1 k hd _ ht
  have h2 : fs.getD k .null = .ref z := C.2.2.2.2.2.2.2.2.2 _ (List.mem_of_getElem? hi)
  rw [h2] at h1
  obtain ⟨a, e1, e2, e3, e4⟩ := h1
  cases e1
  exact ⟨e2, by simp only at e3 e4; omega⟩
theorem CI.fv (C : CI D s h e0 L0 kd0 ci fs dn kn X M L kd tys f H locs) {k : Nat} {v : Value} (i : Nat) (hi : kn[i]? = some (k, v)) : fV (va_up f h (.inr (ci, fs))) h k = v := by
  simp only [fV, va_up_self]
  exact C.2.2.2.2.2.2.2.2.2 _ (List.mem_of_getElem? hi)
theorem CI.ml (C : CI D s h e0 L0 kd0 ci fs dn kn [] M L kd tys f H locs) {z : Nat} (hz : z ∈ M) : z ∈ L0 ∨ z ∈ L := by
  rcases C.2.2.2.2.2.1 z hz with y | y | y
  · exact Or.inl y
  · exact absurd y List.not_mem_nil
  · exact Or.inr y
theorem CI.hL (C : CI D s h e0 L0 kd0 ci fs dn kn X M L kd tys f H locs) : h ∉ L := fun z => by
  have hnd := (va_Dn.mp C.2.2.1).1
  rw [cW_fst] at hnd
  exact (List.nodup_cons.mp hnd).1 (List.mem_append_right _ z)
theorem CI.mo_ (C : CI D s h e0 L0 kd0 ci fs dn kn X M L kd tys f H locs) {ci' : Nat} {e1 : va_E} : Mo L kd f (h :: L) (va_up kd h ci') (va_up f h e1) := Mo.push C.hL
theorem c_newq {own C2 : String} {index : Nat} (hx : p.tables.exec = Jvm.exec) (hb : c.code = cc) (hown : s.vm.findClass own = some m.cls) (hclink : (Cond.classLink own index C2).before args s = true) (hover : va_AO C2 s) (C : CI D s h e0 L0 kd0 ci fs dn kn X M L kd tys f H locs) (K : Nat) {n : Int32} {N' : Nat} (hn : ¬ n < 0) (hN : n.toNatClampNeg = N') (hbytes : N' * 4 ≤ 536870912) (hcells : cells + 1 ≤ R.cells) (hslots : slots + N' ≤ R.slots) (hdg : decode cc pc = .ok (.anewarray index, 3))
    (kk : ∀ (q : Nat) (cA : ClassId) (M1 : List Nat) (kd1 : Nat → Nat) (tys : List (ClassId × FieldType)) (H : Heap), (q ∈ M1 ∧ kd1 q = K) → Mo L kd f L kd1 f → (cA, .object C2) ∈ tys → CI D s h e0 L0 kd0 ci fs dn kn (X ++ [(q, .inl (cA, N', .inr (.inr (.inr (.inr (fun _ => none))))))]) M1 L kd1 tys f H locs → W p l e R s m args below meth c H locs (cells + 1) (slots + N') Q (F0 m (pc + 3) ls (.ref q :: rest))) : W p l e R s m args below meth c H locs cells slots Q (F0 m pc ls (.int n :: rest)) := by
  refine va_newq (ws := cW h ci fs X L f) hx hb hown hclink hover C.1 C.2.1 C.2.2.1 C.2.2.2.1 (fun q hq => Or.inr hq) hn hN hbytes hcells hslots hdg (fun q cA H1 hK1 hP1 hD1 hS1 => ?_)
  obtain ⟨n1, n2, n3, n4, -⟩ := cW_new hD1
  have hM := C.2.2.2.2.nM n2 n3 n4
  obtain ⟨hP2, hD2⟩ := cW_re (W' := cW h ci fs (X ++ [(q, .inl (cA, N', .inr (.inr (.inr (.inr (fun _ => none))))))]) L f) (by rw [List.map_append, cW_fst, cW_fst, List.map_append]; exact perm2) (fun x hx => by
    rcases cW_mem.mp hx with z | z | z
    · exact List.mem_append_left _ (cW_mem.mpr (Or.inl z))
    · rcases List.mem_append.mp z with z | z
      · exact List.mem_append_left _ (cW_mem.mpr (Or.inr (Or.inl z)))
      · exact List.mem_append_right _ z
    · exact List.mem_append_left _ (cW_mem.mpr (Or.inr (Or.inr z)))) hP1 hD1
  obtain ⟨c1, c2, c3, c4, c5, c6⟩ := C.2.2.2.2
  have hne : ∀ a ∈ M, a ≠ q := fun a ha z => hM (z ▸ ha)
  have hup : ∀ a ∈ M, a ∈ q :: M ∧ va_up kd q K a = kd a := fun a ha => ⟨List.mem_cons_of_mem _ ha, va_up_ne kd K (hne a ha)⟩
  refine kk q cA (q :: M) (va_up kd q K) _ H1 ⟨List.mem_cons_self, va_up_self _ _ _⟩ (fun a ha => ⟨ha, va_up_ne kd K (hne a (c1 a ha).1), rfl⟩) (List.mem_append_right _ (List.mem_singleton.mpr rfl)) ⟨hK1, hP2, hD2, hS1, fun a ha => ?_, fun a ha => ?_, fun a ha => ?_, c4, fun j hj t hjt => (c5 j hj t hjt).up hup, c6⟩
  · obtain ⟨d1, d2, d3⟩ := c1 a ha
    exact ⟨List.mem_cons_of_mem _ d1, by rw [va_up_ne kd K (hne a d1)]; exact d2.up hup (fun x hx => List.mem_append_left _ hx), d3⟩
  · rcases List.mem_cons.mp ha with z | z
    · exact Or.inr (Or.inl (by rw [List.map_append]; exact List.mem_append_right _ (List.mem_singleton.mpr z)))
    · rcases c2 a z with y | y | y
      · exact Or.inl y
      · exact Or.inr (Or.inl (by rw [List.map_append]; exact List.mem_append_left _ y))
      · exact Or.inr (Or.inr y)
  · obtain ⟨d1, d2, d3⟩ := c3 a ha
    exact ⟨List.mem_cons_of_mem _ d1, by rw [va_up_ne kd K (hne a d1)]; exact d2, d3⟩
theorem c_aast {a b N ci2 : Nat} {cA : ClassId} {C2 : String} {g : Nat → Option Nat} {r : vw_C} {i : Int32} (hx : p.tables.exec = Jvm.exec) (hb : c.code = cc) (C : CI D s h e0 L0 kd0 ci fs dn kn [(a, .inl (cA, N, .inr (.inr (.inr (.inr g)))))] M L kd tys f H locs) (ht : (cA, .object C2) ∈ tys) (hr : vwCl[ci2]? = some r) (hrC : r.1 = C2) (hbL : b ∈ L) (hk : kd b = ci2) (hci2 : ci2 < 100) (hin : vp_in i N) (hdg : decode cc pc = .ok (.aastore, 1))
    (kk : ∀ (H : Heap) (locs : List Loc), CI D s h e0 L0 kd0 ci fs dn kn [(a, .inl (cA, N, .inr (.inr (.inr (.inr (va_up g i.toNatClampNeg (some b)))))))] M L kd tys f H locs → W p l e R s m args below meth c H locs cells slots Q (F0 m (pc + 1) ls rest)) : W p l e R s m args below meth c H locs cells slots Q (F0 m pc ls (.ref b :: .int i :: .ref a :: rest)) := by
  subst hrC
  obtain ⟨t0, ht0⟩ := List.mem_iff_getElem?.mp ht
  have h1 := (C.2.2.2.2.1 b hbL).2.1
  rw [hk] at h1
  unfold okE at h1
  rw [if_pos hci2] at h1
  obtain ⟨vs, hfb, -, -⟩ := h1
  obtain ⟨qk, hqk⟩ := va_pl_get (X := (h, .inr (ci, fs)) :: [(a, .inl (cA, N, .inr (.inr (.inr (.inr g)))))]) (f := f) hbL
  rw [hfb] at hqk
  exact va_astq (ws := cW h ci fs [(a, .inl (cA, N, .inr (.inr (.inr (.inr g)))))] L f) hx hb C.1 C.2.1 C.2.2.1 C.2.2.2.1 1 t0 qk ci2 rfl ht0 hqk hr hin hdg (fun H1 locs1 hP1 hD1 hS1 => kk H1 locs1 ⟨C.1, hP1, hD1, hS1, C.2.2.2.2⟩)
/-- a row of references is whole: it goes to the pool -/
theorem c_abs {a : Nat} {e1 : va_E} (C : CI D s h e0 L0 kd0 ci fs dn kn [(a, e1)] M L kd tys f H locs) (haM : a ∈ M) (hok : okE M kd tys (kd a) e1) (hz : ∀ g : Nat → va_E, g a = e1 → ∀ i, aI g a i = 0) : CI D s h e0 L0 kd0 ci fs dn kn [] M (a :: L) kd tys (va_up f a e1) H locs ∧ Mo L kd f (a :: L) kd (va_up f a e1) := by
  obtain ⟨h1, h2, h3, h4, c1, c2, c3, c4, c5, c6⟩ := C
  have hnd := (va_Dn.mp h3).1
  rw [cW_fst] at hnd
  have haL : a ∉ L := fun z => by
    have := (List.nodup_cons.mp hnd).2
    rw [List.nodup_append] at this
    exact this.2.2 a (List.mem_singleton.mpr rfl) a z rfl
  have hne : ∀ b ∈ L, b ≠ a := fun b hb z => haL (z ▸ hb)
  obtain ⟨hP2, hD2⟩ := cW_re (W := cW h ci fs [(a, e1)] L f) (W' := cW h ci fs [] (a :: L) (va_up f a e1)) (by rw [cW_fst, cW_fst]; exact List.Perm.refl _) (fun x hx => by
    rcases cW_mem.mp hx with z | z | ⟨z1, z2⟩
    · exact cW_mem.mpr (Or.inl z)
    · exact absurd z List.not_mem_nil
    · rcases List.mem_cons.mp z1 with y | y
      · rw [y, va_up_self] at z2
        exact cW_mem.mpr (Or.inr (Or.inl (List.mem_singleton.mpr (Prod.ext y z2))))
      · rw [va_up_ne f _ (hne _ y)] at z2
        exact cW_mem.mpr (Or.inr (Or.inr ⟨y, z2⟩))) h2 h3
  refine ⟨⟨h1, hP2, hD2, h4, fun b hb => ?_, fun b hb => ?_, c3, c4, c5, c6⟩, fun b hb => ⟨List.mem_cons_of_mem _ hb, rfl, va_up_ne f _ (hne b hb)⟩⟩
  · rcases List.mem_cons.mp hb with rfl | hb
    · exact ⟨haM, by rw [va_up_self]; exact hok, hz _ (va_up_self _ _ _)⟩
    · obtain ⟨d1, d2, d3⟩ := c1 b hb
      exact ⟨d1, by rw [va_up_ne f _ (hne b hb)]; exact d2, fun i => by rw [aI_up (hne b hb)]; exact d3 i⟩
  · rcases c2 b hb with y | y | y
    · exact Or.inl y
    · exact Or.inr (Or.inr (List.mem_cons.mpr (Or.inl (List.mem_singleton.mp y))))
    · exact Or.inr (Or.inr (List.mem_cons_of_mem _ y))
/-- the places ahead of i of a row of references stand -/
def RG (L : List Nat) (kd : Nat → Nat) (K : Nat) (g : Nat → Option Nat) (i : Nat) : Prop := ∀ j, j < i → ∃ b, g j = some b ∧ b ∈ L ∧ kd b = K
theorem RG.mo {L1 : List Nat} {kd1 : Nat → Nat} {f1 : Nat → va_E} {K i : Nat} {g : Nat → Option Nat} (h1 : RG L kd K g i) (h2 : Mo L kd f L1 kd1 f1) : RG L1 kd1 K g i := fun j hj => by
  obtain ⟨b, b1, b2, b3⟩ := h1 j hj
  exact ⟨b, b1, (h2 b b2).1, (h2 b b2).2.1.trans b3⟩
theorem RG.put {K i b : Nat} {g : Nat → Option Nat} (h1 : RG L kd K g i) (h2 : b ∈ L ∧ kd b = K) : RG L kd K (va_up g i (some b)) (i + 1) := fun j hj => by
  by_cases z : j = i
  · subst z
    exact ⟨b, va_up_self _ _ _, h2⟩
  · rw [va_up_ne g _ z]
    exact h1 j (by omega)
theorem RG.ok (C : CI D s h e0 L0 kd0 ci fs dn kn X M L kd tys f H locs) {K N Ka st : Nat} {g : Nat → Option Nat} {cA : ClassId} {ty : FieldType} (h1 : RG L kd K g N) (hA : AT Ka = (st, N, (K : Int), (K : Int))) (hKa : 100 ≤ Ka) (hst : (st = 4 ∧ ty = .object RX9) ∨ (st = 5 ∧ ty = .object RX6)) (ht : (cA, ty) ∈ tys) : okE M kd tys Ka (.inl (cA, N, .inr (.inr (.inr (.inr g))))) := by
  obtain ⟨t0, ht0⟩ := List.mem_iff_getElem?.mp ht
  have h2 : okR M kd tys ty N (K : Int) (K : Int) (.inl (cA, N, .inr (.inr (.inr (.inr g))))) := ⟨cA, t0, g, rfl, ht0, fun i hi => by
    obtain ⟨b, b1, b2, b3⟩ := h1 i hi
    exact ⟨b, b1, (C.2.2.2.2.1 b b2).1, by rw [b3]; exact Int.le_refl _, by rw [b3]; exact Int.le_refl _⟩⟩
  unfold okE
  rw [if_neg (by omega), hA]
  rcases hst with ⟨rfl, rfl⟩ | ⟨rfl, rfl⟩
  · exact h2
  · exact h2
/-- a row of rows that was made -/
def mnG (L : List Nat) (kd : Nat → Nat) (f : Nat → va_E) (q : Nat) (r : Nat → Nat) (N K K2 : Nat) : Prop := (q ∈ L ∧ kd q = K) ∧ (∀ i, i < N → r i ∈ L ∧ kd (r i) = K2) ∧ (∀ i j, i < N → j < N → r i = r j → i = j) ∧ ∀ i, i < N → aR f q i = r i
theorem mnG.mo {L1 : List Nat} {kd1 : Nat → Nat} {f1 : Nat → va_E} {q N K K2 : Nat} {r : Nat → Nat} (h1 : mnG L kd f q r N K K2) (h2 : Mo L kd f L1 kd1 f1) : mnG L1 kd1 f1 q r N K K2 := by
  obtain ⟨⟨a1, a2⟩, a3, a4, a5⟩ := h1
  refine ⟨⟨(h2 q a1).1, (h2 q a1).2.1.trans a2⟩, fun i hi => ⟨(h2 _ (a3 i hi).1).1, (h2 _ (a3 i hi).1).2.1.trans (a3 i hi).2⟩, a4, fun i hi => ?_⟩
  rw [← a5 i hi]
  unfold aR
  rw [(h2 q a1).2.2]
theorem perm4 {B Rw : List Nat} {q : Nat} : List.Perm (((h :: B) ++ [q]) ++ (L ++ Rw)) (h :: (B ++ (q :: (Rw ++ L)))) := by
  rw [List.cons_append, List.cons_append, List.append_assoc]
  show List.Perm (h :: (B ++ (q :: (L ++ Rw)))) (h :: (B ++ (q :: (Rw ++ L))))
  exact (List.Perm.append_left B ((List.perm_append_comm (l₁ := L) (l₂ := Rw)).cons q)).cons h
theorem c_mna {own : String} {index K K2 N' K' : Nat} {n k : Int32} {lo hi : Int} (hx : p.tables.exec = Jvm.exec) (hb : c.code = cc) (hown : s.vm.findClass own = some m.cls) (hclink : (Cond.classLink own index "[[I").before args s = true) (hover : va_AOA .int s) (harr : (Cond.arrayClass .int).before args s = true) (C : CI D s h e0 L0 kd0 ci fs dn kn X M L kd tys f H locs) (hty : ∃ cA, (cA, FieldType.int) ∈ tys)
    (hn : ¬ n < 0) (hk : ¬ k < 0) (hN : n.toNatClampNeg = N') (hM : k.toNatClampNeg = K') (hb1 : N' * 4 ≤ 536870912) (hb2 : K' * 4 ≤ 536870912) (hb3 : K' ≤ 536870912) (hcells : cells + (1 + N') ≤ R.cells) (hslots : slots + (N' + N' * K') ≤ R.slots) (hA1 : AT K = (6, N', (K2 : Int), (K2 : Int))) (hA2 : AT K2 = (0, K', lo, hi)) (hlo : lo ≤ 0 ∧ 0 ≤ hi) (hK : 100 ≤ K) (hK2 : 100 ≤ K2) (hdg : decode cc pc = .ok (.multianewarray index 2, 4))
    (kk : ∀ (q : Nat) (r : Nat → Nat) (M1 L1 : List Nat) (kd1 : Nat → Nat) (tys : List (ClassId × FieldType)) (f1 : Nat → va_E) (H : Heap), (q ∈ M1 ∧ kd1 q = K) → Mo L kd f L1 kd1 f1 → (∃ cA, (cA, FieldType.int) ∈ tys) → mnG L1 kd1 f1 q r N' K K2 → (q ∉ L ∧ ∀ i, i < N' → r i ∉ L) → CI D s h e0 L0 kd0 ci fs dn kn X M1 L1 kd1 tys f1 H locs → W p l e R s m args below meth c H locs (cells + 1 + N') (slots + N' + N' * K') Q (F0 m (pc + 4) ls (.ref q :: rest))) : W p l e R s m args below meth c H locs cells slots Q (F0 m pc ls (.int k :: .int n :: rest)) := by
  obtain ⟨cy, hcy⟩ : ∃ cy, s.vm.findClass (FieldType.array .int).toString = some cy := by
    obtain ⟨c1, k1, c2, h1, -, -⟩ := Cond.arrayClass_spec harr
    exact ⟨c1, h1⟩
  obtain ⟨c1, hc1⟩ := hty
  obtain ⟨t1, ht1⟩ := List.mem_iff_getElem?.mp hc1
  have hcc : c1 = cy := by
    have h1 : s.vm.findClass ("[" ++ (FieldType.int).toString) = some c1 := (C.1.2 t1 _ ht1).2
    exact Option.some.inj (h1.symm.trans hcy)
  subst hcc
  refine va_mna (X := (h, .inr (ci, fs)) :: X) (L := L) (f := f) (ty := .int) (z := (K', .inl (fun _ => 0))) hx hb hown hclink hover harr hcy C.1 C.2.1 C.2.2.1 C.2.2.2.1 (fun q hq => Or.inr hq) hn hk hN hM hb1 hb2 hb3 rfl rfl hcells hslots (fun c9 => arrV_new c9 K' (.int 0)) hdg (fun q r cA H1 hri hrL hK1 hP1 hD1 hS1 => ?_)
  have hnd := (va_Dn.mp hD1).1
  rw [List.map_append, List.map_append, pl_fst] at hnd
  have hnd2 : (h :: (X.map (fun x => x.1) ++ (q :: ((List.range N').map r ++ L)))).Nodup := perm4.nodup hnd
  have hd3 := (List.nodup_cons.mp hnd2).2
  have hd4 := (List.nodup_append.mp hd3)
  have hd5 := List.nodup_cons.mp hd4.2.1
  have hd6 := List.nodup_append.mp hd5.2
  have hA := (va_Dn.mp hD1).2
  have hall : ∀ a, a ∈ q :: (List.range N').map r → a ∉ X.map (fun x => x.1) ∧ a ∉ L ∧ s.heap.size ≤ a := fun a ha => by
    have h1 : a ∈ q :: ((List.range N').map r ++ L) := by
      rcases List.mem_cons.mp ha with z | z
      · exact List.mem_cons.mpr (Or.inl z)
      · exact List.mem_cons_of_mem _ (List.mem_append_left _ z)
    refine ⟨fun z => hd4.2.2 a z a h1 rfl, fun z => ?_, ?_⟩
    · rcases List.mem_cons.mp ha with y | y
      · rw [y] at z
        exact hd5.1 (List.mem_append_right _ z)
      · exact hd6.2.2 a y a z rfl
    · have hah : a ≠ h := fun z => (List.nodup_cons.mp hnd2).1 (z ▸ List.mem_append_right _ h1)
      have hAa : va_A [(h, e0)] s.heap.size a := by
        rcases List.mem_cons.mp ha with y | y
        · rw [y]
          exact hA (q, _) (List.mem_append_left _ (List.mem_append_right _ (List.mem_singleton.mpr rfl)))
        · exact hA (a, vr_up f ((List.range N').map r) (.inl (c1, K', .inl fun _ => 0)) a) (List.mem_append_right _ (pl_mem.mpr ⟨List.mem_append_right _ y, rfl⟩))
      rcases A_one hAa with z | z
      · exact absurd z hah
      · exact z
  have hnM : ∀ a, a ∈ q :: (List.range N').map r → a ∉ M := fun a ha => C.2.2.2.2.nM (hall a ha).1 (hall a ha).2.1 (hall a ha).2.2
  have hqr : q ∉ (List.range N').map r := fun z => hd5.1 (List.mem_append_left _ z)
  have hrm : ∀ i, i < N' → r i ∈ (List.range N').map r := fun i hi => List.mem_map.mpr ⟨i, List.mem_range.mpr hi, rfl⟩
  obtain ⟨kd1, hkd1⟩ : ∃ kd1 : Nat → Nat, kd1 = fun a => if a = q then K else if a ∈ (List.range N').map r then K2 else kd a := ⟨_, rfl⟩
  obtain ⟨f1, hf1⟩ : ∃ f1 : Nat → va_E, f1 = fun a => if a = q then .inl (cA, N', .inr (.inr (.inr (.inr (fun i => if i < N' then some (r i) else none))))) else if a ∈ (List.range N').map r then .inl (c1, K', .inl (fun _ => 0)) else f a := ⟨_, rfl⟩
  have kq : kd1 q = K := by rw [hkd1]; exact if_pos rfl
  have fq : f1 q = .inl (cA, N', .inr (.inr (.inr (.inr (fun i => if i < N' then some (r i) else none))))) := by rw [hf1]; exact if_pos rfl
  have kr : ∀ a ∈ (List.range N').map r, kd1 a = K2 := fun a ha => by
    rw [hkd1]
    exact (if_neg (fun z : a = q => hqr (z ▸ ha))).trans (if_pos ha)
  have fr : ∀ a ∈ (List.range N').map r, f1 a = .inl (c1, K', .inl (fun _ => 0)) := fun a ha => by
    rw [hf1]
    exact (if_neg (fun z : a = q => hqr (z ▸ ha))).trans (if_pos ha)
  have ko : ∀ a, a ∉ q :: (List.range N').map r → kd1 a = kd a ∧ f1 a = f a := fun a ha => by
    have y1 : a ≠ q := fun z => ha (List.mem_cons.mpr (Or.inl z))
    have y2 : a ∉ (List.range N').map r := fun z => ha (List.mem_cons_of_mem _ z)
    rw [hkd1, hf1]
    exact ⟨(if_neg y1).trans (if_neg y2), (if_neg y1).trans (if_neg y2)⟩
  have hLo : ∀ a ∈ L, kd1 a = kd a ∧ f1 a = f a := fun a ha => ko a (fun z => (hall a z).2.1 ha)
  have hup : ∀ a ∈ M, a ∈ q :: ((List.range N').map r ++ M) ∧ kd1 a = kd a := fun a ha => ⟨List.mem_cons_of_mem _ (List.mem_append_right _ ha), (ko a (fun z => hnM a z ha)).1⟩
  obtain ⟨hP2, hD2⟩ := cW_re (W' := cW h ci fs X (q :: ((List.range N').map r ++ L)) f1) (by rw [List.map_append, List.map_append, pl_fst, cW_fst]; exact perm4) (fun x hx => by
    rcases cW_mem.mp hx with z | z | ⟨z1, z2⟩
    · exact List.mem_append_left _ (List.mem_append_left _ (List.mem_cons.mpr (Or.inl z)))
    · exact List.mem_append_left _ (List.mem_append_left _ (List.mem_cons_of_mem _ z))
    · rcases List.mem_cons.mp z1 with y | y
      · refine List.mem_append_left _ (List.mem_append_right _ (List.mem_singleton.mpr ?_))
        rw [y, fq] at z2
        exact Prod.ext y z2
      · refine List.mem_append_right _ (pl_mem.mpr ⟨?_, ?_⟩)
        · rcases List.mem_append.mp y with y | y
          · exact List.mem_append_right _ y
          · exact List.mem_append_left _ y
        · rw [z2]
          unfold vr_up
          rcases List.mem_append.mp y with y | y
          · rw [if_pos y, fr _ y]
          · rw [if_neg (fun w => hd6.2.2 _ w _ y rfl), (hLo _ y).2]) hP1 hD1
  obtain ⟨d1, d2, d3, d4, d5, d6⟩ := C.2.2.2.2
  refine kk q r (q :: ((List.range N').map r ++ M)) (q :: ((List.range N').map r ++ L)) kd1 (tys ++ [(cA, .array .int)]) f1 H1 ⟨List.mem_cons_self, kq⟩ (fun a ha => ⟨List.mem_cons_of_mem _ (List.mem_append_right _ ha), hLo a ha⟩) ⟨c1, List.mem_append_left _ hc1⟩ ⟨⟨List.mem_cons_self, kq⟩, fun i hi => ⟨List.mem_cons_of_mem _ (List.mem_append_left _ (hrm i hi)), kr _ (hrm i hi)⟩, hri, fun i hi => ?_⟩ ⟨fun z => (hall q List.mem_cons_self).2.1 z, fun i hi => (hall _ (List.mem_cons_of_mem _ (hrm i hi))).2.1⟩ ⟨hK1, hP2, hD2, hS1, fun a ha => ?_, fun a ha => ?_, fun a ha => ?_, d4, fun j hj t hjt => (d5 j hj t hjt).up hup, d6⟩
  · unfold aR
    rw [fq]
    simp only [if_pos hi]
    rfl
  · rcases List.mem_cons.mp ha with rfl | ha
    · refine ⟨List.mem_cons_self, ?_, fun i => by unfold aI; rw [fq]⟩
      rw [kq, fq]
      unfold okE
      rw [if_neg (by omega), hA1]
      exact ⟨cA, tys.length, _, rfl, by simp, fun i hi => ⟨r i, if_pos hi, List.mem_cons_of_mem _ (List.mem_append_left _ (hrm i hi)), by rw [kr _ (hrm i hi)]; exact Int.le_refl _, by rw [kr _ (hrm i hi)]; exact Int.le_refl _⟩⟩
    · rcases List.mem_append.mp ha with y | y
      · refine ⟨List.mem_cons_of_mem _ (List.mem_append_left _ y), ?_, fun i => by unfold aI; rw [fr a y]⟩
        rw [kr a y, fr a y]
        exact zo_i hK2 hA2 hlo _ _ _ _ (List.mem_append_left _ hc1)
      · obtain ⟨b1, b2, b3⟩ := d1 a y
        exact ⟨List.mem_cons_of_mem _ (List.mem_append_right _ b1), by rw [(hLo a y).1, (hLo a y).2]; exact b2.up hup (fun x hx => List.mem_append_left _ hx), fun i => by unfold aI; rw [(hLo a y).2]; exact b3 i⟩
  · rcases List.mem_cons.mp ha with rfl | ha
    · exact Or.inr (Or.inr List.mem_cons_self)
    · rcases List.mem_append.mp ha with y | y
      · exact Or.inr (Or.inr (List.mem_cons_of_mem _ (List.mem_append_left _ y)))
      · rcases d2 a y with z | z | z
        · exact Or.inl z
        · exact Or.inr (Or.inl z)
        · exact Or.inr (Or.inr (List.mem_cons_of_mem _ (List.mem_append_right _ z)))
  · obtain ⟨b1, b2, b3⟩ := d3 a ha
    exact ⟨(hup a b1).1, (hup a b1).2.trans b2, b3⟩
/-- a row that stands apart and the object, as one method sees them -/
theorem fs_lit {fs vs : List Value} (hl : fs.length = vs.length) (hv : ∀ j, j < vs.length → fs.getD j .null = vs.getD j .null) : fs = vs := by
  refine List.ext_getElem hl (fun j h1 h2 => ?_)
  have h3 := hv j h2
  rw [List.getD_eq_getElem?_getD, List.getD_eq_getElem?_getD, List.getElem?_eq_getElem h1, List.getElem?_eq_getElem h2] at h3
  exact h3
theorem c_two {a : Nat} {e1 : va_E} {adK adV : Nat → Nat} (C : CI D s h e0 L0 kd0 ci fs dn kn [(a, e1)] M L kd tys f H locs) (hAm : am_ adK adV (va_A [(h, e0)] s.heap.size) s s.heap) : va_P D vwCl [(h, .inr (ci, fs)), (a, e1)] H ∧ va_D (va_A [(h, .inr (ci, fs)), (a, e1)] H.size) [(h, .inr (ci, fs)), (a, e1)] ∧ (∀ y, va_A [(h, .inr (ci, fs)), (a, e1)] H.size y → va_A [(h, e0)] s.heap.size y) ∧ ∀ U : State, U.heap = H → s.WarmedH U.vm → am_ adK adV (va_A [(h, .inr (ci, fs)), (a, e1)] H.size) U H := by
  have hA := (va_Dn.mp C.2.2.1).2
  have hnd := (va_Dn.mp C.2.2.1).1
  rw [cW_fst] at hnd
  have hw : ∀ x ∈ [(h, .inr (ci, fs)), (a, e1)], x ∈ cW h ci fs [(a, e1)] L f := fun x hx => by
    rcases List.mem_cons.mp hx with z | z
    · exact cW_mem.mpr (Or.inl z)
    · exact cW_mem.mpr (Or.inr (Or.inl z))
  have hF : ∀ y, va_A [(h, .inr (ci, fs)), (a, e1)] H.size y → va_A [(h, e0)] s.heap.size y := fun y hy => by
    rcases hy with ⟨k, x, hk⟩ | hy
    · exact hA _ (hw _ (List.mem_of_getElem? hk))
    · exact Or.inr (Nat.le_trans C.2.2.2.1.1 hy)
  refine ⟨va_Pm C.2.1 hw, va_Dn.mpr ⟨?_, fun x hx => ?_⟩, hF, fun U _ hW => ((hAm.kept C.2.2.2.1.2.1).narrow hF).warm hW⟩
  · show (h :: [a]).Nodup
    refine List.nodup_cons.mpr ⟨fun z => ?_, List.nodup_cons.mpr ⟨List.not_mem_nil, List.nodup_nil⟩⟩
    exact (List.nodup_cons.mp hnd).1 (List.mem_append_left _ z)
  · obtain ⟨k, hk⟩ := List.mem_iff_getElem?.mp hx
    exact Or.inl ⟨k, x.2, hk⟩
/-- behind such a method: another row stands there -/
theorem c_two' {a : Nat} {e1 e2 : va_E} {H1 : Heap} {locs1 : List Loc} (C : CI D s h e0 L0 kd0 ci fs dn kn [(a, e1)] M L kd tys f H locs) (hk1 : ∀ y : Nat, y < H.size → ¬ va_A [(h, .inr (ci, fs)), (a, e1)] H.size y → H1[y]? = H[y]?) (hP1 : va_P D vwCl [(h, .inr (ci, fs)), (a, e2)] H1) (hS1 : va_S (va_A [(h, e0)] s.heap.size) s.heap H1 locs1) : CI D s h e0 L0 kd0 ci fs dn kn [(a, e2)] M L kd tys f H1 locs1 := by
  have hnd := (va_Dn.mp C.2.2.1).1
  rw [cW_fst] at hnd
  refine ⟨C.1, fun k x hk => ?_, va_Dn.mpr ⟨by rw [cW_fst]; exact hnd, fun x hx => ?_⟩, hS1, C.2.2.2.2⟩
  · rcases cW_mem.mp (List.mem_of_getElem? hk) with z | z | z
    · exact va_Pat hP1 (z ▸ List.mem_cons_self)
    · exact va_Pat hP1 (List.mem_cons_of_mem _ z)
    · have hx : x ∈ cW h ci fs [(a, e1)] L f := cW_mem.mpr (Or.inr (Or.inr z))
      have hlt := (va_Pat C.2.1 hx).lt
      refine (va_Pat C.2.1 hx).kept (hk1 x.1 hlt (fun y => ?_))
      rcases y with ⟨k9, x9, hk9⟩ | y
      · rcases List.mem_cons.mp (List.mem_of_getElem? hk9) with w | w
        · have w1 : x.1 = h := congrArg (fun x => x.1) w
          exact (List.nodup_cons.mp hnd).1 (w1 ▸ List.mem_append_right _ z.1)
        · have w1 : x.1 = a := congrArg (fun x => x.1) (List.mem_singleton.mp w)
          have := (List.nodup_append.mp (List.nodup_cons.mp hnd).2).2.2 a (List.mem_singleton.mpr rfl) x.1 z.1
          exact this w1.symm
      · omega
  · rcases cW_mem.mp hx with z | z | z
    · exact (va_Dn.mp C.2.2.1).2 x (cW_mem.mpr (Or.inl z))
    · have w1 : x.1 = a := congrArg (fun x => x.1) (List.mem_singleton.mp z)
      rw [w1]
      exact (va_Dn.mp C.2.2.1).2 (a, e1) (cW_mem.mpr (Or.inr (Or.inl (List.mem_singleton.mpr rfl))))
    · exact (va_Dn.mp C.2.2.1).2 x (cW_mem.mpr (Or.inr (Or.inr z)))
end CON4
section CON5
variable {p : Program} {l : Launch} {e : Env} {R : Room} {s : State} {m : MethodId} {args : Array Value} {below : List Frame} {meth : Method} {c : Code} {H : Heap} {locs : List Loc} {cells slots : Nat} {Q : State → Prop} {cc : ByteArray} {pc : Nat} {ls : Array Slot} {rest : List Value} {D : va_G} {tys : List (ClassId × FieldType)} {L M L0 : List Nat} {kd kd0 : Nat → Nat} {f : Nat → va_E} {h ci : Nat} {e0 : va_E} {fs : List Value} {dn : List Nat} {kn : List (Nat × Value)} {X : va_W}
theorem okr {z K : Nat} {lo hi : Int} (hz : z ∈ M ∧ kd z = K) (hh : lo ≤ (K : Int) ∧ (K : Int) ≤ hi) : okV M kd (2, lo, hi) (.ref z) := ⟨z, rfl, hz.1, by rw [hz.2]; exact hh.1, by rw [hz.2]; exact hh.2⟩
theorem okr3 {z K : Nat} {lo hi : Int} (hz : z ∈ M ∧ kd z = K) (hh : lo ≤ (K : Int) ∧ (K : Int) ≤ hi) : okV M kd (3, lo, hi) (.ref z) := Or.inr ⟨z, rfl, hz.1, by rw [hz.2]; exact hh.1, by rw [hz.2]; exact hh.2⟩
theorem CI.kv (C : CI D s h e0 L0 kd0 ci fs dn kn X M L kd tys f H locs) {k : Nat} {v : Value} (i : Nat) (hi : kn[i]? = some (k, v)) : fs.getD k .null = v := C.2.2.2.2.2.2.2.2.2 _ (List.mem_of_getElem? hi)
theorem CI.p0 (C : CI D s h e0 L0 kd0 ci fs dn kn X M L kd tys f H locs) {z K : Nat} (hz : z ∈ L0) (hk : kd0 z = K) : z ∈ M ∧ kd z = K := ⟨(C.2.2.2.2.2.2.1 z hz).1, (C.2.2.2.2.2.2.1 z hz).2.1.trans hk⟩
theorem c_one {x : ClassId × FieldType} (hK : va_K D vwCl tys s) (hx : x ∈ tys) : va_K D vwCl [x] s := ⟨hK.1, fun k y hk => by
  have hy := List.mem_singleton.mp (List.mem_of_getElem? hk)
  subst hy
  obtain ⟨j, hj⟩ := List.mem_iff_getElem?.mp hx
  exact hK.2 j _ hj⟩
/-- a row that is made and stands apart -/
theorem c_newx {atype : ArrayType} {ty : FieldType} (hx : p.tables.exec = Jvm.exec) (hb : c.code = cc) (harr : (Cond.arrayClass (newarray.typeOf atype)).before args s = true) (hty : newarray.typeOf atype = ty) (C : CI D s h e0 L0 kd0 ci fs dn kn [] M L kd tys f H locs) (K : Nat) {n : Int32} {N' : Nat} {a0 : vp_A} (ha : ∀ cA : ClassId, vp_cell cA a0 = arrV cA N' (fun _ => defaultValue ty)) (hn : ¬ n < 0) (hN : n.toNatClampNeg = N') (hbytes : N' * componentBytes ty ≤ 536870912) (hcells : cells + 1 ≤ R.cells) (hslots : slots + N' ≤ R.slots) (hdg : decode cc pc = .ok (.newarray atype, 2))
    (kk : ∀ (q : Nat) (cA : ClassId) (M1 : List Nat) (kd1 : Nat → Nat) (tys : List (ClassId × FieldType)) (H : Heap), (q ∈ M1 ∧ kd1 q = K) → Mo L kd f L kd1 f → (cA, ty) ∈ tys → CI D s h e0 L0 kd0 ci fs dn kn [(q, .inl (cA, a0))] M1 L kd1 tys f H locs → W p l e R s m args below meth c H locs (cells + 1) (slots + N') Q (F0 m (pc + 2) ls (.ref q :: rest))) : W p l e R s m args below meth c H locs cells slots Q (F0 m pc ls (.int n :: rest)) := by
  refine va_newa (ws := cW h ci fs [] L f) hx hb harr hty C.1 C.2.1 C.2.2.1 C.2.2.2.1 (fun q hq => Or.inr hq) ha hn hN hbytes hcells hslots hdg (fun q cA H1 hK1 hP1 hD1 hS1 => ?_)
  obtain ⟨n1, n2, n3, n4, -⟩ := cW_new hD1
  have hM := C.2.2.2.2.nM n2 n3 n4
  obtain ⟨hP2, hD2⟩ := cW_re (W' := cW h ci fs [(q, .inl (cA, a0))] L f) (by rw [List.map_append, cW_fst, cW_fst]; exact perm2 (B := [])) (fun x hx => by
    rcases cW_mem.mp hx with z | z | z
    · exact List.mem_append_left _ (cW_mem.mpr (Or.inl z))
    · exact List.mem_append_right _ z
    · exact List.mem_append_left _ (cW_mem.mpr (Or.inr (Or.inr z)))) hP1 hD1
  obtain ⟨c1, c2, c3, c4, c5, c6⟩ := C.2.2.2.2
  have hne : ∀ a ∈ M, a ≠ q := fun a ha z => hM (z ▸ ha)
  have hup : ∀ a ∈ M, a ∈ q :: M ∧ va_up kd q K a = kd a := fun a ha => ⟨List.mem_cons_of_mem _ ha, va_up_ne kd K (hne a ha)⟩
  refine kk q cA (q :: M) (va_up kd q K) _ H1 ⟨List.mem_cons_self, va_up_self _ _ _⟩ (fun a ha => ⟨ha, va_up_ne kd K (hne a (c1 a ha).1), rfl⟩) (List.mem_append_right _ (List.mem_singleton.mpr rfl)) ⟨hK1, hP2, hD2, hS1, fun a ha => ?_, fun a ha => ?_, fun a ha => ?_, c4, fun j hj t hjt => (c5 j hj t hjt).up hup, c6⟩
  · obtain ⟨d1, d2, d3⟩ := c1 a ha
    exact ⟨List.mem_cons_of_mem _ d1, by rw [va_up_ne kd K (hne a d1)]; exact d2.up hup (fun x hx => List.mem_append_left _ hx), d3⟩
  · rcases List.mem_cons.mp ha with z | z
    · exact Or.inr (Or.inl (List.mem_singleton.mpr z))
    · rcases c2 a z with y | y | y
      · exact Or.inl y
      · exact absurd y List.not_mem_nil
      · exact Or.inr (Or.inr y)
  · obtain ⟨d1, d2, d3⟩ := c3 a ha
    exact ⟨List.mem_cons_of_mem _ d1, by rw [va_up_ne kd K (hne a d1)]; exact d2, d3⟩
/-- the object is whole: the pool as the methods see it -/
theorem c_g3 (C : CI D s h e0 [] kd0 ci fs dn kn [] M L kd tys f H locs) (hci : ci < 100) (hd : ∀ j, j < (FS ci).length → j ∈ dn) {md : List (Nat × Nat)} {ma : List Nat} : G3 D (h :: L) (va_up kd h ci) tys s (va_up f h (.inr (ci, fs))) md ma (va_up f h (.inr (ci, fs))) H locs [] ∧ (∀ a ∈ h :: L, a = h ∨ s.heap.size ≤ a) := by
  obtain ⟨h1, h2, h3, h4, c1, c2, c3, c4, c5, c6⟩ := C
  have hnd := (va_Dn.mp h3).1
  rw [cW_fst] at hnd
  have hhL : h ∉ L := (List.nodup_cons.mp hnd).1
  have hne : ∀ a ∈ L, a ≠ h := fun a ha z => hhL (z ▸ ha)
  have hup : ∀ a ∈ M, a ∈ h :: L ∧ va_up kd h ci a = kd a := fun a ha => by
    rcases c2 a ha with z | z | z
    · exact absurd z List.not_mem_nil
    · exact absurd z List.not_mem_nil
    · exact ⟨List.mem_cons_of_mem _ z, va_up_ne kd ci (hne a z)⟩
  obtain ⟨hP2, hD2⟩ := cW_re (W := cW h ci fs [] L f) (W' := va_pl (h :: L) (va_up f h (.inr (ci, fs)))) (by rw [cW_fst, pl_fst]; exact List.Perm.refl _) (fun x hx => by
    obtain ⟨z1, z2⟩ := pl_mem.mp hx
    rcases List.mem_cons.mp z1 with y | y
    · rw [y, va_up_self] at z2
      exact cW_mem.mpr (Or.inl (Prod.ext y z2))
    · rw [va_up_ne f _ (hne _ y)] at z2
      exact cW_mem.mpr (Or.inr (Or.inr ⟨y, z2⟩))) h2 h3
  have hA : ∀ q, va_A [(h, e0)] s.heap.size q → pA (h :: L) s.heap.size q := fun q hq => by
    rcases A_one hq with z | z
    · exact Or.inl (z ▸ List.mem_cons_self)
    · exact Or.inr z
  refine ⟨⟨hP2, hD2.weaken (fun k q _ hq => hA q.1 hq), ⟨h4.1, fun q q1 q2 => h4.2.1 q q1 (fun z => q2 (hA q z)), fun q hq => hA _ (h4.2.2 q hq)⟩, fun a ha => ?_, Fs.nil, Md.rf⟩, fun a ha => A_one (hD2.2 _ _ (List.mem_iff_getElem?.mp (pl_mem.mpr ⟨ha, rfl⟩ : (a, va_up f h (.inr (ci, fs)) a) ∈ va_pl (h :: L) (va_up f h (.inr (ci, fs))))).choose_spec)⟩
  rcases List.mem_cons.mp ha with rfl | ha
  · rw [va_up_self, va_up_self]
    unfold okE
    rw [if_pos hci]
    exact ⟨fs, rfl, c4, fun j t hjt => (c5 j (hd j (List.getElem?_eq_some_iff.mp hjt).1) t hjt).up hup⟩
  · obtain ⟨d1, d2, d3⟩ := c1 a ha
    rw [va_up_ne kd ci (hne a ha), va_up_ne f _ (hne a ha)]
    exact d2.up hup (fun _ hx => hx)
end CON5
/-- a row's arrays, all of it 0 -/
def rowG (L : List Nat) (kd : Nat → Nat) (f : Nat → va_E) (r p m : Nat) (A : Nat → Nat) : Prop := (r ∈ L ∧ kd r = 3) ∧ (m ∈ L ∧ kd m = 123) ∧ fV f r 2 = .ref m ∧ fV f r 3 = .ref p ∧ fV f r 0 = .int 0 ∧ fV f r 4 = .int 0 ∧ mnG L kd f p A 10 124 103
section CON6
variable {L L1 : List Nat} {kd kd1 : Nat → Nat} {f f1 : Nat → va_E} {r p m a z : Nat} {A : Nat → Nat}
theorem Mo.fv {j : Nat} (h : Mo L kd f L1 kd1 f1) (ha : a ∈ L) : fV f1 a j = fV f a j := by unfold fV; rw [(h a ha).2.2]
theorem Mo.at_ {K : Nat} (h : Mo L kd f L1 kd1 f1) (ha : a ∈ L ∧ kd a = K) : a ∈ L1 ∧ kd1 a = K := ⟨(h a ha.1).1, (h a ha.1).2.1.trans ha.2⟩
theorem rowG.mo (h : rowG L kd f r p m A) (h2 : Mo L kd f L1 kd1 f1) : rowG L1 kd1 f1 r p m A := by
  obtain ⟨a1, a2, a3, a4, a5, a6, a7⟩ := h
  exact ⟨h2.at_ a1, h2.at_ a2, (h2.fv a1.1).trans a3, (h2.fv a1.1).trans a4, (h2.fv a1.1).trans a5, (h2.fv a1.1).trans a6, a7.mo h2⟩
/-- what a field tells of a cell stands in the cell's own pool -/
theorem own_ref {tys : List (ClassId × FieldType)} {ci : Nat} (h : okE L kd tys ci (f a)) (hci : ci < 100) {j : Nat} (e : fV f a j = .ref z) : z ∈ L := by
  unfold okE at h
  rw [if_pos hci] at h
  obtain ⟨fs, h1, h2, h3⟩ := h
  have e1 : fs.getD j .null = .ref z := by
    have := e
    unfold fV at this
    rw [h1] at this
    exact this
  by_cases hj : j < fs.length
  · have hjt : (FS ci)[j]? = some ((FS ci)[j]'(by rw [← h2]; exact hj)) := List.getElem?_eq_getElem _
    have h4 := h3 j _ hjt
    rw [e1] at h4
    generalize (FS ci)[j]'(by rw [← h2]; exact hj) = t at h4
    obtain ⟨t1, lo, hi⟩ := t
    match t1, h4 with
    | 0, h4 =>
      obtain ⟨x, h5, -⟩ := h4
      cases h5
    | 1, h4 =>
      obtain ⟨x, h5⟩ := h4
      cases h5
    | 2, h4 =>
      obtain ⟨b, h5, h6, -⟩ := h4
      cases h5
      exact h6
    | n + 3, h4 =>
      rcases h4 with h5 | ⟨b, h5, h6, -⟩
      · cases h5
      · cases h5
        exact h6
  · rw [List.getD_eq_getElem?_getD, List.getElem?_eq_none (Nat.le_of_not_lt hj)] at e1
    cases e1
end CON6
