set_option maxHeartbeats 4000000 in
set_option maxRecDepth 100000 in
theorem k_X5_init (l : Launch) (dC : Nat → ClassId) (dI : Nat → Nat → Nat) (adK adV : Nat → Nat) (h0 : Nat) (kd0 : Nat → Nat) (sz : Nat) : Met l yX5_init (.code yX5_init cX5_init 1 none :: lw_g) ({ frames := 1, cells := 2, slots := 11, locals := 20 }) (va_Pc [.ref h0] (CPre (dC, dI) h0 (.inr (5, [.null, .null, .int 0, .null, .int 0, .null, .int 0, .int 0, .int 0])) [] adK adV sz)) (va_Qv (fun _ : Unit => True) (fun (_ : Unit) (t : State) => CP (dC, dI) [] kd0 5 h0 (.inr (5, [.null, .null, .int 0, .null, .int 0, .null, .int 0, .int 0, .int 0])) sz (fun (_ : List Nat) (_ : Nat → Nat) (_ : Nat → va_E) => True) t) (va_A [(h0, .inr (5, [.null, .null, .int 0, .null, .int 0, .null, .int 0, .int 0, .int 0]))] sz)) 2 11 (va_A [(h0, .inr (5, [.null, .null, .int 0, .null, .int 0, .null, .int 0, .int 0, .int 0]))] sz) := by
  refine Met.ofW (cc := cX5_init) (maxL := 1) (ret := none) (by decide) rfl ?_
  intro p e s m args below meth c s₁ B hml hv
  obtain ⟨rfl, hsz, hP, hK, hD0, hAm, hL0⟩ := hv
  have hx := B.exec
  have hb := B.bytes
  have hr := B.returns
  have hts := atoms_spec (ws := (.code yX5_init cX5_init 1 none :: lw_g)) B.pre
  have hown : s.vm.findClass RX5 = some m.cls := findClass_of_methodNamed B.named
  have hlocks := B.notSynchronized
  have hin : meth.name = "<init>" := (name_of_methodNamed B.named B.method).1
  subst hsz
  obtain ⟨M, L, kd, tys, f, C⟩ : ∃ (M L : List Nat) (kd : Nat → Nat) (tys : List (ClassId × FieldType)) (f : Nat → va_E), CI (dC, dI) s h0 (.inr (5, [.null, .null, .int 0, .null, .int 0, .null, .int 0, .int 0, .int 0])) [] kd0 5 [.null, .null, .int 0, .null, .int 0, .null, .int 0, .int 0, .int 0] [] [] [] M L kd tys f s.heap [] := ⟨_, _, _, _, _, CI.start hP hK rfl hL0⟩
  have hl := lv_entry ([.ref h0]) (n := 1) (Nat.le_of_ble_eq_true rfl)
  rw [lg_entry_eq]
  generalize (lg_sl ([.ref h0]) ++ List.replicate (1 - (lg_sl ([.ref h0])).length) Slot.unset).toArray = ls at hl ⊢
  have hl : lv_has ls 1 [(0, .ref h0)] := hl
  have C := C.pr 0 (.null) (t := (3, 7, 7)) rfl rfl (Or.inl rfl)
  have C := C.pr 1 (.null) (t := (3, 9, 9)) rfl rfl (Or.inl rfl)
  have C := C.pr 2 (.int 0) (t := (0, (-2147483648), 2147483647)) rfl rfl (⟨_, rfl, by decide, by decide⟩)
  have C := C.pr 4 (.int 0) (t := (0, 0, 3)) rfl rfl (⟨_, rfl, by decide, by decide⟩)
  have C := C.pr 6 (.int 0) (t := (0, 0, 8)) rfl rfl (⟨_, rfl, by decide, by decide⟩)
  have C := C.pr 7 (.int 0) (t := (0, 0, 1)) rfl rfl (⟨_, rfl, by decide, by decide⟩)
  have C := C.pr 8 (.int 0) (t := (0, 0, 1)) rfl rfl (⟨_, rfl, by decide, by decide⟩)
  refine lv_aload_n hx hb dX5_init_0 rfl (lv_at hl 0 rfl) ?_
  refine W.objInit hx hb hown (hts _ (List.mem_cons_of_mem _ t_327)) (hts _ (List.mem_cons_of_mem _ t_213)) (hts _ (List.mem_cons_of_mem _ t_214)) rfl (by rw [hml]; exact hl.1) rfl dX5_init_1 (Nat.le_of_ble_eq_true rfl) (Nat.le_of_ble_eq_true rfl) ?_
  refine W.eq (g2 := F0 m 4 ls []) rfl ?_
  refine lv_aload_n hx hb dX5_init_4 rfl (lv_at hl 0 rfl) ?_
  refine lv_iconst (v := 3) hx hb dX5_init_5 (by decide) ?_
  refine c_newa (atype := .long) (ty := .long) (N' := 3) (a0 := (3, .inr (.inl (fun _ => 0)))) hx hb (hts _ (List.mem_cons_of_mem _ t_321)) rfl C 132 (fun _ => rfl) (by decide) (by decide) (by decide) (zo_l (by decide) rfl) (zz_l) (Nat.le_of_ble_eq_true rfl) (Nat.le_of_ble_eq_true rfl) dX5_init_6 (fun q_1 M L kd tys f H hq_1 hmo htn hty C => ?_)
  refine W.widen (k := 1) (n := 3) (Nat.le_of_ble_eq_true rfl) (Nat.le_of_ble_eq_true rfl) ?_
  refine c_putF (v := .ref q_1) (t := (2, 132, 132)) (CC := RX5) (T := TX5) (N := 9) hx hb hts (mc_ inX5) tyX5 tyX5_ok nmX5 hown C rfl 3 (by decide) rfl (hts _ (List.mem_cons_of_mem _ t_334)) (fun _ h9 => h9) rfl hin rfl rfl (okr hq_1 ⟨by decide, by decide⟩) rfl rfl (kn' := [(8, .int 0), (7, .int 0), (6, .int 0), (4, .int 0), (2, .int 0), (1, .null), (0, .null)]) rfl dX5_init_8 (fun fs H locs C => ?_)
  refine lv_aload_n hx hb dX5_init_11 rfl (lv_at hl 0 rfl) ?_
  refine lv_bipush (v := 8) hx hb dX5_init_12 (by decide) ?_
  refine c_newa (atype := .long) (ty := .long) (N' := 8) (a0 := (8, .inr (.inl (fun _ => 0)))) hx hb (hts _ (List.mem_cons_of_mem _ t_321)) rfl C 133 (fun _ => rfl) (by decide) (by decide) (by decide) (zo_l (by decide) rfl) (zz_l) (Nat.le_of_ble_eq_true rfl) (Nat.le_of_ble_eq_true rfl) dX5_init_14 (fun q_2 M L kd tys f H hq_2 hmo htn hty C => ?_)
  refine W.widen (k := 2) (n := 11) (Nat.le_of_ble_eq_true rfl) (Nat.le_of_ble_eq_true rfl) ?_
  refine c_putF (v := .ref q_2) (t := (2, 133, 133)) (CC := RX5) (T := TX5) (N := 9) hx hb hts (mc_ inX5) tyX5 tyX5_ok nmX5 hown C rfl 5 (by decide) rfl (hts _ (List.mem_cons_of_mem _ t_338)) (fun _ h9 => h9) rfl hin rfl rfl (okr hq_2 ⟨by decide, by decide⟩) rfl rfl (kn' := [(3, .ref q_1), (8, .int 0), (7, .int 0), (6, .int 0), (4, .int 0), (2, .int 0), (1, .null), (0, .null)]) rfl dX5_init_16 (fun fs H locs C => ?_)
  refine W.vret hx hb hr (fun t ht hW => ⟨⟨(), rfl, trivial, c_exit C (by decide) (by decide +kernel : ∀ j, j < (FS 5).length → j ∈ [5, 3, 8, 7, 6, 4, 2, 1, 0]) ht hW ?_⟩, C.2.2.2.1.F ht⟩) C.2.2.2.1.2.2 dX5_init_19 hlocks
  exact trivial

set_option maxHeartbeats 4000000 in
set_option maxRecDepth 100000 in
theorem k_X6_init (l : Launch) (dC : Nat → ClassId) (dI : Nat → Nat → Nat) (adK adV : Nat → Nat) (h0 : Nat) (kd0 : Nat → Nat) (sz : Nat) : Met l yX6_init (.code yX6_init cX6_init 1 none :: lw_g) ({ frames := 1, cells := 2, slots := 6, locals := 20 }) (va_Pc [.ref h0] (CPre (dC, dI) h0 (.inr (6, [.long 0, .int 0, .int 0, .int 0, .null, .null, .int 0, .int 0, .int 0, .int 0, .int 0, .int 0, .int 0])) [] adK adV sz)) (va_Qv (fun _ : Unit => True) (fun (_ : Unit) (t : State) => CP (dC, dI) [] kd0 6 h0 (.inr (6, [.long 0, .int 0, .int 0, .int 0, .null, .null, .int 0, .int 0, .int 0, .int 0, .int 0, .int 0, .int 0])) sz (fun (_ : List Nat) (_ : Nat → Nat) (_ : Nat → va_E) => True) t) (va_A [(h0, .inr (6, [.long 0, .int 0, .int 0, .int 0, .null, .null, .int 0, .int 0, .int 0, .int 0, .int 0, .int 0, .int 0]))] sz)) 2 6 (va_A [(h0, .inr (6, [.long 0, .int 0, .int 0, .int 0, .null, .null, .int 0, .int 0, .int 0, .int 0, .int 0, .int 0, .int 0]))] sz) := by
  refine Met.ofW (cc := cX6_init) (maxL := 1) (ret := none) (by decide) rfl ?_
  intro p e s m args below meth c s₁ B hml hv
  obtain ⟨rfl, hsz, hP, hK, hD0, hAm, hL0⟩ := hv
  have hx := B.exec
  have hb := B.bytes
  have hr := B.returns
  have hts := atoms_spec (ws := (.code yX6_init cX6_init 1 none :: lw_g)) B.pre
  have hown : s.vm.findClass RX6 = some m.cls := findClass_of_methodNamed B.named
  have hlocks := B.notSynchronized
  have hin : meth.name = "<init>" := (name_of_methodNamed B.named B.method).1
  subst hsz
  obtain ⟨M, L, kd, tys, f, C⟩ : ∃ (M L : List Nat) (kd : Nat → Nat) (tys : List (ClassId × FieldType)) (f : Nat → va_E), CI (dC, dI) s h0 (.inr (6, [.long 0, .int 0, .int 0, .int 0, .null, .null, .int 0, .int 0, .int 0, .int 0, .int 0, .int 0, .int 0])) [] kd0 6 [.long 0, .int 0, .int 0, .int 0, .null, .null, .int 0, .int 0, .int 0, .int 0, .int 0, .int 0, .int 0] [] [] [] M L kd tys f s.heap [] := ⟨_, _, _, _, _, CI.start hP hK rfl hL0⟩
  have hl := lv_entry ([.ref h0]) (n := 1) (Nat.le_of_ble_eq_true rfl)
  rw [lg_entry_eq]
  generalize (lg_sl ([.ref h0]) ++ List.replicate (1 - (lg_sl ([.ref h0])).length) Slot.unset).toArray = ls at hl ⊢
  have hl : lv_has ls 1 [(0, .ref h0)] := hl
  have C := C.pr 0 (.long 0) (t := (1, 0, 0)) rfl rfl (⟨_, rfl⟩)
  have C := C.pr 1 (.int 0) (t := (0, (-2147483648), 2147483647)) rfl rfl (⟨_, rfl, by decide, by decide⟩)
  have C := C.pr 2 (.int 0) (t := (0, (-2147483648), 2147483647)) rfl rfl (⟨_, rfl, by decide, by decide⟩)
  have C := C.pr 3 (.int 0) (t := (0, 0, 3)) rfl rfl (⟨_, rfl, by decide, by decide⟩)
  have C := C.pr 6 (.int 0) (t := (0, 0, 1)) rfl rfl (⟨_, rfl, by decide, by decide⟩)
  have C := C.pr 7 (.int 0) (t := (0, (-1), 95)) rfl rfl (⟨_, rfl, by decide, by decide⟩)
  have C := C.pr 8 (.int 0) (t := (0, (-2147483648), 2147483647)) rfl rfl (⟨_, rfl, by decide, by decide⟩)
  have C := C.pr 9 (.int 0) (t := (0, 0, 420)) rfl rfl (⟨_, rfl, by decide, by decide⟩)
  have C := C.pr 10 (.int 0) (t := (0, (-2147483648), 2147483647)) rfl rfl (⟨_, rfl, by decide, by decide⟩)
  have C := C.pr 11 (.int 0) (t := (0, 0, 500)) rfl rfl (⟨_, rfl, by decide, by decide⟩)
  have C := C.pr 12 (.int 0) (t := (0, 0, 9)) rfl rfl (⟨_, rfl, by decide, by decide⟩)
  refine lv_aload_n hx hb dX6_init_0 rfl (lv_at hl 0 rfl) ?_
  refine W.objInit hx hb hown (hts _ (List.mem_cons_of_mem _ t_554)) (hts _ (List.mem_cons_of_mem _ t_213)) (hts _ (List.mem_cons_of_mem _ t_214)) rfl (by rw [hml]; exact hl.1) rfl dX6_init_1 (Nat.le_of_ble_eq_true rfl) (Nat.le_of_ble_eq_true rfl) ?_
  refine W.eq (g2 := F0 m 4 ls []) rfl ?_
  refine lv_aload_n hx hb dX6_init_4 rfl (lv_at hl 0 rfl) ?_
  refine lv_iconst (v := 3) hx hb dX6_init_5 (by decide) ?_
  refine c_newa (atype := .int) (ty := .int) (N' := 3) (a0 := (3, .inl (fun _ => 0))) hx hb (hts _ (List.mem_cons_of_mem _ t_320)) rfl C 134 (fun _ => rfl) (by decide) (by decide) (by decide) (zo_i (by decide) rfl ⟨by decide, by decide⟩) (zz_i) (Nat.le_of_ble_eq_true rfl) (Nat.le_of_ble_eq_true rfl) dX6_init_6 (fun q_1 M L kd tys f H hq_1 hmo htn hty C => ?_)
  refine W.widen (k := 1) (n := 3) (Nat.le_of_ble_eq_true rfl) (Nat.le_of_ble_eq_true rfl) ?_
  refine c_putF (v := .ref q_1) (t := (2, 134, 134)) (CC := RX6) (T := TX6) (N := 13) hx hb hts (mc_ inX6) tyX6 tyX6_ok nmX6 hown C rfl 4 (by decide) rfl (hts _ (List.mem_cons_of_mem _ t_569)) (fun _ h9 => h9) rfl hin rfl rfl (okr hq_1 ⟨by decide, by decide⟩) rfl rfl (kn' := [(12, .int 0), (11, .int 0), (10, .int 0), (9, .int 0), (8, .int 0), (7, .int 0), (6, .int 0), (3, .int 0), (2, .int 0), (1, .int 0), (0, .long 0)]) rfl dX6_init_8 (fun fs H locs C => ?_)
  refine lv_aload_n hx hb dX6_init_11 rfl (lv_at hl 0 rfl) ?_
  refine lv_iconst (v := 3) hx hb dX6_init_12 (by decide) ?_
  refine c_newa (atype := .int) (ty := .int) (N' := 3) (a0 := (3, .inl (fun _ => 0))) hx hb (hts _ (List.mem_cons_of_mem _ t_320)) rfl C 135 (fun _ => rfl) (by decide) (by decide) (by decide) (zo_i (by decide) rfl ⟨by decide, by decide⟩) (zz_i) (Nat.le_of_ble_eq_true rfl) (Nat.le_of_ble_eq_true rfl) dX6_init_13 (fun q_2 M L kd tys f H hq_2 hmo htn hty C => ?_)
  refine W.widen (k := 2) (n := 6) (Nat.le_of_ble_eq_true rfl) (Nat.le_of_ble_eq_true rfl) ?_
  refine c_putF (v := .ref q_2) (t := (2, 135, 135)) (CC := RX6) (T := TX6) (N := 13) hx hb hts (mc_ inX6) tyX6 tyX6_ok nmX6 hown C rfl 5 (by decide) rfl (hts _ (List.mem_cons_of_mem _ t_573)) (fun _ h9 => h9) rfl hin rfl rfl (okr hq_2 ⟨by decide, by decide⟩) rfl rfl (kn' := [(4, .ref q_1), (12, .int 0), (11, .int 0), (10, .int 0), (9, .int 0), (8, .int 0), (7, .int 0), (6, .int 0), (3, .int 0), (2, .int 0), (1, .int 0), (0, .long 0)]) rfl dX6_init_15 (fun fs H locs C => ?_)
  refine W.vret hx hb hr (fun t ht hW => ⟨⟨(), rfl, trivial, c_exit C (by decide) (by decide +kernel : ∀ j, j < (FS 6).length → j ∈ [5, 4, 12, 11, 10, 9, 8, 7, 6, 3, 2, 1, 0]) ht hW ?_⟩, C.2.2.2.1.F ht⟩) C.2.2.2.1.2.2 dX6_init_18 hlocks
  exact trivial

set_option maxHeartbeats 4000000 in
set_option maxRecDepth 100000 in
theorem k_X9_init (l : Launch) (dC : Nat → ClassId) (dI : Nat → Nat → Nat) (adK adV : Nat → Nat) (h0 : Nat) (kd0 : Nat → Nat) (sz : Nat) : Met l yX9_init (.code yX9_init cX9_init 1 none :: lw_g) ({ frames := 1, cells := 5, slots := 52, locals := 20 }) (va_Pc [.ref h0] (CPre (dC, dI) h0 (.inr (9, [.long 0, .int 0, .int 0, .null, .null, .null, .null, .int 0, .int 0, .null, .int 0, .int 0, .int 0])) [] adK adV sz)) (va_Qv (fun _ : Unit => True) (fun (_ : Unit) (t : State) => CP (dC, dI) [] kd0 9 h0 (.inr (9, [.long 0, .int 0, .int 0, .null, .null, .null, .null, .int 0, .int 0, .null, .int 0, .int 0, .int 0])) sz (fun (_ : List Nat) (_ : Nat → Nat) (_ : Nat → va_E) => True) t) (va_A [(h0, .inr (9, [.long 0, .int 0, .int 0, .null, .null, .null, .null, .int 0, .int 0, .null, .int 0, .int 0, .int 0]))] sz)) 5 52 (va_A [(h0, .inr (9, [.long 0, .int 0, .int 0, .null, .null, .null, .null, .int 0, .int 0, .null, .int 0, .int 0, .int 0]))] sz) := by
  refine Met.ofW (cc := cX9_init) (maxL := 1) (ret := none) (by decide) rfl ?_
  intro p e s m args below meth c s₁ B hml hv
  obtain ⟨rfl, hsz, hP, hK, hD0, hAm, hL0⟩ := hv
  have hx := B.exec
  have hb := B.bytes
  have hr := B.returns
  have hts := atoms_spec (ws := (.code yX9_init cX9_init 1 none :: lw_g)) B.pre
  have hown : s.vm.findClass RX9 = some m.cls := findClass_of_methodNamed B.named
  have hlocks := B.notSynchronized
  have hin : meth.name = "<init>" := (name_of_methodNamed B.named B.method).1
  subst hsz
  obtain ⟨M, L, kd, tys, f, C⟩ : ∃ (M L : List Nat) (kd : Nat → Nat) (tys : List (ClassId × FieldType)) (f : Nat → va_E), CI (dC, dI) s h0 (.inr (9, [.long 0, .int 0, .int 0, .null, .null, .null, .null, .int 0, .int 0, .null, .int 0, .int 0, .int 0])) [] kd0 9 [.long 0, .int 0, .int 0, .null, .null, .null, .null, .int 0, .int 0, .null, .int 0, .int 0, .int 0] [] [] [] M L kd tys f s.heap [] := ⟨_, _, _, _, _, CI.start hP hK rfl hL0⟩
  have hl := lv_entry ([.ref h0]) (n := 1) (Nat.le_of_ble_eq_true rfl)
  rw [lg_entry_eq]
  generalize (lg_sl ([.ref h0]) ++ List.replicate (1 - (lg_sl ([.ref h0])).length) Slot.unset).toArray = ls at hl ⊢
  have hl : lv_has ls 1 [(0, .ref h0)] := hl
  have C := C.pr 0 (.long 0) (t := (1, 0, 0)) rfl rfl (⟨_, rfl⟩)
  have C := C.pr 1 (.int 0) (t := (0, (-2147483648), 2147483647)) rfl rfl (⟨_, rfl, by decide, by decide⟩)
  have C := C.pr 2 (.int 0) (t := (0, 0, 10)) rfl rfl (⟨_, rfl, by decide, by decide⟩)
  have C := C.pr 7 (.int 0) (t := (0, 0, 24)) rfl rfl (⟨_, rfl, by decide, by decide⟩)
  have C := C.pr 8 (.int 0) (t := (0, 0, 12)) rfl rfl (⟨_, rfl, by decide, by decide⟩)
  have C := C.pr 10 (.int 0) (t := (0, 0, 500)) rfl rfl (⟨_, rfl, by decide, by decide⟩)
  have C := C.pr 11 (.int 0) (t := (0, (-2147483648), 2147483647)) rfl rfl (⟨_, rfl, by decide, by decide⟩)
  have C := C.pr 12 (.int 0) (t := (0, (-2147483648), 2147483647)) rfl rfl (⟨_, rfl, by decide, by decide⟩)
  refine lv_aload_n hx hb dX9_init_0 rfl (lv_at hl 0 rfl) ?_
  refine W.objInit hx hb hown (hts _ (List.mem_cons_of_mem _ t_477)) (hts _ (List.mem_cons_of_mem _ t_213)) (hts _ (List.mem_cons_of_mem _ t_214)) rfl (by rw [hml]; exact hl.1) rfl dX9_init_1 (Nat.le_of_ble_eq_true rfl) (Nat.le_of_ble_eq_true rfl) ?_
  refine W.eq (g2 := F0 m 4 ls []) rfl ?_
  refine lv_aload_n hx hb dX9_init_4 rfl (lv_at hl 0 rfl) ?_
  refine lv_bipush (v := 10) hx hb dX9_init_5 (by decide) ?_
  refine c_newa (atype := .long) (ty := .long) (N' := 10) (a0 := (10, .inr (.inl (fun _ => 0)))) hx hb (hts _ (List.mem_cons_of_mem _ t_321)) rfl C 152 (fun _ => rfl) (by decide) (by decide) (by decide) (zo_l (by decide) rfl) (zz_l) (Nat.le_of_ble_eq_true rfl) (Nat.le_of_ble_eq_true rfl) dX9_init_7 (fun q_1 M L kd tys f H hq_1 hmo htn hty C => ?_)
  refine W.widen (k := 1) (n := 10) (Nat.le_of_ble_eq_true rfl) (Nat.le_of_ble_eq_true rfl) ?_
  refine c_putF (v := .ref q_1) (t := (2, 152, 152)) (CC := RX9) (T := TX9) (N := 13) hx hb hts (mc_ inX9) tyX9 tyX9_ok nmX9 hown C rfl 3 (by decide) rfl (hts _ (List.mem_cons_of_mem _ t_488)) (fun _ h9 => h9) rfl hin rfl rfl (okr hq_1 ⟨by decide, by decide⟩) rfl rfl (kn' := [(12, .int 0), (11, .int 0), (10, .int 0), (8, .int 0), (7, .int 0), (2, .int 0), (1, .int 0), (0, .long 0)]) rfl dX9_init_9 (fun fs H locs C => ?_)
  refine lv_aload_n hx hb dX9_init_12 rfl (lv_at hl 0 rfl) ?_
  refine lv_bipush (v := 10) hx hb dX9_init_13 (by decide) ?_
  refine c_newa (atype := .int) (ty := .int) (N' := 10) (a0 := (10, .inl (fun _ => 0))) hx hb (hts _ (List.mem_cons_of_mem _ t_320)) rfl C 153 (fun _ => rfl) (by decide) (by decide) (by decide) (zo_i (by decide) rfl ⟨by decide, by decide⟩) (zz_i) (Nat.le_of_ble_eq_true rfl) (Nat.le_of_ble_eq_true rfl) dX9_init_15 (fun q_2 M L kd tys f H hq_2 hmo htn hty C => ?_)
  refine W.widen (k := 2) (n := 20) (Nat.le_of_ble_eq_true rfl) (Nat.le_of_ble_eq_true rfl) ?_
  refine c_putF (v := .ref q_2) (t := (2, 153, 153)) (CC := RX9) (T := TX9) (N := 13) hx hb hts (mc_ inX9) tyX9 tyX9_ok nmX9 hown C rfl 4 (by decide) rfl (hts _ (List.mem_cons_of_mem _ t_489)) (fun _ h9 => h9) rfl hin rfl rfl (okr hq_2 ⟨by decide, by decide⟩) rfl rfl (kn' := [(3, .ref q_1), (12, .int 0), (11, .int 0), (10, .int 0), (8, .int 0), (7, .int 0), (2, .int 0), (1, .int 0), (0, .long 0)]) rfl dX9_init_17 (fun fs H locs C => ?_)
  refine lv_aload_n hx hb dX9_init_20 rfl (lv_at hl 0 rfl) ?_
  refine lv_bipush (v := 10) hx hb dX9_init_21 (by decide) ?_
  refine c_newa (atype := .int) (ty := .int) (N' := 10) (a0 := (10, .inl (fun _ => 0))) hx hb (hts _ (List.mem_cons_of_mem _ t_320)) rfl C 154 (fun _ => rfl) (by decide) (by decide) (by decide) (zo_i (by decide) rfl ⟨by decide, by decide⟩) (zz_i) (Nat.le_of_ble_eq_true rfl) (Nat.le_of_ble_eq_true rfl) dX9_init_23 (fun q_3 M L kd tys f H hq_3 hmo htn hty C => ?_)
  refine W.widen (k := 3) (n := 30) (Nat.le_of_ble_eq_true rfl) (Nat.le_of_ble_eq_true rfl) ?_
  refine c_putF (v := .ref q_3) (t := (2, 154, 154)) (CC := RX9) (T := TX9) (N := 13) hx hb hts (mc_ inX9) tyX9 tyX9_ok nmX9 hown C rfl 5 (by decide) rfl (hts _ (List.mem_cons_of_mem _ t_490)) (fun _ h9 => h9) rfl hin rfl rfl (okr hq_3 ⟨by decide, by decide⟩) rfl rfl (kn' := [(4, .ref q_2), (3, .ref q_1), (12, .int 0), (11, .int 0), (10, .int 0), (8, .int 0), (7, .int 0), (2, .int 0), (1, .int 0), (0, .long 0)]) rfl dX9_init_25 (fun fs H locs C => ?_)
  refine lv_aload_n hx hb dX9_init_28 rfl (lv_at hl 0 rfl) ?_
  refine lv_bipush (v := 10) hx hb dX9_init_29 (by decide) ?_
  refine c_newa (atype := .int) (ty := .int) (N' := 10) (a0 := (10, .inl (fun _ => 0))) hx hb (hts _ (List.mem_cons_of_mem _ t_320)) rfl C 155 (fun _ => rfl) (by decide) (by decide) (by decide) (zo_i (by decide) rfl ⟨by decide, by decide⟩) (zz_i) (Nat.le_of_ble_eq_true rfl) (Nat.le_of_ble_eq_true rfl) dX9_init_31 (fun q_4 M L kd tys f H hq_4 hmo htn hty C => ?_)
  refine W.widen (k := 4) (n := 40) (Nat.le_of_ble_eq_true rfl) (Nat.le_of_ble_eq_true rfl) ?_
  refine c_putF (v := .ref q_4) (t := (2, 155, 155)) (CC := RX9) (T := TX9) (N := 13) hx hb hts (mc_ inX9) tyX9 tyX9_ok nmX9 hown C rfl 6 (by decide) rfl (hts _ (List.mem_cons_of_mem _ t_492)) (fun _ h9 => h9) rfl hin rfl rfl (okr hq_4 ⟨by decide, by decide⟩) rfl rfl (kn' := [(5, .ref q_3), (4, .ref q_2), (3, .ref q_1), (12, .int 0), (11, .int 0), (10, .int 0), (8, .int 0), (7, .int 0), (2, .int 0), (1, .int 0), (0, .long 0)]) rfl dX9_init_33 (fun fs H locs C => ?_)
  refine lv_aload_n hx hb dX9_init_36 rfl (lv_at hl 0 rfl) ?_
  refine lv_bipush (v := 12) hx hb dX9_init_37 (by decide) ?_
  refine c_newa (atype := .int) (ty := .int) (N' := 12) (a0 := (12, .inl (fun _ => 0))) hx hb (hts _ (List.mem_cons_of_mem _ t_320)) rfl C 156 (fun _ => rfl) (by decide) (by decide) (by decide) (zo_i (by decide) rfl ⟨by decide, by decide⟩) (zz_i) (Nat.le_of_ble_eq_true rfl) (Nat.le_of_ble_eq_true rfl) dX9_init_39 (fun q_5 M L kd tys f H hq_5 hmo htn hty C => ?_)
  refine W.widen (k := 5) (n := 52) (Nat.le_of_ble_eq_true rfl) (Nat.le_of_ble_eq_true rfl) ?_
  refine c_putF (v := .ref q_5) (t := (2, 156, 156)) (CC := RX9) (T := TX9) (N := 13) hx hb hts (mc_ inX9) tyX9 tyX9_ok nmX9 hown C rfl 9 (by decide) rfl (hts _ (List.mem_cons_of_mem _ t_503)) (fun _ h9 => h9) rfl hin rfl rfl (okr hq_5 ⟨by decide, by decide⟩) rfl rfl (kn' := [(6, .ref q_4), (5, .ref q_3), (4, .ref q_2), (3, .ref q_1), (12, .int 0), (11, .int 0), (10, .int 0), (8, .int 0), (7, .int 0), (2, .int 0), (1, .int 0), (0, .long 0)]) rfl dX9_init_41 (fun fs H locs C => ?_)
  refine W.vret hx hb hr (fun t ht hW => ⟨⟨(), rfl, trivial, c_exit C (by decide) (by decide +kernel : ∀ j, j < (FS 9).length → j ∈ [9, 6, 5, 4, 3, 12, 11, 10, 8, 7, 2, 1, 0]) ht hW ?_⟩, C.2.2.2.1.F ht⟩) C.2.2.2.1.2.2 dX9_init_44 hlocks
  exact trivial

set_option maxHeartbeats 4000000 in
set_option maxRecDepth 100000 in
theorem k_X8_init (l : Launch) (dC : Nat → ClassId) (dI : Nat → Nat → Nat) (adK adV : Nat → Nat) (h0 : Nat) (kd0 : Nat → Nat) (sz : Nat) : Met l yX8_init (.code yX8_init cX8_init 2 none :: lw_g) ({ frames := 5, cells := 5, slots := 3627, locals := 112 }) (va_Pc [.ref h0] (CPre (dC, dI) h0 (.inr (8, [.null, .null, .null, .null, .null, .int 0, .int 0, .int 0, .int 0, .int 0])) [] adK adV sz)) (va_Qv (fun _ : Unit => True) (fun (_ : Unit) (t : State) => CP (dC, dI) [] kd0 8 h0 (.inr (8, [.null, .null, .null, .null, .null, .int 0, .int 0, .int 0, .int 0, .int 0])) sz (fun (_ : List Nat) (_ : Nat → Nat) (_ : Nat → va_E) => True) t) (va_A [(h0, .inr (8, [.null, .null, .null, .null, .null, .int 0, .int 0, .int 0, .int 0, .int 0]))] sz)) 5 3627 (va_A [(h0, .inr (8, [.null, .null, .null, .null, .null, .int 0, .int 0, .int 0, .int 0, .int 0]))] sz) := by
  refine Met.ofW (cc := cX8_init) (maxL := 2) (ret := none) (by decide) rfl ?_
  intro p e s m args below meth c s₁ B hml hv
  obtain ⟨rfl, hsz, hP, hK, hD0, hAm, hL0⟩ := hv
  have hx := B.exec
  have hb := B.bytes
  have hr := B.returns
  have hts := atoms_spec (ws := (.code yX8_init cX8_init 2 none :: lw_g)) B.pre
  have hown : s.vm.findClass RX8 = some m.cls := findClass_of_methodNamed B.named
  have hlocks := B.notSynchronized
  have hin : meth.name = "<init>" := (name_of_methodNamed B.named B.method).1
  subst hsz
  obtain ⟨M, L, kd, tys, f, C⟩ : ∃ (M L : List Nat) (kd : Nat → Nat) (tys : List (ClassId × FieldType)) (f : Nat → va_E), CI (dC, dI) s h0 (.inr (8, [.null, .null, .null, .null, .null, .int 0, .int 0, .int 0, .int 0, .int 0])) [] kd0 8 [.null, .null, .null, .null, .null, .int 0, .int 0, .int 0, .int 0, .int 0] [] [] [] M L kd tys f s.heap [] := ⟨_, _, _, _, _, CI.start hP hK rfl hL0⟩
  have hl := lv_entry ([.ref h0]) (n := 2) (Nat.le_of_ble_eq_true rfl)
  rw [lg_entry_eq]
  generalize (lg_sl ([.ref h0]) ++ List.replicate (2 - (lg_sl ([.ref h0])).length) Slot.unset).toArray = ls at hl ⊢
  have hl : lv_has ls 2 [(0, .ref h0)] := hl
  have C := C.pr 5 (.int 0) (t := (0, 0, 4000)) rfl rfl (⟨_, rfl, by decide, by decide⟩)
  have C := C.pr 6 (.int 0) (t := (0, 0, 1201)) rfl rfl (⟨_, rfl, by decide, by decide⟩)
  have C := C.pr 7 (.int 0) (t := (0, 0, 1)) rfl rfl (⟨_, rfl, by decide, by decide⟩)
  have C := C.pr 8 (.int 0) (t := (0, 0, 7)) rfl rfl (⟨_, rfl, by decide, by decide⟩)
  have C := C.pr 9 (.int 0) (t := (0, (-2147483648), 2147483647)) rfl rfl (⟨_, rfl, by decide, by decide⟩)
  refine lv_aload_n hx hb dX8_init_0 rfl (lv_at hl 0 rfl) ?_
  refine W.objInit hx hb hown (hts _ (List.mem_cons_of_mem _ t_226)) (hts _ (List.mem_cons_of_mem _ t_213)) (hts _ (List.mem_cons_of_mem _ t_214)) rfl (by rw [hml]; exact hl.1) rfl dX8_init_1 (Nat.le_of_ble_eq_true rfl) (Nat.le_of_ble_eq_true rfl) ?_
  refine W.eq (g2 := F0 m 4 ls []) rfl ?_
  refine lv_aload_n hx hb dX8_init_4 rfl (lv_at hl 0 rfl) ?_
  refine lv_sipush (v := 1202) hx hb dX8_init_5 (by decide) ?_
  refine c_newa (atype := .int) (ty := .int) (N' := 1202) (a0 := (1202, .inl (fun _ => 0))) hx hb (hts _ (List.mem_cons_of_mem _ t_320)) rfl C 148 (fun _ => rfl) (by decide) (by decide) (by decide) (zo_k (by decide) rfl ⟨by decide, by decide⟩) (zz_i) (Nat.le_of_ble_eq_true rfl) (Nat.le_of_ble_eq_true rfl) dX8_init_8 (fun q_1 M L kd tys f H hq_1 hmo htn hty C => ?_)
  refine W.widen (k := 1) (n := 1202) (Nat.le_of_ble_eq_true rfl) (Nat.le_of_ble_eq_true rfl) ?_
  refine c_putF (v := .ref q_1) (t := (2, 148, 148)) (CC := RX8) (T := TX8) (N := 10) hx hb hts (mc_ inX8) tyX8 tyX8_ok nmX8 hown C rfl 0 (by decide) rfl (hts _ (List.mem_cons_of_mem _ t_285)) (fun _ h9 => h9) rfl hin rfl rfl (okr hq_1 ⟨by decide, by decide⟩) rfl rfl (kn' := [(9, .int 0), (8, .int 0), (7, .int 0), (6, .int 0), (5, .int 0)]) rfl dX8_init_10 (fun fs H locs C => ?_)
  refine lv_aload_n hx hb dX8_init_13 rfl (lv_at hl 0 rfl) ?_
  refine lv_sipush (v := 1202) hx hb dX8_init_14 (by decide) ?_
  refine c_newa (atype := .int) (ty := .int) (N' := 1202) (a0 := (1202, .inl (fun _ => 0))) hx hb (hts _ (List.mem_cons_of_mem _ t_320)) rfl C 149 (fun _ => rfl) (by decide) (by decide) (by decide) (zo_i (by decide) rfl ⟨by decide, by decide⟩) (zz_i) (Nat.le_of_ble_eq_true rfl) (Nat.le_of_ble_eq_true rfl) dX8_init_17 (fun q_2 M L kd tys f H hq_2 hmo htn hty C => ?_)
  refine W.widen (k := 2) (n := 2404) (Nat.le_of_ble_eq_true rfl) (Nat.le_of_ble_eq_true rfl) ?_
  refine c_putF (v := .ref q_2) (t := (2, 149, 149)) (CC := RX8) (T := TX8) (N := 10) hx hb hts (mc_ inX8) tyX8 tyX8_ok nmX8 hown C rfl 1 (by decide) rfl (hts _ (List.mem_cons_of_mem _ t_286)) (fun _ h9 => h9) rfl hin rfl rfl (okr hq_2 ⟨by decide, by decide⟩) rfl rfl (kn' := [(0, .ref q_1), (9, .int 0), (8, .int 0), (7, .int 0), (6, .int 0), (5, .int 0)]) rfl dX8_init_19 (fun fs H locs C => ?_)
  refine lv_aload_n hx hb dX8_init_22 rfl (lv_at hl 0 rfl) ?_
  refine lv_sipush (v := 1202) hx hb dX8_init_23 (by decide) ?_
  refine c_newa (atype := .long) (ty := .long) (N' := 1202) (a0 := (1202, .inr (.inl (fun _ => 0)))) hx hb (hts _ (List.mem_cons_of_mem _ t_321)) rfl C 150 (fun _ => rfl) (by decide) (by decide) (by decide) (zo_l (by decide) rfl) (zz_l) (Nat.le_of_ble_eq_true rfl) (Nat.le_of_ble_eq_true rfl) dX8_init_26 (fun q_3 M L kd tys f H hq_3 hmo htn hty C => ?_)
  refine W.widen (k := 3) (n := 3606) (Nat.le_of_ble_eq_true rfl) (Nat.le_of_ble_eq_true rfl) ?_
  refine c_putF (v := .ref q_3) (t := (2, 150, 150)) (CC := RX8) (T := TX8) (N := 10) hx hb hts (mc_ inX8) tyX8 tyX8_ok nmX8 hown C rfl 2 (by decide) rfl (hts _ (List.mem_cons_of_mem _ t_287)) (fun _ h9 => h9) rfl hin rfl rfl (okr hq_3 ⟨by decide, by decide⟩) rfl rfl (kn' := [(1, .ref q_2), (0, .ref q_1), (9, .int 0), (8, .int 0), (7, .int 0), (6, .int 0), (5, .int 0)]) rfl dX8_init_28 (fun fs H locs C => ?_)
  refine lv_aload_n hx hb dX8_init_31 rfl (lv_at hl 0 rfl) ?_
  refine lv_bipush (v := 21) hx hb dX8_init_32 (by decide) ?_
  refine c_newx (atype := .long) (ty := .long) (N' := 21) (a0 := (21, .inr (.inl (fun _ => 0)))) hx hb (hts _ (List.mem_cons_of_mem _ t_321)) rfl C 151 (fun _ => rfl) (by decide) (by decide) (by decide) (Nat.le_of_ble_eq_true rfl) (Nat.le_of_ble_eq_true rfl) dX8_init_34 (fun q_4 k_5 M kd tys H hq_4 hmo hty_q_4 C => ?_)
  refine W.widen (k := 4) (n := 3627) (Nat.le_of_ble_eq_true rfl) (Nat.le_of_ble_eq_true rfl) ?_
  refine c_putF (v := .ref q_4) (t := (2, 151, 151)) (CC := RX8) (T := TX8) (N := 10) hx hb hts (mc_ inX8) tyX8 tyX8_ok nmX8 hown C rfl 3 (by decide) rfl (hts _ (List.mem_cons_of_mem _ t_288)) (fun _ h9 => h9) rfl hin rfl rfl (okr hq_4 ⟨by decide, by decide⟩) rfl rfl (kn' := [(2, .ref q_3), (1, .ref q_2), (0, .ref q_1), (9, .int 0), (8, .int 0), (7, .int 0), (6, .int 0), (5, .int 0)]) rfl dX8_init_36 (fun fs H locs C => ?_)
  refine lv_aload_n hx hb dX8_init_39 rfl (lv_at hl 0 rfl) ?_
  refine lv_iconst (v := 0) hx hb dX8_init_40 (by decide) ?_
  refine c_newa (atype := .byte) (ty := .byte) (N' := 0) (a0 := (0, .inl (fun _ => 0))) hx hb (hts _ (List.mem_cons_of_mem _ t_319)) rfl C 105 (fun _ => rfl) (by decide) (by decide) (by decide) (zo_b (by decide) rfl ⟨by decide, by decide⟩) (zz_i) (Nat.le_of_ble_eq_true rfl) (Nat.le_of_ble_eq_true rfl) dX8_init_41 (fun q_6 M L kd tys f H hq_6 hmo htn hty C => ?_)
  have hty_q_4 := htn _ hty_q_4
  refine W.widen (k := 5) (n := 3627) (Nat.le_of_ble_eq_true rfl) (Nat.le_of_ble_eq_true rfl) ?_
  refine c_put (v := .ref q_6) (t := (2, 104, 105)) (CC := RX8) (T := TX8) (N := 10) hx hb hts (mc_ inX8) tyX8 tyX8_ok nmX8 hown C rfl 4 (by decide) rfl (hts _ (List.mem_cons_of_mem _ t_289)) (fun _ h9 => h9) rfl rfl (okr hq_6 ⟨by decide, by decide⟩) rfl rfl (kn' := [(3, .ref q_4), (2, .ref q_3), (1, .ref q_2), (0, .ref q_1), (9, .int 0), (8, .int 0), (7, .int 0), (6, .int 0), (5, .int 0)]) rfl dX8_init_43 (fun fs H locs C => ?_)
  refine lv_aload_n hx hb dX8_init_46 rfl (lv_at hl 0 rfl) ?_
  refine lv_iconst (v := (-1)) hx hb dX8_init_47 (by decide) ?_
  refine c_put (v := .int (-1)) (t := (0, (-2147483648), 2147483647)) (CC := RX8) (T := TX8) (N := 10) hx hb hts (mc_ inX8) tyX8 tyX8_ok nmX8 hown C rfl 9 (by decide) rfl (hts _ (List.mem_cons_of_mem _ t_296)) (fun _ h9 => h9) rfl rfl (⟨_, rfl, by decide, by decide⟩) rfl rfl (kn' := [(4, .ref q_6), (3, .ref q_4), (2, .ref q_3), (1, .ref q_2), (0, .ref q_1), (8, .int 0), (7, .int 0), (6, .int 0), (5, .int 0)]) rfl dX8_init_48 (fun fs H locs C => ?_)
  refine lv_aload_n hx hb dX8_init_51 rfl (lv_at hl 0 rfl) ?_
  refine va_ldcS hx hb hown hAm.2.1.1 dX8_init_52 ?_
  refine lv_iconst (v := 0) hx hb dX8_init_54 (by decide) ?_
  have hfs : fs = [.ref q_1, .ref q_2, .ref q_3, .ref q_4, .ref q_6, .int 0, .int 0, .int 0, .int 0, .int (-1)] := fs_lit (by rw [C.2.2.2.2.2.2.2.1]; rfl) (fun j hj => match j, hj with | 0, _ => C.kv 5 rfl | 1, _ => C.kv 4 rfl | 2, _ => C.kv 3 rfl | 3, _ => C.kv 2 rfl | 4, _ => C.kv 1 rfl | 5, _ => C.kv 9 rfl | 6, _ => C.kv 8 rfl | 7, _ => C.kv 7 rfl | 8, _ => C.kv 6 rfl | 9, _ => C.kv 0 rfl | n + 10, h9 => absurd h9 (by show ¬ n + 10 < 10; omega))
  subst hfs
  obtain ⟨hPc, hDc, hFc, hAc⟩ := c_two C hAm
  have hKc := c_one C.1 hty_q_4
  refine va_calli (va_runV (As := [.ref (adK 0), .int 0]) (rest := []) ⟨hx, hb, hml, hown, hts⟩ (c_X8_packWords_0 l dC dI adK adV h0 q_1 q_2 q_3 q_4 q_6 k_5 (fun _ => 0) 0 (by omega) H.size) (cwV 2 hts (gV_ t_228 t_230 t_0 t_184 t_231) rfl rfl rfl (by decide +kernel) ⟨(Nat.le_of_ble_eq_true rfl), (Nat.le_of_ble_eq_true rfl)⟩) ⟨fun a U g mk q => by obtain ⟨q0, q1, qP, qK, qD, qM⟩ := q; exact ⟨q0, q1, qP, va_K.moved (u := U) (U := U.calling g mk a) (Vm.Alike.refl U.vm) qK, qD, am_.same (U := U.calling g mk a) rfl qM⟩, va_recv C.1 hPc (ci := 8) (q0 := 0) rfl rfl, fun U hU hW => ⟨rfl, by rw [hU], by rw [hU]; exact hPc, va_K.moved hW.alike hKc, hDc.weaken (fun _ _ _ _ => trivial), by rw [hU]; exact hAc U hU hW⟩⟩ rfl rfl hl.1 rfl (lv_room (Nat.le_of_ble_eq_true rfl)) dX8_init_55 ⟨(Nat.le_of_ble_eq_true rfl), (Nat.le_of_ble_eq_true rfl)⟩) C.2.2.2.1 (fun q _ h => hFc q h) hFc (fun r7 u_ t H1 locs ht hvm hw hB hz1 hk1 hS => ?_)
  obtain ⟨g7, hP1, hK1, hD1⟩ := hB
  rw [ht] at hP1
  have C := c_two' C hk1 hP1 hS
  generalize H1 = H at C ⊢
  obtain ⟨b7, rfl, hb7⟩ := hw
  have hr7 : b7 ≤ 21 := hb7
  refine W.widen (k := 5) (n := 3627) (Nat.le_of_ble_eq_true rfl) (Nat.le_of_ble_eq_true rfl) ?_
  refine lv_istore_n (lv' := [(1, .int (nI b7)), (0, .ref h0)]) hx hb dX8_init_58 rfl hl (by decide) rfl (fun ls hl => ?_)
  refine lv_aload_n hx hb dX8_init_59 rfl (lv_at hl 1 rfl) ?_
  refine va_ldcS hx hb hown hAm.2.1.2 dX8_init_60 ?_
  refine lv_iload_n hx hb dX8_init_62 rfl (lv_at hl 0 rfl) ?_
  obtain ⟨hPc, hDc, hFc, hAc⟩ := c_two C hAm
  have hKc := c_one C.1 hty_q_4
  refine va_calli (va_runV (As := [.ref (adK 1), .int (nI b7)]) (rest := []) ⟨hx, hb, hml, hown, hts⟩ (c_X8_packWords_1 l dC dI adK adV h0 q_1 q_2 q_3 q_4 q_6 k_5 g7 b7 hb7 H.size) (cwV 2 hts (gV_ t_228 t_230 t_0 t_184 t_231) rfl rfl rfl (by decide +kernel) ⟨(Nat.le_of_ble_eq_true rfl), (Nat.le_of_ble_eq_true rfl)⟩) ⟨fun a U g mk q => by obtain ⟨q0, q1, qP, qK, qD, qM⟩ := q; exact ⟨q0, q1, qP, va_K.moved (u := U) (U := U.calling g mk a) (Vm.Alike.refl U.vm) qK, qD, am_.same (U := U.calling g mk a) rfl qM⟩, va_recv C.1 hPc (ci := 8) (q0 := 0) rfl rfl, fun U hU hW => ⟨rfl, by rw [hU], by rw [hU]; exact hPc, va_K.moved hW.alike hKc, hDc.weaken (fun _ _ _ _ => trivial), by rw [hU]; exact hAc U hU hW⟩⟩ rfl rfl hl.1 rfl (lv_room (Nat.le_of_ble_eq_true rfl)) dX8_init_63 ⟨(Nat.le_of_ble_eq_true rfl), (Nat.le_of_ble_eq_true rfl)⟩) C.2.2.2.1 (fun q _ h => hFc q h) hFc (fun r8 u_ t H1 locs ht hvm hw hB hz1 hk1 hS => ?_)
  obtain ⟨g8, hP1, hK1, hD1⟩ := hB
  rw [ht] at hP1
  have C := c_two' C hk1 hP1 hS
  generalize H1 = H at C ⊢
  obtain ⟨b8, rfl, hb8⟩ := hw
  have hr8 : b8 ≤ 21 := hb8
  refine W.widen (k := 5) (n := 3627) (Nat.le_of_ble_eq_true rfl) (Nat.le_of_ble_eq_true rfl) ?_
  refine lv_pop hx hb dX8_init_66 rfl ?_
  obtain ⟨t9, ht9⟩ := List.mem_iff_getElem?.mp hty_q_4
  obtain ⟨C, hmo⟩ := c_abs C (C.fr (K := 151) 2 rfl (by decide) rfl).1 (by rw [(C.fr (K := 151) 2 rfl (by decide) rfl).2, okE_l (K := 151) (n := 21) (lo := 0) (hi := 0) (by decide) rfl]; exact ⟨_, t9, _, rfl, ht9⟩) (fun g9 h9 i => by unfold aI; rw [h9])
  refine W.vret hx hb hr (fun t ht hW => ⟨⟨(), rfl, trivial, c_exit C (by decide) (by decide +kernel : ∀ j, j < (FS 8).length → j ∈ [9, 4, 3, 2, 1, 0, 9, 8, 7, 6, 5]) ht hW ?_⟩, C.2.2.2.1.F ht⟩) C.2.2.2.1.2.2 dX8_init_67 hlocks
  exact trivial

set_option maxHeartbeats 4000000 in
set_option maxRecDepth 100000 in
theorem k_X0_init (l : Launch) (dC : Nat → ClassId) (dI : Nat → Nat → Nat) (adK adV : Nat → Nat) (h0 : Nat) (h1 : Nat) (h2 : Nat) (kd0 : Nat → Nat) (kah1 : kd0 h1 = 8) (kah2 : kd0 h2 = 5) (sz : Nat) : Met l yX0_init (.code yX0_init cX0_init 3 none :: lw_g) ({ frames := 1, cells := 6, slots := 1800, locals := 20 }) (va_Pc [.ref h0, .ref h1, .ref h2] (CPre (dC, dI) h0 (.inr (0, [.null, .null, .null, .null, .null, .null, .null, .null, .int 0, .null, .int 0, .int 0, .int 0, .int 0])) [h1, h2] adK adV sz)) (va_Qv (fun _ : Unit => True) (fun (_ : Unit) (t : State) => CP (dC, dI) [h1, h2] kd0 0 h0 (.inr (0, [.null, .null, .null, .null, .null, .null, .null, .null, .int 0, .null, .int 0, .int 0, .int 0, .int 0])) sz (fun (L : List Nat) (kd : Nat → Nat) (f : Nat → va_E) => fV f h0 0 = .ref h1 ∧ fV f h0 1 = .ref h2) t) (va_A [(h0, .inr (0, [.null, .null, .null, .null, .null, .null, .null, .null, .int 0, .null, .int 0, .int 0, .int 0, .int 0]))] sz)) 6 1800 (va_A [(h0, .inr (0, [.null, .null, .null, .null, .null, .null, .null, .null, .int 0, .null, .int 0, .int 0, .int 0, .int 0]))] sz) := by
  refine Met.ofW (cc := cX0_init) (maxL := 3) (ret := none) (by decide) rfl ?_
  intro p e s m args below meth c s₁ B hml hv
  obtain ⟨rfl, hsz, hP, hK, hD0, hAm, hL0⟩ := hv
  have hx := B.exec
  have hb := B.bytes
  have hr := B.returns
  have hts := atoms_spec (ws := (.code yX0_init cX0_init 3 none :: lw_g)) B.pre
  have hown : s.vm.findClass RX0 = some m.cls := findClass_of_methodNamed B.named
  have hlocks := B.notSynchronized
  have hin : meth.name = "<init>" := (name_of_methodNamed B.named B.method).1
  subst hsz
  obtain ⟨M, L, kd, tys, f, C⟩ : ∃ (M L : List Nat) (kd : Nat → Nat) (tys : List (ClassId × FieldType)) (f : Nat → va_E), CI (dC, dI) s h0 (.inr (0, [.null, .null, .null, .null, .null, .null, .null, .null, .int 0, .null, .int 0, .int 0, .int 0, .int 0])) [h1, h2] kd0 0 [.null, .null, .null, .null, .null, .null, .null, .null, .int 0, .null, .int 0, .int 0, .int 0, .int 0] [] [] [] M L kd tys f s.heap [] := ⟨_, _, _, _, _, CI.start hP hK rfl hL0⟩
  have hl := lv_entry ([.ref h0, .ref h1, .ref h2]) (n := 3) (Nat.le_of_ble_eq_true rfl)
  rw [lg_entry_eq]
  generalize (lg_sl ([.ref h0, .ref h1, .ref h2]) ++ List.replicate (3 - (lg_sl ([.ref h0, .ref h1, .ref h2])).length) Slot.unset).toArray = ls at hl ⊢
  have hl : lv_has ls 3 [(0, .ref h0), (1, .ref h1), (2, .ref h2)] := hl
  have C := C.pr 2 (.null) (t := (3, 7, 7)) rfl rfl (Or.inl rfl)
  have C := C.pr 8 (.int 0) (t := (0, 0, 300)) rfl rfl (⟨_, rfl, by decide, by decide⟩)
  have C := C.pr 10 (.int 0) (t := (0, 0, 300)) rfl rfl (⟨_, rfl, by decide, by decide⟩)
  have C := C.pr 11 (.int 0) (t := (0, (-2147483648), 2147483647)) rfl rfl (⟨_, rfl, by decide, by decide⟩)
  have C := C.pr 12 (.int 0) (t := (0, 0, 1)) rfl rfl (⟨_, rfl, by decide, by decide⟩)
  have C := C.pr 13 (.int 0) (t := (0, 0, 1)) rfl rfl (⟨_, rfl, by decide, by decide⟩)
  refine lv_aload_n hx hb dX0_init_0 rfl (lv_at hl 0 rfl) ?_
  refine W.objInit hx hb hown (hts _ (List.mem_cons_of_mem _ t_372)) (hts _ (List.mem_cons_of_mem _ t_213)) (hts _ (List.mem_cons_of_mem _ t_214)) rfl (by rw [hml]; exact hl.1) rfl dX0_init_1 (Nat.le_of_ble_eq_true rfl) (Nat.le_of_ble_eq_true rfl) ?_
  refine W.eq (g2 := F0 m 4 ls []) rfl ?_
  refine lv_aload_n hx hb dX0_init_4 rfl (lv_at hl 0 rfl) ?_
  refine lv_aload_n hx hb dX0_init_5 rfl (lv_at hl 1 rfl) ?_
  refine c_putF (v := .ref h1) (t := (2, 8, 8)) (CC := RX0) (T := TX0) (N := 14) hx hb hts (mc_ inX0) tyX0 tyX0_ok nmX0 hown C rfl 0 (by decide) rfl (hts _ (List.mem_cons_of_mem _ t_373)) (fun _ h9 => h9) rfl hin rfl rfl (okr (C.p0 List.mem_cons_self kah1) ⟨by decide, by decide⟩) rfl rfl (kn' := [(13, .int 0), (12, .int 0), (11, .int 0), (10, .int 0), (8, .int 0), (2, .null)]) rfl dX0_init_6 (fun fs H locs C => ?_)
  refine lv_aload_n hx hb dX0_init_9 rfl (lv_at hl 0 rfl) ?_
  refine lv_aload_n hx hb dX0_init_10 rfl (lv_at hl 2 rfl) ?_
  refine c_putF (v := .ref h2) (t := (2, 5, 5)) (CC := RX0) (T := TX0) (N := 14) hx hb hts (mc_ inX0) tyX0 tyX0_ok nmX0 hown C rfl 1 (by decide) rfl (hts _ (List.mem_cons_of_mem _ t_374)) (fun _ h9 => h9) rfl hin rfl rfl (okr (C.p0 (List.mem_cons_of_mem _ List.mem_cons_self) kah2) ⟨by decide, by decide⟩) rfl rfl (kn' := [(0, .ref h1), (13, .int 0), (12, .int 0), (11, .int 0), (10, .int 0), (8, .int 0), (2, .null)]) rfl dX0_init_11 (fun fs H locs C => ?_)
  refine lv_aload_n hx hb dX0_init_14 rfl (lv_at hl 0 rfl) ?_
  refine lv_sipush (v := 300) hx hb dX0_init_15 (by decide) ?_
  refine c_newa (atype := .int) (ty := .int) (N' := 300) (a0 := (300, .inl (fun _ => 0))) hx hb (hts _ (List.mem_cons_of_mem _ t_320)) rfl C 110 (fun _ => rfl) (by decide) (by decide) (by decide) (zo_i (by decide) rfl ⟨by decide, by decide⟩) (zz_i) (Nat.le_of_ble_eq_true rfl) (Nat.le_of_ble_eq_true rfl) dX0_init_18 (fun q_1 M L kd tys f H hq_1 hmo htn hty C => ?_)
  refine W.widen (k := 1) (n := 300) (Nat.le_of_ble_eq_true rfl) (Nat.le_of_ble_eq_true rfl) ?_
  refine c_putF (v := .ref q_1) (t := (2, 110, 110)) (CC := RX0) (T := TX0) (N := 14) hx hb hts (mc_ inX0) tyX0 tyX0_ok nmX0 hown C rfl 3 (by decide) rfl (hts _ (List.mem_cons_of_mem _ t_376)) (fun _ h9 => h9) rfl hin rfl rfl (okr hq_1 ⟨by decide, by decide⟩) rfl rfl (kn' := [(1, .ref h2), (0, .ref h1), (13, .int 0), (12, .int 0), (11, .int 0), (10, .int 0), (8, .int 0), (2, .null)]) rfl dX0_init_20 (fun fs H locs C => ?_)
  refine lv_aload_n hx hb dX0_init_23 rfl (lv_at hl 0 rfl) ?_
  refine lv_sipush (v := 300) hx hb dX0_init_24 (by decide) ?_
  refine c_newa (atype := .int) (ty := .int) (N' := 300) (a0 := (300, .inl (fun _ => 0))) hx hb (hts _ (List.mem_cons_of_mem _ t_320)) rfl C 111 (fun _ => rfl) (by decide) (by decide) (by decide) (zo_i (by decide) rfl ⟨by decide, by decide⟩) (zz_i) (Nat.le_of_ble_eq_true rfl) (Nat.le_of_ble_eq_true rfl) dX0_init_27 (fun q_2 M L kd tys f H hq_2 hmo htn hty C => ?_)
  refine W.widen (k := 2) (n := 600) (Nat.le_of_ble_eq_true rfl) (Nat.le_of_ble_eq_true rfl) ?_
  refine c_putF (v := .ref q_2) (t := (2, 111, 111)) (CC := RX0) (T := TX0) (N := 14) hx hb hts (mc_ inX0) tyX0 tyX0_ok nmX0 hown C rfl 4 (by decide) rfl (hts _ (List.mem_cons_of_mem _ t_377)) (fun _ h9 => h9) rfl hin rfl rfl (okr hq_2 ⟨by decide, by decide⟩) rfl rfl (kn' := [(3, .ref q_1), (1, .ref h2), (0, .ref h1), (13, .int 0), (12, .int 0), (11, .int 0), (10, .int 0), (8, .int 0), (2, .null)]) rfl dX0_init_29 (fun fs H locs C => ?_)
  refine lv_aload_n hx hb dX0_init_32 rfl (lv_at hl 0 rfl) ?_
  refine lv_sipush (v := 300) hx hb dX0_init_33 (by decide) ?_
  refine c_newa (atype := .int) (ty := .int) (N' := 300) (a0 := (300, .inl (fun _ => 0))) hx hb (hts _ (List.mem_cons_of_mem _ t_320)) rfl C 112 (fun _ => rfl) (by decide) (by decide) (by decide) (zo_i (by decide) rfl ⟨by decide, by decide⟩) (zz_i) (Nat.le_of_ble_eq_true rfl) (Nat.le_of_ble_eq_true rfl) dX0_init_36 (fun q_3 M L kd tys f H hq_3 hmo htn hty C => ?_)
  refine W.widen (k := 3) (n := 900) (Nat.le_of_ble_eq_true rfl) (Nat.le_of_ble_eq_true rfl) ?_
  refine c_putF (v := .ref q_3) (t := (2, 112, 112)) (CC := RX0) (T := TX0) (N := 14) hx hb hts (mc_ inX0) tyX0 tyX0_ok nmX0 hown C rfl 5 (by decide) rfl (hts _ (List.mem_cons_of_mem _ t_378)) (fun _ h9 => h9) rfl hin rfl rfl (okr hq_3 ⟨by decide, by decide⟩) rfl rfl (kn' := [(4, .ref q_2), (3, .ref q_1), (1, .ref h2), (0, .ref h1), (13, .int 0), (12, .int 0), (11, .int 0), (10, .int 0), (8, .int 0), (2, .null)]) rfl dX0_init_38 (fun fs H locs C => ?_)
  refine lv_aload_n hx hb dX0_init_41 rfl (lv_at hl 0 rfl) ?_
  refine lv_sipush (v := 300) hx hb dX0_init_42 (by decide) ?_
  refine c_newa (atype := .int) (ty := .int) (N' := 300) (a0 := (300, .inl (fun _ => 0))) hx hb (hts _ (List.mem_cons_of_mem _ t_320)) rfl C 113 (fun _ => rfl) (by decide) (by decide) (by decide) (zo_i (by decide) rfl ⟨by decide, by decide⟩) (zz_i) (Nat.le_of_ble_eq_true rfl) (Nat.le_of_ble_eq_true rfl) dX0_init_45 (fun q_4 M L kd tys f H hq_4 hmo htn hty C => ?_)
  refine W.widen (k := 4) (n := 1200) (Nat.le_of_ble_eq_true rfl) (Nat.le_of_ble_eq_true rfl) ?_
  refine c_putF (v := .ref q_4) (t := (2, 113, 113)) (CC := RX0) (T := TX0) (N := 14) hx hb hts (mc_ inX0) tyX0 tyX0_ok nmX0 hown C rfl 6 (by decide) rfl (hts _ (List.mem_cons_of_mem _ t_379)) (fun _ h9 => h9) rfl hin rfl rfl (okr hq_4 ⟨by decide, by decide⟩) rfl rfl (kn' := [(5, .ref q_3), (4, .ref q_2), (3, .ref q_1), (1, .ref h2), (0, .ref h1), (13, .int 0), (12, .int 0), (11, .int 0), (10, .int 0), (8, .int 0), (2, .null)]) rfl dX0_init_47 (fun fs H locs C => ?_)
  refine lv_aload_n hx hb dX0_init_50 rfl (lv_at hl 0 rfl) ?_
  refine lv_sipush (v := 300) hx hb dX0_init_51 (by decide) ?_
  refine c_newa (atype := .int) (ty := .int) (N' := 300) (a0 := (300, .inl (fun _ => 0))) hx hb (hts _ (List.mem_cons_of_mem _ t_320)) rfl C 114 (fun _ => rfl) (by decide) (by decide) (by decide) (zo_i (by decide) rfl ⟨by decide, by decide⟩) (zz_i) (Nat.le_of_ble_eq_true rfl) (Nat.le_of_ble_eq_true rfl) dX0_init_54 (fun q_5 M L kd tys f H hq_5 hmo htn hty C => ?_)
  refine W.widen (k := 5) (n := 1500) (Nat.le_of_ble_eq_true rfl) (Nat.le_of_ble_eq_true rfl) ?_
  refine c_putF (v := .ref q_5) (t := (2, 114, 114)) (CC := RX0) (T := TX0) (N := 14) hx hb hts (mc_ inX0) tyX0 tyX0_ok nmX0 hown C rfl 7 (by decide) rfl (hts _ (List.mem_cons_of_mem _ t_380)) (fun _ h9 => h9) rfl hin rfl rfl (okr hq_5 ⟨by decide, by decide⟩) rfl rfl (kn' := [(6, .ref q_4), (5, .ref q_3), (4, .ref q_2), (3, .ref q_1), (1, .ref h2), (0, .ref h1), (13, .int 0), (12, .int 0), (11, .int 0), (10, .int 0), (8, .int 0), (2, .null)]) rfl dX0_init_56 (fun fs H locs C => ?_)
  refine lv_aload_n hx hb dX0_init_59 rfl (lv_at hl 0 rfl) ?_
  refine lv_sipush (v := 300) hx hb dX0_init_60 (by decide) ?_
  refine c_newa (atype := .int) (ty := .int) (N' := 300) (a0 := (300, .inl (fun _ => 0))) hx hb (hts _ (List.mem_cons_of_mem _ t_320)) rfl C 115 (fun _ => rfl) (by decide) (by decide) (by decide) (zo_i (by decide) rfl ⟨by decide, by decide⟩) (zz_i) (Nat.le_of_ble_eq_true rfl) (Nat.le_of_ble_eq_true rfl) dX0_init_63 (fun q_6 M L kd tys f H hq_6 hmo htn hty C => ?_)
  refine W.widen (k := 6) (n := 1800) (Nat.le_of_ble_eq_true rfl) (Nat.le_of_ble_eq_true rfl) ?_
  refine c_putF (v := .ref q_6) (t := (2, 115, 115)) (CC := RX0) (T := TX0) (N := 14) hx hb hts (mc_ inX0) tyX0 tyX0_ok nmX0 hown C rfl 9 (by decide) rfl (hts _ (List.mem_cons_of_mem _ t_382)) (fun _ h9 => h9) rfl hin rfl rfl (okr hq_6 ⟨by decide, by decide⟩) rfl rfl (kn' := [(7, .ref q_5), (6, .ref q_4), (5, .ref q_3), (4, .ref q_2), (3, .ref q_1), (1, .ref h2), (0, .ref h1), (13, .int 0), (12, .int 0), (11, .int 0), (10, .int 0), (8, .int 0), (2, .null)]) rfl dX0_init_65 (fun fs H locs C => ?_)
  refine W.vret hx hb hr (fun t ht hW => ⟨⟨(), rfl, trivial, c_exit C (by decide) (by decide +kernel : ∀ j, j < (FS 0).length → j ∈ [9, 7, 6, 5, 4, 3, 1, 0, 13, 12, 11, 10, 8, 2]) ht hW ?_⟩, C.2.2.2.1.F ht⟩) C.2.2.2.1.2.2 dX0_init_68 hlocks
  exact ⟨C.fv 7 rfl, C.fv 6 rfl⟩

set_option maxHeartbeats 4000000 in
set_option maxRecDepth 100000 in
theorem k_X1_init (l : Launch) (dC : Nat → ClassId) (dI : Nat → Nat → Nat) (adK adV : Nat → Nat) (h0 : Nat) (kd0 : Nat → Nat) (sz : Nat) : Met l yX1_init (.code yX1_init cX1_init 1 none :: lw_g) ({ frames := 1, cells := 3, slots := 952, locals := 20 }) (va_Pc [.ref h0] (CPre (dC, dI) h0 (.inr (1, [.null, .null, .null, .null, .null, .int 0, .int 0, .null, .int 0, .null, .null, .int 0, .int 0, .int 0, .int 0, .int 0, .int 0, .long 0])) [] adK adV sz)) (va_Qv (fun _ : Unit => True) (fun (_ : Unit) (t : State) => CP (dC, dI) [] kd0 1 h0 (.inr (1, [.null, .null, .null, .null, .null, .int 0, .int 0, .null, .int 0, .null, .null, .int 0, .int 0, .int 0, .int 0, .int 0, .int 0, .long 0])) sz (fun (_ : List Nat) (_ : Nat → Nat) (_ : Nat → va_E) => True) t) (va_A [(h0, .inr (1, [.null, .null, .null, .null, .null, .int 0, .int 0, .null, .int 0, .null, .null, .int 0, .int 0, .int 0, .int 0, .int 0, .int 0, .long 0]))] sz)) 3 952 (va_A [(h0, .inr (1, [.null, .null, .null, .null, .null, .int 0, .int 0, .null, .int 0, .null, .null, .int 0, .int 0, .int 0, .int 0, .int 0, .int 0, .long 0]))] sz) := by
  refine Met.ofW (cc := cX1_init) (maxL := 1) (ret := none) (by decide) rfl ?_
  intro p e s m args below meth c s₁ B hml hv
  obtain ⟨rfl, hsz, hP, hK, hD0, hAm, hL0⟩ := hv
  have hx := B.exec
  have hb := B.bytes
  have hr := B.returns
  have hts := atoms_spec (ws := (.code yX1_init cX1_init 1 none :: lw_g)) B.pre
  have hown : s.vm.findClass RX1 = some m.cls := findClass_of_methodNamed B.named
  have hlocks := B.notSynchronized
  have hin : meth.name = "<init>" := (name_of_methodNamed B.named B.method).1
  subst hsz
  obtain ⟨M, L, kd, tys, f, C⟩ : ∃ (M L : List Nat) (kd : Nat → Nat) (tys : List (ClassId × FieldType)) (f : Nat → va_E), CI (dC, dI) s h0 (.inr (1, [.null, .null, .null, .null, .null, .int 0, .int 0, .null, .int 0, .null, .null, .int 0, .int 0, .int 0, .int 0, .int 0, .int 0, .long 0])) [] kd0 1 [.null, .null, .null, .null, .null, .int 0, .int 0, .null, .int 0, .null, .null, .int 0, .int 0, .int 0, .int 0, .int 0, .int 0, .long 0] [] [] [] M L kd tys f s.heap [] := ⟨_, _, _, _, _, CI.start hP hK rfl hL0⟩
  have hl := lv_entry ([.ref h0]) (n := 1) (Nat.le_of_ble_eq_true rfl)
  rw [lg_entry_eq]
  generalize (lg_sl ([.ref h0]) ++ List.replicate (1 - (lg_sl ([.ref h0])).length) Slot.unset).toArray = ls at hl ⊢
  have hl : lv_has ls 1 [(0, .ref h0)] := hl
  have C := C.pr 0 (.null) (t := (3, 7, 7)) rfl rfl (Or.inl rfl)
  have C := C.pr 1 (.null) (t := (3, 9, 9)) rfl rfl (Or.inl rfl)
  have C := C.pr 5 (.int 0) (t := (0, 0, 1)) rfl rfl (⟨_, rfl, by decide, by decide⟩)
  have C := C.pr 6 (.int 0) (t := (0, (-2147483648), 2147483647)) rfl rfl (⟨_, rfl, by decide, by decide⟩)
  have C := C.pr 8 (.int 0) (t := (0, 0, 700)) rfl rfl (⟨_, rfl, by decide, by decide⟩)
  have C := C.pr 11 (.int 0) (t := (0, 0, 20)) rfl rfl (⟨_, rfl, by decide, by decide⟩)
  have C := C.pr 12 (.int 0) (t := (0, 0, 1)) rfl rfl (⟨_, rfl, by decide, by decide⟩)
  have C := C.pr 13 (.int 0) (t := (0, (-2147483648), 2147483647)) rfl rfl (⟨_, rfl, by decide, by decide⟩)
  have C := C.pr 14 (.int 0) (t := (0, (-2147483648), 2147483647)) rfl rfl (⟨_, rfl, by decide, by decide⟩)
  have C := C.pr 15 (.int 0) (t := (0, (-2147483648), 2147483647)) rfl rfl (⟨_, rfl, by decide, by decide⟩)
  have C := C.pr 16 (.int 0) (t := (0, (-2147483648), 2147483647)) rfl rfl (⟨_, rfl, by decide, by decide⟩)
  have C := C.pr 17 (.long 0) (t := (1, 0, 0)) rfl rfl (⟨_, rfl⟩)
  refine lv_aload_n hx hb dX1_init_0 rfl (lv_at hl 0 rfl) ?_
  refine W.objInit hx hb hown (hts _ (List.mem_cons_of_mem _ t_734)) (hts _ (List.mem_cons_of_mem _ t_213)) (hts _ (List.mem_cons_of_mem _ t_214)) rfl (by rw [hml]; exact hl.1) rfl dX1_init_1 (Nat.le_of_ble_eq_true rfl) (Nat.le_of_ble_eq_true rfl) ?_
  refine W.eq (g2 := F0 m 4 ls []) rfl ?_
  refine lv_aload_n hx hb dX1_init_4 rfl (lv_at hl 0 rfl) ?_
  refine lv_sipush (v := 700) hx hb dX1_init_5 (by decide) ?_
  refine c_newa (atype := .int) (ty := .int) (N' := 700) (a0 := (700, .inl (fun _ => 0))) hx hb (hts _ (List.mem_cons_of_mem _ t_320)) rfl C 100 (fun _ => rfl) (by decide) (by decide) (by decide) (zo_i (by decide) rfl ⟨by decide, by decide⟩) (zz_i) (Nat.le_of_ble_eq_true rfl) (Nat.le_of_ble_eq_true rfl) dX1_init_8 (fun q_1 M L kd tys f H hq_1 hmo htn hty C => ?_)
  refine W.widen (k := 1) (n := 700) (Nat.le_of_ble_eq_true rfl) (Nat.le_of_ble_eq_true rfl) ?_
  refine c_putF (v := .ref q_1) (t := (2, 100, 100)) (CC := RX1) (T := TX1) (N := 18) hx hb hts (mc_ inX1) tyX1 tyX1_ok nmX1 hown C rfl 7 (by decide) rfl (hts _ (List.mem_cons_of_mem _ t_742)) (fun _ h9 => h9) rfl hin rfl rfl (okr hq_1 ⟨by decide, by decide⟩) rfl rfl (kn' := [(17, .long 0), (16, .int 0), (15, .int 0), (14, .int 0), (13, .int 0), (12, .int 0), (11, .int 0), (8, .int 0), (6, .int 0), (5, .int 0), (1, .null), (0, .null)]) rfl dX1_init_10 (fun fs H locs C => ?_)
  refine lv_aload_n hx hb dX1_init_13 rfl (lv_at hl 0 rfl) ?_
  refine lv_sipush (v := 231) hx hb dX1_init_14 (by decide) ?_
  refine c_newa (atype := .int) (ty := .int) (N' := 231) (a0 := (231, .inl (fun _ => 0))) hx hb (hts _ (List.mem_cons_of_mem _ t_320)) rfl C 116 (fun _ => rfl) (by decide) (by decide) (by decide) (zo_i (by decide) rfl ⟨by decide, by decide⟩) (zz_i) (Nat.le_of_ble_eq_true rfl) (Nat.le_of_ble_eq_true rfl) dX1_init_17 (fun q_2 M L kd tys f H hq_2 hmo htn hty C => ?_)
  refine W.widen (k := 2) (n := 931) (Nat.le_of_ble_eq_true rfl) (Nat.le_of_ble_eq_true rfl) ?_
  refine c_putF (v := .ref q_2) (t := (2, 116, 116)) (CC := RX1) (T := TX1) (N := 18) hx hb hts (mc_ inX1) tyX1 tyX1_ok nmX1 hown C rfl 9 (by decide) rfl (hts _ (List.mem_cons_of_mem _ t_744)) (fun _ h9 => h9) rfl hin rfl rfl (okr hq_2 ⟨by decide, by decide⟩) rfl rfl (kn' := [(7, .ref q_1), (17, .long 0), (16, .int 0), (15, .int 0), (14, .int 0), (13, .int 0), (12, .int 0), (11, .int 0), (8, .int 0), (6, .int 0), (5, .int 0), (1, .null), (0, .null)]) rfl dX1_init_19 (fun fs H locs C => ?_)
  refine lv_aload_n hx hb dX1_init_22 rfl (lv_at hl 0 rfl) ?_
  refine lv_bipush (v := 21) hx hb dX1_init_23 (by decide) ?_
  refine c_newa (atype := .int) (ty := .int) (N' := 21) (a0 := (21, .inl (fun _ => 0))) hx hb (hts _ (List.mem_cons_of_mem _ t_320)) rfl C 117 (fun _ => rfl) (by decide) (by decide) (by decide) (zo_i (by decide) rfl ⟨by decide, by decide⟩) (zz_i) (Nat.le_of_ble_eq_true rfl) (Nat.le_of_ble_eq_true rfl) dX1_init_25 (fun q_3 M L kd tys f H hq_3 hmo htn hty C => ?_)
  refine W.widen (k := 3) (n := 952) (Nat.le_of_ble_eq_true rfl) (Nat.le_of_ble_eq_true rfl) ?_
  refine c_putF (v := .ref q_3) (t := (2, 117, 117)) (CC := RX1) (T := TX1) (N := 18) hx hb hts (mc_ inX1) tyX1 tyX1_ok nmX1 hown C rfl 10 (by decide) rfl (hts _ (List.mem_cons_of_mem _ t_745)) (fun _ h9 => h9) rfl hin rfl rfl (okr hq_3 ⟨by decide, by decide⟩) rfl rfl (kn' := [(9, .ref q_2), (7, .ref q_1), (17, .long 0), (16, .int 0), (15, .int 0), (14, .int 0), (13, .int 0), (12, .int 0), (11, .int 0), (8, .int 0), (6, .int 0), (5, .int 0), (1, .null), (0, .null)]) rfl dX1_init_27 (fun fs H locs C => ?_)
  refine lv_aload_n hx hb dX1_init_30 rfl (lv_at hl 0 rfl) ?_
  refine lv_aload_n hx hb dX1_init_31 rfl (lv_at hl 0 rfl) ?_
  refine c_get (CC := RX1) (T := TX1) (N := 18) hx hb hts (mc_ inX1) hown C rfl 7 (by decide) rfl (hts _ (List.mem_cons_of_mem _ t_742)) (fun _ h9 => h9) 2 rfl dX1_init_32 ?_
  refine c_put (v := .ref q_1) (t := (2, 100, 102)) (CC := RX1) (T := TX1) (N := 18) hx hb hts (mc_ inX1) tyX1 tyX1_ok nmX1 hown C rfl 2 (by decide) rfl (hts _ (List.mem_cons_of_mem _ t_737)) (fun _ h9 => h9) rfl rfl (okr (C.fr (K := 100) 2 rfl (by decide) rfl) ⟨by decide, by decide⟩) rfl rfl (kn' := [(10, .ref q_3), (9, .ref q_2), (7, .ref q_1), (17, .long 0), (16, .int 0), (15, .int 0), (14, .int 0), (13, .int 0), (12, .int 0), (11, .int 0), (8, .int 0), (6, .int 0), (5, .int 0), (1, .null), (0, .null)]) rfl dX1_init_35 (fun fs H locs C => ?_)
  refine lv_aload_n hx hb dX1_init_38 rfl (lv_at hl 0 rfl) ?_
  refine lv_aload_n hx hb dX1_init_39 rfl (lv_at hl 0 rfl) ?_
  refine c_get (CC := RX1) (T := TX1) (N := 18) hx hb hts (mc_ inX1) hown C rfl 7 (by decide) rfl (hts _ (List.mem_cons_of_mem _ t_742)) (fun _ h9 => h9) 3 rfl dX1_init_40 ?_
  refine c_put (v := .ref q_1) (t := (2, 100, 102)) (CC := RX1) (T := TX1) (N := 18) hx hb hts (mc_ inX1) tyX1 tyX1_ok nmX1 hown C rfl 3 (by decide) rfl (hts _ (List.mem_cons_of_mem _ t_738)) (fun _ h9 => h9) rfl rfl (okr (C.fr (K := 100) 3 rfl (by decide) rfl) ⟨by decide, by decide⟩) rfl rfl (kn' := [(2, .ref q_1), (10, .ref q_3), (9, .ref q_2), (7, .ref q_1), (17, .long 0), (16, .int 0), (15, .int 0), (14, .int 0), (13, .int 0), (12, .int 0), (11, .int 0), (8, .int 0), (6, .int 0), (5, .int 0), (1, .null), (0, .null)]) rfl dX1_init_43 (fun fs H locs C => ?_)
  refine lv_aload_n hx hb dX1_init_46 rfl (lv_at hl 0 rfl) ?_
  refine lv_aload_n hx hb dX1_init_47 rfl (lv_at hl 0 rfl) ?_
  refine c_get (CC := RX1) (T := TX1) (N := 18) hx hb hts (mc_ inX1) hown C rfl 7 (by decide) rfl (hts _ (List.mem_cons_of_mem _ t_742)) (fun _ h9 => h9) 4 rfl dX1_init_48 ?_
  refine c_put (v := .ref q_1) (t := (2, 100, 103)) (CC := RX1) (T := TX1) (N := 18) hx hb hts (mc_ inX1) tyX1 tyX1_ok nmX1 hown C rfl 4 (by decide) rfl (hts _ (List.mem_cons_of_mem _ t_739)) (fun _ h9 => h9) rfl rfl (okr (C.fr (K := 100) 4 rfl (by decide) rfl) ⟨by decide, by decide⟩) rfl rfl (kn' := [(3, .ref q_1), (2, .ref q_1), (10, .ref q_3), (9, .ref q_2), (7, .ref q_1), (17, .long 0), (16, .int 0), (15, .int 0), (14, .int 0), (13, .int 0), (12, .int 0), (11, .int 0), (8, .int 0), (6, .int 0), (5, .int 0), (1, .null), (0, .null)]) rfl dX1_init_51 (fun fs H locs C => ?_)
  refine W.vret hx hb hr (fun t ht hW => ⟨⟨(), rfl, trivial, c_exit C (by decide) (by decide +kernel : ∀ j, j < (FS 1).length → j ∈ [4, 3, 2, 10, 9, 7, 17, 16, 15, 14, 13, 12, 11, 8, 6, 5, 1, 0]) ht hW ?_⟩, C.2.2.2.1.F ht⟩) C.2.2.2.1.2.2 dX1_init_54 hlocks
  exact trivial

set_option maxHeartbeats 4000000 in
set_option maxRecDepth 100000 in
theorem k_X2_init (l : Launch) (dC : Nat → ClassId) (dI : Nat → Nat → Nat) (adK adV : Nat → Nat) (h0 : Nat) (kd0 : Nat → Nat) (sz : Nat) : Met l yX2_init (.code yX2_init cX2_init 1 none :: lw_g) ({ frames := 6, cells := 20, slots := 5503, locals := 133 }) (va_Pc [.ref h0] (CPre (dC, dI) h0 (.inr (2, [.null, .null, .null, .null, .null, .null, .int 0, .null, .null, .null, .null, .int 0, .int 0, .int 0, .int 0, .int 0])) [] adK adV sz)) (va_Qv (fun _ : Unit => True) (fun (_ : Unit) (t : State) => CP (dC, dI) [] kd0 2 h0 (.inr (2, [.null, .null, .null, .null, .null, .null, .int 0, .null, .null, .null, .null, .int 0, .int 0, .int 0, .int 0, .int 0])) sz (fun (L : List Nat) (kd : Nat → Nat) (f : Nat → va_E) => ∃ z0 z1 z2 : Nat, (z0 ∈ L ∧ kd z0 = 8) ∧ (z1 ∈ L ∧ kd z1 = 5) ∧ (z2 ∈ L ∧ kd z2 = 0) ∧ fV f h0 0 = .ref z0 ∧ fV f h0 1 = .ref z1 ∧ fV f h0 2 = .ref z2 ∧ fV f z2 0 = .ref z0 ∧ fV f z2 1 = .ref z1) t) (va_A [(h0, .inr (2, [.null, .null, .null, .null, .null, .null, .int 0, .null, .null, .null, .null, .int 0, .int 0, .int 0, .int 0, .int 0]))] sz)) 20 5503 (va_A [(h0, .inr (2, [.null, .null, .null, .null, .null, .null, .int 0, .null, .null, .null, .null, .int 0, .int 0, .int 0, .int 0, .int 0]))] sz) := by
  refine Met.ofW (cc := cX2_init) (maxL := 1) (ret := none) (by decide) rfl ?_
  intro p e s m args below meth c s₁ B hml hv
  obtain ⟨rfl, hsz, hP, hK, hD0, hAm, hL0⟩ := hv
  have hx := B.exec
  have hb := B.bytes
  have hr := B.returns
  have hts := atoms_spec (ws := (.code yX2_init cX2_init 1 none :: lw_g)) B.pre
  have hown : s.vm.findClass RX2 = some m.cls := findClass_of_methodNamed B.named
  have hlocks := B.notSynchronized
  have hin : meth.name = "<init>" := (name_of_methodNamed B.named B.method).1
  subst hsz
  obtain ⟨M, L, kd, tys, f, C⟩ : ∃ (M L : List Nat) (kd : Nat → Nat) (tys : List (ClassId × FieldType)) (f : Nat → va_E), CI (dC, dI) s h0 (.inr (2, [.null, .null, .null, .null, .null, .null, .int 0, .null, .null, .null, .null, .int 0, .int 0, .int 0, .int 0, .int 0])) [] kd0 2 [.null, .null, .null, .null, .null, .null, .int 0, .null, .null, .null, .null, .int 0, .int 0, .int 0, .int 0, .int 0] [] [] [] M L kd tys f s.heap [] := ⟨_, _, _, _, _, CI.start hP hK rfl hL0⟩
  have hl := lv_entry ([.ref h0]) (n := 1) (Nat.le_of_ble_eq_true rfl)
  rw [lg_entry_eq]
  generalize (lg_sl ([.ref h0]) ++ List.replicate (1 - (lg_sl ([.ref h0])).length) Slot.unset).toArray = ls at hl ⊢
  have hl : lv_has ls 1 [(0, .ref h0)] := hl
  have C := C.pr 3 (.null) (t := (3, 7, 7)) rfl rfl (Or.inl rfl)
  have C := C.pr 4 (.null) (t := (3, 9, 9)) rfl rfl (Or.inl rfl)
  have C := C.pr 5 (.null) (t := (3, 6, 6)) rfl rfl (Or.inl rfl)
  have C := C.pr 6 (.int 0) (t := (0, 0, 1)) rfl rfl (⟨_, rfl, by decide, by decide⟩)
  have C := C.pr 11 (.int 0) (t := (0, 0, 8)) rfl rfl (⟨_, rfl, by decide, by decide⟩)
  have C := C.pr 12 (.int 0) (t := (0, (-2147483648), 2147483647)) rfl rfl (⟨_, rfl, by decide, by decide⟩)
  have C := C.pr 13 (.int 0) (t := (0, 0, 95)) rfl rfl (⟨_, rfl, by decide, by decide⟩)
  have C := C.pr 14 (.int 0) (t := (0, (-2147483648), 2147483647)) rfl rfl (⟨_, rfl, by decide, by decide⟩)
  have C := C.pr 15 (.int 0) (t := (0, (-1), 26)) rfl rfl (⟨_, rfl, by decide, by decide⟩)
  refine lv_aload_n hx hb dX2_init_0 rfl (lv_at hl 0 rfl) ?_
  refine W.objInit hx hb hown (hts _ (List.mem_cons_of_mem _ t_220)) (hts _ (List.mem_cons_of_mem _ t_213)) (hts _ (List.mem_cons_of_mem _ t_214)) rfl (by rw [hml]; exact hl.1) rfl dX2_init_1 (Nat.le_of_ble_eq_true rfl) (Nat.le_of_ble_eq_true rfl) ?_
  refine W.eq (g2 := F0 m 4 ls []) rfl ?_
  refine lv_aload_n hx hb dX2_init_4 rfl (lv_at hl 0 rfl) ?_
  refine c_new (C2 := RX8) (T2 := TX8) (N2 := 10) (ci2 := 8) (fs2 := [.null, .null, .null, .null, .null, .int 0, .int 0, .int 0, .int 0, .int 0]) hx hb hts (mc_ inX8) tyX8 tyX8_ok hown (hts _ (List.mem_cons_of_mem _ t_221)) (hts _ (List.mem_cons_of_mem _ t_222)) (hts _ (List.mem_cons_of_mem _ t_184)) C rfl dfX8 (Nat.le_of_ble_eq_true rfl) (Nat.le_of_ble_eq_true rfl) dX2_init_5 (fun q_1 H hMq_1 C => ?_)
  refine W.widen (k := 1) (n := 10) (Nat.le_of_ble_eq_true rfl) (Nat.le_of_ble_eq_true rfl) ?_
  refine lv_dup hx hb dX2_init_8 rfl ?_
  refine c_callI (q := q_1) (ciq := 8) (mc := 5) (ms := 3627) (eq := .inr (8, [.null, .null, .null, .null, .null, .int 0, .int 0, .int 0, .int 0, .int 0])) (L0' := []) (G := (fun (_ : List Nat) (_ : Nat → Nat) (_ : Nat → va_E) => True)) (avl := [.ref q_1]) C hMq_1 (fun _ h9 => absurd h9 List.not_mem_nil) hAm (fun hp => va_runI (As := []) (rest := [.ref q_1, .ref h0]) ⟨hx, hb, hml, hown, hts⟩ (k_X8_init l dC dI adK adV q_1 kd H.size) (cwI 0 hts (gI_ t_225) rfl rfl rfl (hts _ (List.mem_cons_of_mem _ t_184)) (hts _ (List.mem_cons_of_mem _ t_223)) (hts _ (List.mem_cons_of_mem _ t_224)) rfl (by decide +kernel) ⟨(Nat.le_of_ble_eq_true rfl), (Nat.le_of_ble_eq_true rfl)⟩) hp rfl rfl hl.1 rfl (lv_room (Nat.le_of_ble_eq_true rfl)) dX2_init_9 ⟨(Nat.le_of_ble_eq_true rfl), (Nat.le_of_ble_eq_true rfl)⟩) (fun L12 M L kd12 kd tys12 tys f12 f H locs C hmo mo2 hMM2 hq_1 hq12 hd2 ht2 htt hG2 => ?_)
  refine W.widen (k := 6) (n := 3637) (Nat.le_of_ble_eq_true rfl) (Nat.le_of_ble_eq_true rfl) ?_
  refine c_putF (v := .ref q_1) (t := (2, 8, 8)) (CC := RX2) (T := TX2) (N := 16) hx hb hts (mc_ inX2) tyX2 tyX2_ok nmX2 hown C rfl 0 (by decide) rfl (hts _ (List.mem_cons_of_mem _ t_416)) (fun _ h9 => h9) rfl hin rfl rfl (okr hq_1 ⟨by decide, by decide⟩) rfl rfl (kn' := [(15, .int 0), (14, .int 0), (13, .int 0), (12, .int 0), (11, .int 0), (6, .int 0), (5, .null), (4, .null), (3, .null)]) rfl dX2_init_12 (fun fs H locs C => ?_)
  refine lv_aload_n hx hb dX2_init_15 rfl (lv_at hl 0 rfl) ?_
  refine c_new (C2 := RX5) (T2 := TX5) (N2 := 9) (ci2 := 5) (fs2 := [.null, .null, .int 0, .null, .int 0, .null, .int 0, .int 0, .int 0]) hx hb hts (mc_ inX5) tyX5 tyX5_ok hown (hts _ (List.mem_cons_of_mem _ t_322)) (hts _ (List.mem_cons_of_mem _ t_323)) (hts _ (List.mem_cons_of_mem _ t_189)) C rfl dfX5 (Nat.le_of_ble_eq_true rfl) (Nat.le_of_ble_eq_true rfl) dX2_init_16 (fun q_3 H hMq_3 C => ?_)
  refine W.widen (k := 7) (n := 3646) (Nat.le_of_ble_eq_true rfl) (Nat.le_of_ble_eq_true rfl) ?_
  refine lv_dup hx hb dX2_init_19 rfl ?_
  refine c_callI (q := q_3) (ciq := 5) (mc := 2) (ms := 11) (eq := .inr (5, [.null, .null, .int 0, .null, .int 0, .null, .int 0, .int 0, .int 0])) (L0' := []) (G := (fun (_ : List Nat) (_ : Nat → Nat) (_ : Nat → va_E) => True)) (avl := [.ref q_3]) C hMq_3 (fun _ h9 => absurd h9 List.not_mem_nil) hAm (fun hp => va_runI (As := []) (rest := [.ref q_3, .ref h0]) ⟨hx, hb, hml, hown, hts⟩ (k_X5_init l dC dI adK adV q_3 kd H.size) (cwI 0 hts (gI_ t_326) rfl rfl rfl (hts _ (List.mem_cons_of_mem _ t_189)) (hts _ (List.mem_cons_of_mem _ t_324)) (hts _ (List.mem_cons_of_mem _ t_325)) rfl (by decide +kernel) ⟨(Nat.le_of_ble_eq_true rfl), (Nat.le_of_ble_eq_true rfl)⟩) hp rfl rfl hl.1 rfl (lv_room (Nat.le_of_ble_eq_true rfl)) dX2_init_20 ⟨(Nat.le_of_ble_eq_true rfl), (Nat.le_of_ble_eq_true rfl)⟩) (fun L14 M L kd14 kd tys14 tys f14 f H locs C hmo mo4 hMM4 hq_3 hq14 hd4 ht4 htt hG4 => ?_)
  have mo2 := mo2.tr hmo
  refine W.widen (k := 9) (n := 3657) (Nat.le_of_ble_eq_true rfl) (Nat.le_of_ble_eq_true rfl) ?_
  refine c_putF (v := .ref q_3) (t := (2, 5, 5)) (CC := RX2) (T := TX2) (N := 16) hx hb hts (mc_ inX2) tyX2 tyX2_ok nmX2 hown C rfl 1 (by decide) rfl (hts _ (List.mem_cons_of_mem _ t_417)) (fun _ h9 => h9) rfl hin rfl rfl (okr hq_3 ⟨by decide, by decide⟩) rfl rfl (kn' := [(0, .ref q_1), (15, .int 0), (14, .int 0), (13, .int 0), (12, .int 0), (11, .int 0), (6, .int 0), (5, .null), (4, .null), (3, .null)]) rfl dX2_init_23 (fun fs H locs C => ?_)
  refine lv_aload_n hx hb dX2_init_26 rfl (lv_at hl 0 rfl) ?_
  refine c_new (C2 := RX0) (T2 := TX0) (N2 := 14) (ci2 := 0) (fs2 := [.null, .null, .null, .null, .null, .null, .null, .null, .int 0, .null, .int 0, .int 0, .int 0, .int 0]) hx hb hts (mc_ inX0) tyX0 tyX0_ok hown (hts _ (List.mem_cons_of_mem _ t_367)) (hts _ (List.mem_cons_of_mem _ t_368)) (hts _ (List.mem_cons_of_mem _ t_190)) C rfl dfX0 (Nat.le_of_ble_eq_true rfl) (Nat.le_of_ble_eq_true rfl) dX2_init_27 (fun q_5 H hMq_5 C => ?_)
  refine W.widen (k := 10) (n := 3671) (Nat.le_of_ble_eq_true rfl) (Nat.le_of_ble_eq_true rfl) ?_
  refine lv_dup hx hb dX2_init_30 rfl ?_
  refine lv_aload_n hx hb dX2_init_31 rfl (lv_at hl 0 rfl) ?_
  refine c_get (CC := RX2) (T := TX2) (N := 16) hx hb hts (mc_ inX2) hown C rfl 0 (by decide) rfl (hts _ (List.mem_cons_of_mem _ t_416)) (fun _ h9 => h9) 1 rfl dX2_init_32 ?_
  refine lv_aload_n hx hb dX2_init_35 rfl (lv_at hl 0 rfl) ?_
  refine c_get (CC := RX2) (T := TX2) (N := 16) hx hb hts (mc_ inX2) hown C rfl 1 (by decide) rfl (hts _ (List.mem_cons_of_mem _ t_417)) (fun _ h9 => h9) 0 rfl dX2_init_36 ?_
  refine c_callI (q := q_5) (ciq := 0) (mc := 6) (ms := 1800) (eq := .inr (0, [.null, .null, .null, .null, .null, .null, .null, .null, .int 0, .null, .int 0, .int 0, .int 0, .int 0])) (L0' := [q_1, q_3]) (G := (fun (L : List Nat) (kd : Nat → Nat) (f : Nat → va_E) => fV f q_5 0 = .ref q_1 ∧ fV f q_5 1 = .ref q_3)) (avl := [.ref q_5, .ref q_1, .ref q_3]) C hMq_5 (List.forall_mem_cons.mpr ⟨(C.fr (K := 8) 1 rfl (by decide) rfl).1, (List.forall_mem_cons.mpr ⟨hq_3.1, (fun _ h9 => absurd h9 List.not_mem_nil)⟩)⟩) hAm (fun hp => va_runI (As := [.ref q_1, .ref q_3]) (rest := [.ref q_5, .ref h0]) ⟨hx, hb, hml, hown, hts⟩ (k_X0_init l dC dI adK adV q_5 q_1 q_3 kd (C.fr (K := 8) 1 rfl (by decide) rfl).2 hq_3.2 H.size) (cwI 2 hts (gI_ t_371) rfl rfl rfl (hts _ (List.mem_cons_of_mem _ t_190)) (hts _ (List.mem_cons_of_mem _ t_369)) (hts _ (List.mem_cons_of_mem _ t_370)) rfl (by decide +kernel) ⟨(Nat.le_of_ble_eq_true rfl), (Nat.le_of_ble_eq_true rfl)⟩) hp rfl rfl hl.1 rfl (lv_room (Nat.le_of_ble_eq_true rfl)) dX2_init_39 ⟨(Nat.le_of_ble_eq_true rfl), (Nat.le_of_ble_eq_true rfl)⟩) (fun L16 M L kd16 kd tys16 tys f16 f H locs C hmo mo6 hMM6 hq_5 hq16 hd6 ht6 htt hG6 => ?_)
  have mo2 := mo2.tr hmo
  have mo4 := mo4.tr hmo
  refine W.widen (k := 16) (n := 5471) (Nat.le_of_ble_eq_true rfl) (Nat.le_of_ble_eq_true rfl) ?_
  refine c_putF (v := .ref q_5) (t := (2, 0, 0)) (CC := RX2) (T := TX2) (N := 16) hx hb hts (mc_ inX2) tyX2 tyX2_ok nmX2 hown C rfl 2 (by decide) rfl (hts _ (List.mem_cons_of_mem _ t_418)) (fun _ h9 => h9) rfl hin rfl rfl (okr hq_5 ⟨by decide, by decide⟩) rfl rfl (kn' := [(1, .ref q_3), (0, .ref q_1), (15, .int 0), (14, .int 0), (13, .int 0), (12, .int 0), (11, .int 0), (6, .int 0), (5, .null), (4, .null), (3, .null)]) rfl dX2_init_42 (fun fs H locs C => ?_)
  refine lv_aload_n hx hb dX2_init_45 rfl (lv_at hl 0 rfl) ?_
  refine lv_bipush (v := 8) hx hb dX2_init_46 (by decide) ?_
  refine c_newa (atype := .int) (ty := .int) (N' := 8) (a0 := (8, .inl (fun _ => 0))) hx hb (hts _ (List.mem_cons_of_mem _ t_320)) rfl C 118 (fun _ => rfl) (by decide) (by decide) (by decide) (zo_i (by decide) rfl ⟨by decide, by decide⟩) (zz_i) (Nat.le_of_ble_eq_true rfl) (Nat.le_of_ble_eq_true rfl) dX2_init_48 (fun q_7 M L kd tys f H hq_7 hmo htn hty C => ?_)
  have mo2 := mo2.tr hmo
  have mo4 := mo4.tr hmo
  have mo6 := mo6.tr hmo
  refine W.widen (k := 17) (n := 5479) (Nat.le_of_ble_eq_true rfl) (Nat.le_of_ble_eq_true rfl) ?_
  refine c_putF (v := .ref q_7) (t := (2, 118, 118)) (CC := RX2) (T := TX2) (N := 16) hx hb hts (mc_ inX2) tyX2 tyX2_ok nmX2 hown C rfl 7 (by decide) rfl (hts _ (List.mem_cons_of_mem _ t_423)) (fun _ h9 => h9) rfl hin rfl rfl (okr hq_7 ⟨by decide, by decide⟩) rfl rfl (kn' := [(2, .ref q_5), (1, .ref q_3), (0, .ref q_1), (15, .int 0), (14, .int 0), (13, .int 0), (12, .int 0), (11, .int 0), (6, .int 0), (5, .null), (4, .null), (3, .null)]) rfl dX2_init_50 (fun fs H locs C => ?_)
  refine lv_aload_n hx hb dX2_init_53 rfl (lv_at hl 0 rfl) ?_
  refine lv_bipush (v := 8) hx hb dX2_init_54 (by decide) ?_
  refine c_newa (atype := .int) (ty := .int) (N' := 8) (a0 := (8, .inl (fun _ => 0))) hx hb (hts _ (List.mem_cons_of_mem _ t_320)) rfl C 119 (fun _ => rfl) (by decide) (by decide) (by decide) (zo_i (by decide) rfl ⟨by decide, by decide⟩) (zz_i) (Nat.le_of_ble_eq_true rfl) (Nat.le_of_ble_eq_true rfl) dX2_init_56 (fun q_8 M L kd tys f H hq_8 hmo htn hty C => ?_)
  have mo2 := mo2.tr hmo
  have mo4 := mo4.tr hmo
  have mo6 := mo6.tr hmo
  refine W.widen (k := 18) (n := 5487) (Nat.le_of_ble_eq_true rfl) (Nat.le_of_ble_eq_true rfl) ?_
  refine c_putF (v := .ref q_8) (t := (2, 119, 119)) (CC := RX2) (T := TX2) (N := 16) hx hb hts (mc_ inX2) tyX2 tyX2_ok nmX2 hown C rfl 8 (by decide) rfl (hts _ (List.mem_cons_of_mem _ t_424)) (fun _ h9 => h9) rfl hin rfl rfl (okr hq_8 ⟨by decide, by decide⟩) rfl rfl (kn' := [(7, .ref q_7), (2, .ref q_5), (1, .ref q_3), (0, .ref q_1), (15, .int 0), (14, .int 0), (13, .int 0), (12, .int 0), (11, .int 0), (6, .int 0), (5, .null), (4, .null), (3, .null)]) rfl dX2_init_58 (fun fs H locs C => ?_)
  refine lv_aload_n hx hb dX2_init_61 rfl (lv_at hl 0 rfl) ?_
  refine lv_bipush (v := 8) hx hb dX2_init_62 (by decide) ?_
  refine c_newa (atype := .int) (ty := .int) (N' := 8) (a0 := (8, .inl (fun _ => 0))) hx hb (hts _ (List.mem_cons_of_mem _ t_320)) rfl C 120 (fun _ => rfl) (by decide) (by decide) (by decide) (zo_i (by decide) rfl ⟨by decide, by decide⟩) (zz_i) (Nat.le_of_ble_eq_true rfl) (Nat.le_of_ble_eq_true rfl) dX2_init_64 (fun q_9 M L kd tys f H hq_9 hmo htn hty C => ?_)
  have mo2 := mo2.tr hmo
  have mo4 := mo4.tr hmo
  have mo6 := mo6.tr hmo
  refine W.widen (k := 19) (n := 5495) (Nat.le_of_ble_eq_true rfl) (Nat.le_of_ble_eq_true rfl) ?_
  refine c_putF (v := .ref q_9) (t := (2, 120, 120)) (CC := RX2) (T := TX2) (N := 16) hx hb hts (mc_ inX2) tyX2 tyX2_ok nmX2 hown C rfl 9 (by decide) rfl (hts _ (List.mem_cons_of_mem _ t_425)) (fun _ h9 => h9) rfl hin rfl rfl (okr hq_9 ⟨by decide, by decide⟩) rfl rfl (kn' := [(8, .ref q_8), (7, .ref q_7), (2, .ref q_5), (1, .ref q_3), (0, .ref q_1), (15, .int 0), (14, .int 0), (13, .int 0), (12, .int 0), (11, .int 0), (6, .int 0), (5, .null), (4, .null), (3, .null)]) rfl dX2_init_66 (fun fs H locs C => ?_)
  refine lv_aload_n hx hb dX2_init_69 rfl (lv_at hl 0 rfl) ?_
  refine lv_bipush (v := 8) hx hb dX2_init_70 (by decide) ?_
  refine c_newa (atype := .int) (ty := .int) (N' := 8) (a0 := (8, .inl (fun _ => 0))) hx hb (hts _ (List.mem_cons_of_mem _ t_320)) rfl C 121 (fun _ => rfl) (by decide) (by decide) (by decide) (zo_i (by decide) rfl ⟨by decide, by decide⟩) (zz_i) (Nat.le_of_ble_eq_true rfl) (Nat.le_of_ble_eq_true rfl) dX2_init_72 (fun q_10 M L kd tys f H hq_10 hmo htn hty C => ?_)
  have mo2 := mo2.tr hmo
  have mo4 := mo4.tr hmo
  have mo6 := mo6.tr hmo
  refine W.widen (k := 20) (n := 5503) (Nat.le_of_ble_eq_true rfl) (Nat.le_of_ble_eq_true rfl) ?_
  refine c_putF (v := .ref q_10) (t := (2, 121, 121)) (CC := RX2) (T := TX2) (N := 16) hx hb hts (mc_ inX2) tyX2 tyX2_ok nmX2 hown C rfl 10 (by decide) rfl (hts _ (List.mem_cons_of_mem _ t_426)) (fun _ h9 => h9) rfl hin rfl rfl (okr hq_10 ⟨by decide, by decide⟩) rfl rfl (kn' := [(9, .ref q_9), (8, .ref q_8), (7, .ref q_7), (2, .ref q_5), (1, .ref q_3), (0, .ref q_1), (15, .int 0), (14, .int 0), (13, .int 0), (12, .int 0), (11, .int 0), (6, .int 0), (5, .null), (4, .null), (3, .null)]) rfl dX2_init_74 (fun fs H locs C => ?_)
  refine W.vret hx hb hr (fun t ht hW => ⟨⟨(), rfl, trivial, c_exit C (by decide) (by decide +kernel : ∀ j, j < (FS 2).length → j ∈ [10, 9, 8, 7, 2, 1, 0, 15, 14, 13, 12, 11, 6, 5, 4, 3]) ht hW ?_⟩, C.2.2.2.1.F ht⟩) C.2.2.2.1.2.2 dX2_init_77 hlocks
  have e9 := C.mo_ (ci' := 2) (e1 := .inr (2, fs))
  have w2 := (mo2.tr e9)
  have w4 := (mo4.tr e9)
  have w6 := (mo6.tr e9)
  exact ⟨q_1, q_3, q_5, w2.at_ hq12, w4.at_ hq14, w6.at_ hq16, C.fv 6 rfl, C.fv 5 rfl, C.fv 4 rfl, (w6.fv hq16.1).trans hG6.1, (w6.fv hq16.1).trans hG6.2⟩

set_option maxHeartbeats 4000000 in
set_option maxRecDepth 100000 in
theorem k_X3_init (l : Launch) (dC : Nat → ClassId) (dI : Nat → Nat → Nat) (adK adV : Nat → Nat) (h0 : Nat) (kd0 : Nat → Nat) (sz : Nat) : Met l yX3_init (.code yX3_init cX3_init 1 none :: lw_g) ({ frames := 1, cells := 14, slots := 63, locals := 20 }) (va_Pc [.ref h0] (CPre (dC, dI) h0 (.inr (3, [.int 0, .null, .null, .null, .int 0, .null])) [] adK adV sz)) (va_Qv (fun _ : Unit => True) (fun (_ : Unit) (t : State) => CP (dC, dI) [] kd0 3 h0 (.inr (3, [.int 0, .null, .null, .null, .int 0, .null])) sz (fun (L : List Nat) (kd : Nat → Nat) (f : Nat → va_E) => ∃ (p m : Nat) (A : Nat → Nat), rowG L kd f h0 p m A) t) (va_A [(h0, .inr (3, [.int 0, .null, .null, .null, .int 0, .null]))] sz)) 14 63 (va_A [(h0, .inr (3, [.int 0, .null, .null, .null, .int 0, .null]))] sz) := by
  refine Met.ofW (cc := cX3_init) (maxL := 1) (ret := none) (by decide) rfl ?_
  intro p e s m args below meth c s₁ B hml hv
  obtain ⟨rfl, hsz, hP, hK, hD0, hAm, hL0⟩ := hv
  have hx := B.exec
  have hb := B.bytes
  have hr := B.returns
  have hts := atoms_spec (ws := (.code yX3_init cX3_init 1 none :: lw_g)) B.pre
  have hown : s.vm.findClass RX3 = some m.cls := findClass_of_methodNamed B.named
  have hlocks := B.notSynchronized
  have hin : meth.name = "<init>" := (name_of_methodNamed B.named B.method).1
  subst hsz
  obtain ⟨M, L, kd, tys, f, C⟩ : ∃ (M L : List Nat) (kd : Nat → Nat) (tys : List (ClassId × FieldType)) (f : Nat → va_E), CI (dC, dI) s h0 (.inr (3, [.int 0, .null, .null, .null, .int 0, .null])) [] kd0 3 [.int 0, .null, .null, .null, .int 0, .null] [] [] [] M L kd tys f s.heap [] := ⟨_, _, _, _, _, CI.start hP hK rfl hL0⟩
  have hl := lv_entry ([.ref h0]) (n := 1) (Nat.le_of_ble_eq_true rfl)
  rw [lg_entry_eq]
  generalize (lg_sl ([.ref h0]) ++ List.replicate (1 - (lg_sl ([.ref h0])).length) Slot.unset).toArray = ls at hl ⊢
  have hl : lv_has ls 1 [(0, .ref h0)] := hl
  have C := C.pr 0 (.int 0) (t := (0, 0, 10)) rfl rfl (⟨_, rfl, by decide, by decide⟩)
  have C := C.pr 4 (.int 0) (t := (0, 0, 3)) rfl rfl (⟨_, rfl, by decide, by decide⟩)
  refine lv_aload_n hx hb dX3_init_0 rfl (lv_at hl 0 rfl) ?_
  refine W.objInit hx hb hown (hts _ (List.mem_cons_of_mem _ t_798)) (hts _ (List.mem_cons_of_mem _ t_213)) (hts _ (List.mem_cons_of_mem _ t_214)) rfl (by rw [hml]; exact hl.1) rfl dX3_init_1 (Nat.le_of_ble_eq_true rfl) (Nat.le_of_ble_eq_true rfl) ?_
  refine W.eq (g2 := F0 m 4 ls []) rfl ?_
  refine lv_aload_n hx hb dX3_init_4 rfl (lv_at hl 0 rfl) ?_
  refine lv_bipush (v := 10) hx hb dX3_init_5 (by decide) ?_
  refine c_newa (atype := .int) (ty := .int) (N' := 10) (a0 := (10, .inl (fun _ => 0))) hx hb (hts _ (List.mem_cons_of_mem _ t_320)) rfl C 122 (fun _ => rfl) (by decide) (by decide) (by decide) (zo_i (by decide) rfl ⟨by decide, by decide⟩) (zz_i) (Nat.le_of_ble_eq_true rfl) (Nat.le_of_ble_eq_true rfl) dX3_init_7 (fun q_1 M L kd tys f H hq_1 hmo htn hty C => ?_)
  refine W.widen (k := 1) (n := 10) (Nat.le_of_ble_eq_true rfl) (Nat.le_of_ble_eq_true rfl) ?_
  refine c_putF (v := .ref q_1) (t := (2, 122, 122)) (CC := RX3) (T := TX3) (N := 6) hx hb hts (mc_ inX3) tyX3 tyX3_ok nmX3 hown C rfl 1 (by decide) rfl (hts _ (List.mem_cons_of_mem _ t_804)) (fun _ h9 => h9) rfl hin rfl rfl (okr hq_1 ⟨by decide, by decide⟩) rfl rfl (kn' := [(4, .int 0), (0, .int 0)]) rfl dX3_init_9 (fun fs H locs C => ?_)
  refine lv_aload_n hx hb dX3_init_12 rfl (lv_at hl 0 rfl) ?_
  refine lv_bipush (v := 10) hx hb dX3_init_13 (by decide) ?_
  refine c_newa (atype := .int) (ty := .int) (N' := 10) (a0 := (10, .inl (fun _ => 0))) hx hb (hts _ (List.mem_cons_of_mem _ t_320)) rfl C 123 (fun _ => rfl) (by decide) (by decide) (by decide) (zo_i (by decide) rfl ⟨by decide, by decide⟩) (zz_i) (Nat.le_of_ble_eq_true rfl) (Nat.le_of_ble_eq_true rfl) dX3_init_15 (fun q_2 M L kd tys f H hq_2 hmo htn hty C => ?_)
  refine W.widen (k := 2) (n := 20) (Nat.le_of_ble_eq_true rfl) (Nat.le_of_ble_eq_true rfl) ?_
  refine c_putF (v := .ref q_2) (t := (2, 123, 123)) (CC := RX3) (T := TX3) (N := 6) hx hb hts (mc_ inX3) tyX3 tyX3_ok nmX3 hown C rfl 2 (by decide) rfl (hts _ (List.mem_cons_of_mem _ t_807)) (fun _ h9 => h9) rfl hin rfl rfl (okr hq_2 ⟨by decide, by decide⟩) rfl rfl (kn' := [(1, .ref q_1), (4, .int 0), (0, .int 0)]) rfl dX3_init_17 (fun fs H locs C => ?_)
  refine lv_aload_n hx hb dX3_init_20 rfl (lv_at hl 0 rfl) ?_
  refine lv_bipush (v := 10) hx hb dX3_init_21 (by decide) ?_
  refine lv_iconst (v := 3) hx hb dX3_init_23 (by decide) ?_
  refine c_mna (n := 10) (k := 3) (N' := 10) (K' := 3) (K := 124) (K2 := 103) (lo := (-2147483648)) (hi := 2147483647) hx hb hown (hts _ (List.mem_cons_of_mem _ t_799)) hAm.1.2.2.1 (hts _ (List.mem_cons_of_mem _ t_320)) C hty (by decide) (by decide) (by decide) (by decide) (by decide) (by decide) (by decide) (Nat.le_of_ble_eq_true rfl) (Nat.le_of_ble_eq_true rfl) rfl rfl ⟨by decide, by decide⟩ (by decide) (by decide) dX3_init_24 (fun q_3 r_4 M Lr kdr tys fr H hq_3 hmo hty hmn_q_3 hne_q_3 C => ?_)
  refine W.widen (k := 13) (n := 60) (Nat.le_of_ble_eq_true rfl) (Nat.le_of_ble_eq_true rfl) ?_
  have mo_r : Mo Lr kdr fr Lr kdr fr := Mo.rf
  refine c_putF (v := .ref q_3) (t := (2, 124, 124)) (CC := RX3) (T := TX3) (N := 6) hx hb hts (mc_ inX3) tyX3 tyX3_ok nmX3 hown C rfl 3 (by decide) rfl (hts _ (List.mem_cons_of_mem _ t_810)) (fun _ h9 => h9) rfl hin rfl rfl (okr hq_3 ⟨by decide, by decide⟩) rfl rfl (kn' := [(2, .ref q_2), (1, .ref q_1), (4, .int 0), (0, .int 0)]) rfl dX3_init_28 (fun fs H locs C => ?_)
  refine lv_aload_n hx hb dX3_init_31 rfl (lv_at hl 0 rfl) ?_
  refine lv_iconst (v := 3) hx hb dX3_init_32 (by decide) ?_
  refine c_newa (atype := .int) (ty := .int) (N' := 3) (a0 := (3, .inl (fun _ => 0))) hx hb (hts _ (List.mem_cons_of_mem _ t_320)) rfl C 125 (fun _ => rfl) (by decide) (by decide) (by decide) (zo_i (by decide) rfl ⟨by decide, by decide⟩) (zz_i) (Nat.le_of_ble_eq_true rfl) (Nat.le_of_ble_eq_true rfl) dX3_init_33 (fun q_5 M L kd tys f H hq_5 hmo htn hty C => ?_)
  have mo_r := mo_r.tr hmo
  refine W.widen (k := 14) (n := 63) (Nat.le_of_ble_eq_true rfl) (Nat.le_of_ble_eq_true rfl) ?_
  refine c_putF (v := .ref q_5) (t := (2, 125, 125)) (CC := RX3) (T := TX3) (N := 6) hx hb hts (mc_ inX3) tyX3 tyX3_ok nmX3 hown C rfl 5 (by decide) rfl (hts _ (List.mem_cons_of_mem _ t_815)) (fun _ h9 => h9) rfl hin rfl rfl (okr hq_5 ⟨by decide, by decide⟩) rfl rfl (kn' := [(3, .ref q_3), (2, .ref q_2), (1, .ref q_1), (4, .int 0), (0, .int 0)]) rfl dX3_init_35 (fun fs H locs C => ?_)
  refine W.vret hx hb hr (fun t ht hW => ⟨⟨(), rfl, trivial, c_exit C (by decide) (by decide +kernel : ∀ j, j < (FS 3).length → j ∈ [5, 3, 2, 1, 4, 0]) ht hW ?_⟩, C.2.2.2.1.F ht⟩) C.2.2.2.1.2.2 dX3_init_38 hlocks
  have hmn := (hmn_q_3.mo mo_r).mo (C.mo_ (ci' := 3) (e1 := .inr (3, fs)))
  have hm := C.fr (K := 123) 2 rfl (by decide) rfl
  have hmL : q_2 ∈ L := (C.ml hm.1).elim (fun z => absurd z List.not_mem_nil) id
  exact ⟨_, _, _, ⟨List.mem_cons_self, va_up_self _ _ _⟩, (C.mo_ (ci' := 3) (e1 := .inr (3, fs))).at_ ⟨hmL, hm.2⟩, C.fv 2 rfl, C.fv 1 rfl, C.fv 5 rfl, C.fv 4 rfl, hmn⟩

set_option maxHeartbeats 4000000 in
set_option maxRecDepth 100000 in
theorem k_X4_init (l : Launch) (dC : Nat → ClassId) (dI : Nat → Nat → Nat) (adK adV : Nat → Nat) (h0 : Nat) (kd0 : Nat → Nat) (sz : Nat) : Met l yX4_init (.code yX4_init cX4_init 1 none :: lw_g) ({ frames := 1, cells := 13, slots := 200, locals := 20 }) (va_Pc [.ref h0] (CPre (dC, dI) h0 (.inr (4, [.int 0, .int 0, .int 0, .int 0, .int 0, .long 0, .int 0, .null, .null, .null, .null, .null, .null, .null, .int 0, .int 0, .int 0])) [] adK adV sz)) (va_Qv (fun _ : Unit => True) (fun (_ : Unit) (t : State) => CP (dC, dI) [] kd0 4 h0 (.inr (4, [.int 0, .int 0, .int 0, .int 0, .int 0, .long 0, .int 0, .null, .null, .null, .null, .null, .null, .null, .int 0, .int 0, .int 0])) sz (fun (_ : List Nat) (_ : Nat → Nat) (_ : Nat → va_E) => True) t) (va_A [(h0, .inr (4, [.int 0, .int 0, .int 0, .int 0, .int 0, .long 0, .int 0, .null, .null, .null, .null, .null, .null, .null, .int 0, .int 0, .int 0]))] sz)) 13 200 (va_A [(h0, .inr (4, [.int 0, .int 0, .int 0, .int 0, .int 0, .long 0, .int 0, .null, .null, .null, .null, .null, .null, .null, .int 0, .int 0, .int 0]))] sz) := by
  refine Met.ofW (cc := cX4_init) (maxL := 1) (ret := none) (by decide) rfl ?_
  intro p e s m args below meth c s₁ B hml hv
  obtain ⟨rfl, hsz, hP, hK, hD0, hAm, hL0⟩ := hv
  have hx := B.exec
  have hb := B.bytes
  have hr := B.returns
  have hts := atoms_spec (ws := (.code yX4_init cX4_init 1 none :: lw_g)) B.pre
  have hown : s.vm.findClass RX4 = some m.cls := findClass_of_methodNamed B.named
  have hlocks := B.notSynchronized
  have hin : meth.name = "<init>" := (name_of_methodNamed B.named B.method).1
  subst hsz
  obtain ⟨M, L, kd, tys, f, C⟩ : ∃ (M L : List Nat) (kd : Nat → Nat) (tys : List (ClassId × FieldType)) (f : Nat → va_E), CI (dC, dI) s h0 (.inr (4, [.int 0, .int 0, .int 0, .int 0, .int 0, .long 0, .int 0, .null, .null, .null, .null, .null, .null, .null, .int 0, .int 0, .int 0])) [] kd0 4 [.int 0, .int 0, .int 0, .int 0, .int 0, .long 0, .int 0, .null, .null, .null, .null, .null, .null, .null, .int 0, .int 0, .int 0] [] [] [] M L kd tys f s.heap [] := ⟨_, _, _, _, _, CI.start hP hK rfl hL0⟩
  have hl := lv_entry ([.ref h0]) (n := 1) (Nat.le_of_ble_eq_true rfl)
  rw [lg_entry_eq]
  generalize (lg_sl ([.ref h0]) ++ List.replicate (1 - (lg_sl ([.ref h0])).length) Slot.unset).toArray = ls at hl ⊢
  have hl : lv_has ls 1 [(0, .ref h0)] := hl
  have C := C.pr 0 (.int 0) (t := (0, (-2147483648), 2147483647)) rfl rfl (⟨_, rfl, by decide, by decide⟩)
  have C := C.pr 1 (.int 0) (t := (0, (-2147483648), 2147483647)) rfl rfl (⟨_, rfl, by decide, by decide⟩)
  have C := C.pr 2 (.int 0) (t := (0, (-2147483648), 2147483647)) rfl rfl (⟨_, rfl, by decide, by decide⟩)
  have C := C.pr 3 (.int 0) (t := (0, (-2147483648), 2147483647)) rfl rfl (⟨_, rfl, by decide, by decide⟩)
  have C := C.pr 4 (.int 0) (t := (0, (-2147483648), 2147483647)) rfl rfl (⟨_, rfl, by decide, by decide⟩)
  have C := C.pr 5 (.long 0) (t := (1, 0, 0)) rfl rfl (⟨_, rfl⟩)
  have C := C.pr 6 (.int 0) (t := (0, 0, 3)) rfl rfl (⟨_, rfl, by decide, by decide⟩)
  have C := C.pr 14 (.int 0) (t := (0, (-2147483648), 2147483647)) rfl rfl (⟨_, rfl, by decide, by decide⟩)
  have C := C.pr 15 (.int 0) (t := (0, (-2147483648), 2147483647)) rfl rfl (⟨_, rfl, by decide, by decide⟩)
  have C := C.pr 16 (.int 0) (t := (0, (-2147483648), 2147483647)) rfl rfl (⟨_, rfl, by decide, by decide⟩)
  refine lv_aload_n hx hb dX4_init_0 rfl (lv_at hl 0 rfl) ?_
  refine W.objInit hx hb hown (hts _ (List.mem_cons_of_mem _ t_834)) (hts _ (List.mem_cons_of_mem _ t_213)) (hts _ (List.mem_cons_of_mem _ t_214)) rfl (by rw [hml]; exact hl.1) rfl dX4_init_1 (Nat.le_of_ble_eq_true rfl) (Nat.le_of_ble_eq_true rfl) ?_
  refine W.eq (g2 := F0 m 4 ls []) rfl ?_
  refine lv_aload_n hx hb dX4_init_4 rfl (lv_at hl 0 rfl) ?_
  refine lv_iconst (v := 3) hx hb dX4_init_5 (by decide) ?_
  refine c_newa (atype := .int) (ty := .int) (N' := 3) (a0 := (3, .inl (fun _ => 0))) hx hb (hts _ (List.mem_cons_of_mem _ t_320)) rfl C 126 (fun _ => rfl) (by decide) (by decide) (by decide) (zo_i (by decide) rfl ⟨by decide, by decide⟩) (zz_i) (Nat.le_of_ble_eq_true rfl) (Nat.le_of_ble_eq_true rfl) dX4_init_6 (fun q_1 M L kd tys f H hq_1 hmo htn hty C => ?_)
  refine W.widen (k := 1) (n := 3) (Nat.le_of_ble_eq_true rfl) (Nat.le_of_ble_eq_true rfl) ?_
  refine c_putF (v := .ref q_1) (t := (2, 126, 126)) (CC := RX4) (T := TX4) (N := 17) hx hb hts (mc_ inX4) tyX4 tyX4_ok nmX4 hown C rfl 7 (by decide) rfl (hts _ (List.mem_cons_of_mem _ t_853)) (fun _ h9 => h9) rfl hin rfl rfl (okr hq_1 ⟨by decide, by decide⟩) rfl rfl (kn' := [(16, .int 0), (15, .int 0), (14, .int 0), (6, .int 0), (5, .long 0), (4, .int 0), (3, .int 0), (2, .int 0), (1, .int 0), (0, .int 0)]) rfl dX4_init_8 (fun fs H locs C => ?_)
  refine lv_aload_n hx hb dX4_init_11 rfl (lv_at hl 0 rfl) ?_
  refine lv_iconst (v := 3) hx hb dX4_init_12 (by decide) ?_
  refine c_newa (atype := .int) (ty := .int) (N' := 3) (a0 := (3, .inl (fun _ => 0))) hx hb (hts _ (List.mem_cons_of_mem _ t_320)) rfl C 127 (fun _ => rfl) (by decide) (by decide) (by decide) (zo_i (by decide) rfl ⟨by decide, by decide⟩) (zz_i) (Nat.le_of_ble_eq_true rfl) (Nat.le_of_ble_eq_true rfl) dX4_init_13 (fun q_2 M L kd tys f H hq_2 hmo htn hty C => ?_)
  refine W.widen (k := 2) (n := 6) (Nat.le_of_ble_eq_true rfl) (Nat.le_of_ble_eq_true rfl) ?_
  refine c_putF (v := .ref q_2) (t := (2, 127, 127)) (CC := RX4) (T := TX4) (N := 17) hx hb hts (mc_ inX4) tyX4 tyX4_ok nmX4 hown C rfl 8 (by decide) rfl (hts _ (List.mem_cons_of_mem _ t_856)) (fun _ h9 => h9) rfl hin rfl rfl (okr hq_2 ⟨by decide, by decide⟩) rfl rfl (kn' := [(7, .ref q_1), (16, .int 0), (15, .int 0), (14, .int 0), (6, .int 0), (5, .long 0), (4, .int 0), (3, .int 0), (2, .int 0), (1, .int 0), (0, .int 0)]) rfl dX4_init_15 (fun fs H locs C => ?_)
  refine lv_aload_n hx hb dX4_init_18 rfl (lv_at hl 0 rfl) ?_
  refine lv_iconst (v := 3) hx hb dX4_init_19 (by decide) ?_
  refine lv_bipush (v := 24) hx hb dX4_init_20 (by decide) ?_
  refine c_mna (n := 3) (k := 24) (N' := 3) (K' := 24) (K := 128) (K2 := 101) (lo := (-2147483648)) (hi := 2147483647) hx hb hown (hts _ (List.mem_cons_of_mem _ t_835)) hAm.1.2.2.1 (hts _ (List.mem_cons_of_mem _ t_320)) C hty (by decide) (by decide) (by decide) (by decide) (by decide) (by decide) (by decide) (Nat.le_of_ble_eq_true rfl) (Nat.le_of_ble_eq_true rfl) rfl rfl ⟨by decide, by decide⟩ (by decide) (by decide) dX4_init_22 (fun q_3 r_4 M L kd tys f H hq_3 hmo hty hmn_q_3 hne_q_3 C => ?_)
  refine W.widen (k := 6) (n := 81) (Nat.le_of_ble_eq_true rfl) (Nat.le_of_ble_eq_true rfl) ?_
  refine c_putF (v := .ref q_3) (t := (2, 128, 128)) (CC := RX4) (T := TX4) (N := 17) hx hb hts (mc_ inX4) tyX4 tyX4_ok nmX4 hown C rfl 9 (by decide) rfl (hts _ (List.mem_cons_of_mem _ t_859)) (fun _ h9 => h9) rfl hin rfl rfl (okr hq_3 ⟨by decide, by decide⟩) rfl rfl (kn' := [(8, .ref q_2), (7, .ref q_1), (16, .int 0), (15, .int 0), (14, .int 0), (6, .int 0), (5, .long 0), (4, .int 0), (3, .int 0), (2, .int 0), (1, .int 0), (0, .int 0)]) rfl dX4_init_26 (fun fs H locs C => ?_)
  refine lv_aload_n hx hb dX4_init_29 rfl (lv_at hl 0 rfl) ?_
  refine lv_iconst (v := 3) hx hb dX4_init_30 (by decide) ?_
  refine lv_bipush (v := 24) hx hb dX4_init_31 (by decide) ?_
  refine c_mna (n := 3) (k := 24) (N' := 3) (K' := 24) (K := 129) (K2 := 101) (lo := (-2147483648)) (hi := 2147483647) hx hb hown (hts _ (List.mem_cons_of_mem _ t_835)) hAm.1.2.2.1 (hts _ (List.mem_cons_of_mem _ t_320)) C hty (by decide) (by decide) (by decide) (by decide) (by decide) (by decide) (by decide) (Nat.le_of_ble_eq_true rfl) (Nat.le_of_ble_eq_true rfl) rfl rfl ⟨by decide, by decide⟩ (by decide) (by decide) dX4_init_33 (fun q_5 r_6 M L kd tys f H hq_5 hmo hty hmn_q_5 hne_q_5 C => ?_)
  refine W.widen (k := 10) (n := 156) (Nat.le_of_ble_eq_true rfl) (Nat.le_of_ble_eq_true rfl) ?_
  refine c_putF (v := .ref q_5) (t := (2, 129, 129)) (CC := RX4) (T := TX4) (N := 17) hx hb hts (mc_ inX4) tyX4 tyX4_ok nmX4 hown C rfl 10 (by decide) rfl (hts _ (List.mem_cons_of_mem _ t_862)) (fun _ h9 => h9) rfl hin rfl rfl (okr hq_5 ⟨by decide, by decide⟩) rfl rfl (kn' := [(9, .ref q_3), (8, .ref q_2), (7, .ref q_1), (16, .int 0), (15, .int 0), (14, .int 0), (6, .int 0), (5, .long 0), (4, .int 0), (3, .int 0), (2, .int 0), (1, .int 0), (0, .int 0)]) rfl dX4_init_37 (fun fs H locs C => ?_)
  refine lv_aload_n hx hb dX4_init_40 rfl (lv_at hl 0 rfl) ?_
  refine lv_bipush (v := 24) hx hb dX4_init_41 (by decide) ?_
  refine c_newa (atype := .int) (ty := .int) (N' := 24) (a0 := (24, .inl (fun _ => 0))) hx hb (hts _ (List.mem_cons_of_mem _ t_320)) rfl C 102 (fun _ => rfl) (by decide) (by decide) (by decide) (zo_i (by decide) rfl ⟨by decide, by decide⟩) (zz_i) (Nat.le_of_ble_eq_true rfl) (Nat.le_of_ble_eq_true rfl) dX4_init_43 (fun q_7 M L kd tys f H hq_7 hmo htn hty C => ?_)
  refine W.widen (k := 11) (n := 180) (Nat.le_of_ble_eq_true rfl) (Nat.le_of_ble_eq_true rfl) ?_
  refine c_putF (v := .ref q_7) (t := (2, 102, 102)) (CC := RX4) (T := TX4) (N := 17) hx hb hts (mc_ inX4) tyX4 tyX4_ok nmX4 hown C rfl 11 (by decide) rfl (hts _ (List.mem_cons_of_mem _ t_865)) (fun _ h9 => h9) rfl hin rfl rfl (okr hq_7 ⟨by decide, by decide⟩) rfl rfl (kn' := [(10, .ref q_5), (9, .ref q_3), (8, .ref q_2), (7, .ref q_1), (16, .int 0), (15, .int 0), (14, .int 0), (6, .int 0), (5, .long 0), (4, .int 0), (3, .int 0), (2, .int 0), (1, .int 0), (0, .int 0)]) rfl dX4_init_45 (fun fs H locs C => ?_)
  refine lv_aload_n hx hb dX4_init_48 rfl (lv_at hl 0 rfl) ?_
  refine lv_bipush (v := 10) hx hb dX4_init_49 (by decide) ?_
  refine c_newa (atype := .int) (ty := .int) (N' := 10) (a0 := (10, .inl (fun _ => 0))) hx hb (hts _ (List.mem_cons_of_mem _ t_320)) rfl C 130 (fun _ => rfl) (by decide) (by decide) (by decide) (zo_i (by decide) rfl ⟨by decide, by decide⟩) (zz_i) (Nat.le_of_ble_eq_true rfl) (Nat.le_of_ble_eq_true rfl) dX4_init_51 (fun q_8 M L kd tys f H hq_8 hmo htn hty C => ?_)
  refine W.widen (k := 12) (n := 190) (Nat.le_of_ble_eq_true rfl) (Nat.le_of_ble_eq_true rfl) ?_
  refine c_putF (v := .ref q_8) (t := (2, 130, 130)) (CC := RX4) (T := TX4) (N := 17) hx hb hts (mc_ inX4) tyX4 tyX4_ok nmX4 hown C rfl 12 (by decide) rfl (hts _ (List.mem_cons_of_mem _ t_867)) (fun _ h9 => h9) rfl hin rfl rfl (okr hq_8 ⟨by decide, by decide⟩) rfl rfl (kn' := [(11, .ref q_7), (10, .ref q_5), (9, .ref q_3), (8, .ref q_2), (7, .ref q_1), (16, .int 0), (15, .int 0), (14, .int 0), (6, .int 0), (5, .long 0), (4, .int 0), (3, .int 0), (2, .int 0), (1, .int 0), (0, .int 0)]) rfl dX4_init_53 (fun fs H locs C => ?_)
  refine lv_aload_n hx hb dX4_init_56 rfl (lv_at hl 0 rfl) ?_
  refine lv_bipush (v := 10) hx hb dX4_init_57 (by decide) ?_
  refine c_newa (atype := .int) (ty := .int) (N' := 10) (a0 := (10, .inl (fun _ => 0))) hx hb (hts _ (List.mem_cons_of_mem _ t_320)) rfl C 131 (fun _ => rfl) (by decide) (by decide) (by decide) (zo_i (by decide) rfl ⟨by decide, by decide⟩) (zz_i) (Nat.le_of_ble_eq_true rfl) (Nat.le_of_ble_eq_true rfl) dX4_init_59 (fun q_9 M L kd tys f H hq_9 hmo htn hty C => ?_)
  refine W.widen (k := 13) (n := 200) (Nat.le_of_ble_eq_true rfl) (Nat.le_of_ble_eq_true rfl) ?_
  refine c_putF (v := .ref q_9) (t := (2, 131, 131)) (CC := RX4) (T := TX4) (N := 17) hx hb hts (mc_ inX4) tyX4 tyX4_ok nmX4 hown C rfl 13 (by decide) rfl (hts _ (List.mem_cons_of_mem _ t_870)) (fun _ h9 => h9) rfl hin rfl rfl (okr hq_9 ⟨by decide, by decide⟩) rfl rfl (kn' := [(12, .ref q_8), (11, .ref q_7), (10, .ref q_5), (9, .ref q_3), (8, .ref q_2), (7, .ref q_1), (16, .int 0), (15, .int 0), (14, .int 0), (6, .int 0), (5, .long 0), (4, .int 0), (3, .int 0), (2, .int 0), (1, .int 0), (0, .int 0)]) rfl dX4_init_61 (fun fs H locs C => ?_)
  refine lv_aload_n hx hb dX4_init_64 rfl (lv_at hl 0 rfl) ?_
  refine lv_iconst (v := (-1)) hx hb dX4_init_65 (by decide) ?_
  refine c_put (v := .int (-1)) (t := (0, (-2147483648), 2147483647)) (CC := RX4) (T := TX4) (N := 17) hx hb hts (mc_ inX4) tyX4 tyX4_ok nmX4 hown C rfl 1 (by decide) rfl (hts _ (List.mem_cons_of_mem _ t_839)) (fun _ h9 => h9) rfl rfl (⟨_, rfl, by decide, by decide⟩) rfl rfl (kn' := [(13, .ref q_9), (12, .ref q_8), (11, .ref q_7), (10, .ref q_5), (9, .ref q_3), (8, .ref q_2), (7, .ref q_1), (16, .int 0), (15, .int 0), (14, .int 0), (6, .int 0), (5, .long 0), (4, .int 0), (3, .int 0), (2, .int 0), (0, .int 0)]) rfl dX4_init_66 (fun fs H locs C => ?_)
  refine lv_aload_n hx hb dX4_init_69 rfl (lv_at hl 0 rfl) ?_
  refine lv_iconst (v := (-1)) hx hb dX4_init_70 (by decide) ?_
  refine c_put (v := .int (-1)) (t := (0, (-2147483648), 2147483647)) (CC := RX4) (T := TX4) (N := 17) hx hb hts (mc_ inX4) tyX4 tyX4_ok nmX4 hown C rfl 2 (by decide) rfl (hts _ (List.mem_cons_of_mem _ t_841)) (fun _ h9 => h9) rfl rfl (⟨_, rfl, by decide, by decide⟩) rfl rfl (kn' := [(1, .int (-1)), (13, .ref q_9), (12, .ref q_8), (11, .ref q_7), (10, .ref q_5), (9, .ref q_3), (8, .ref q_2), (7, .ref q_1), (16, .int 0), (15, .int 0), (14, .int 0), (6, .int 0), (5, .long 0), (4, .int 0), (3, .int 0), (0, .int 0)]) rfl dX4_init_71 (fun fs H locs C => ?_)
  refine lv_aload_n hx hb dX4_init_74 rfl (lv_at hl 0 rfl) ?_
  refine lv_iconst (v := (-1)) hx hb dX4_init_75 (by decide) ?_
  refine c_put (v := .int (-1)) (t := (0, (-2147483648), 2147483647)) (CC := RX4) (T := TX4) (N := 17) hx hb hts (mc_ inX4) tyX4 tyX4_ok nmX4 hown C rfl 3 (by decide) rfl (hts _ (List.mem_cons_of_mem _ t_843)) (fun _ h9 => h9) rfl rfl (⟨_, rfl, by decide, by decide⟩) rfl rfl (kn' := [(2, .int (-1)), (1, .int (-1)), (13, .ref q_9), (12, .ref q_8), (11, .ref q_7), (10, .ref q_5), (9, .ref q_3), (8, .ref q_2), (7, .ref q_1), (16, .int 0), (15, .int 0), (14, .int 0), (6, .int 0), (5, .long 0), (4, .int 0), (0, .int 0)]) rfl dX4_init_76 (fun fs H locs C => ?_)
  refine lv_aload_n hx hb dX4_init_79 rfl (lv_at hl 0 rfl) ?_
  refine lv_iconst (v := (-1)) hx hb dX4_init_80 (by decide) ?_
  refine c_put (v := .int (-1)) (t := (0, (-2147483648), 2147483647)) (CC := RX4) (T := TX4) (N := 17) hx hb hts (mc_ inX4) tyX4 tyX4_ok nmX4 hown C rfl 4 (by decide) rfl (hts _ (List.mem_cons_of_mem _ t_845)) (fun _ h9 => h9) rfl rfl (⟨_, rfl, by decide, by decide⟩) rfl rfl (kn' := [(3, .int (-1)), (2, .int (-1)), (1, .int (-1)), (13, .ref q_9), (12, .ref q_8), (11, .ref q_7), (10, .ref q_5), (9, .ref q_3), (8, .ref q_2), (7, .ref q_1), (16, .int 0), (15, .int 0), (14, .int 0), (6, .int 0), (5, .long 0), (0, .int 0)]) rfl dX4_init_81 (fun fs H locs C => ?_)
  refine W.vret hx hb hr (fun t ht hW => ⟨⟨(), rfl, trivial, c_exit C (by decide) (by decide +kernel : ∀ j, j < (FS 4).length → j ∈ [4, 3, 2, 1, 13, 12, 11, 10, 9, 8, 7, 16, 15, 14, 6, 5, 4, 3, 2, 1, 0]) ht hW ?_⟩, C.2.2.2.1.F ht⟩) C.2.2.2.1.2.2 dX4_init_84 hlocks
  exact trivial

