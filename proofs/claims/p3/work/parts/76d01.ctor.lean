set_option maxHeartbeats 4000000 in
set_option maxRecDepth 100000 in
theorem k_X7_init (l : Launch) (dC : Nat → ClassId) (dI : Nat → Nat → Nat) (adK adV : Nat → Nat) (h0 : Nat) (kd0 : Nat → Nat) (sz : Nat) : Met l yX7_init (.code yX7_init cX7_init 2 none :: lw_g) ({ frames := 2, cells := 348, slots := 10288, locals := 40 }) (va_Pc [.ref h0] (CPre (dC, dI) h0 (.inr (7, [.null, .int 0, .null, .int 0, .null, .null, .int 0, .null, .null, .null, .null, .null, .null, .int 0, .null, .int 0, .null, .int 0, .int 0])) [] adK adV sz)) (va_Qv (fun _ : Unit => True) (fun (_ : Unit) (t : State) => CP (dC, dI) [] kd0 7 h0 (.inr (7, [.null, .int 0, .null, .int 0, .null, .null, .int 0, .null, .null, .null, .null, .null, .null, .int 0, .null, .int 0, .null, .int 0, .int 0])) sz (fun (L : List Nat) (kd : Nat → Nat) (f : Nat → va_E) => fV f h0 6 = .int 0) t) (va_A [(h0, .inr (7, [.null, .int 0, .null, .int 0, .null, .null, .int 0, .null, .null, .null, .null, .null, .null, .int 0, .null, .int 0, .null, .int 0, .int 0]))] sz)) 348 10288 (va_A [(h0, .inr (7, [.null, .int 0, .null, .int 0, .null, .null, .int 0, .null, .null, .null, .null, .null, .null, .int 0, .null, .int 0, .null, .int 0, .int 0]))] sz) := by
  refine Met.ofW (cc := cX7_init) (maxL := 2) (ret := none) (by decide) rfl ?_
  intro p e s m args below meth c s₁ B hml hv
  obtain ⟨rfl, hsz, hP, hK, hD0, hAm, hL0⟩ := hv
  have hx := B.exec
  have hb := B.bytes
  have hr := B.returns
  have hts := atoms_spec (ws := (.code yX7_init cX7_init 2 none :: lw_g)) B.pre
  have hown : s.vm.findClass RX7 = some m.cls := findClass_of_methodNamed B.named
  have hlocks := B.notSynchronized
  have hin : meth.name = "<init>" := (name_of_methodNamed B.named B.method).1
  subst hsz
  obtain ⟨M, L, kd, tys, f, C⟩ : ∃ (M L : List Nat) (kd : Nat → Nat) (tys : List (ClassId × FieldType)) (f : Nat → va_E), CI (dC, dI) s h0 (.inr (7, [.null, .int 0, .null, .int 0, .null, .null, .int 0, .null, .null, .null, .null, .null, .null, .int 0, .null, .int 0, .null, .int 0, .int 0])) [] kd0 7 [.null, .int 0, .null, .int 0, .null, .null, .int 0, .null, .null, .null, .null, .null, .null, .int 0, .null, .int 0, .null, .int 0, .int 0] [] [] [] M L kd tys f s.heap [] := ⟨_, _, _, _, _, CI.start hP hK rfl hL0⟩
  have hl := lv_entry ([.ref h0]) (n := 2) (Nat.le_of_ble_eq_true rfl)
  rw [lg_entry_eq]
  generalize (lg_sl ([.ref h0]) ++ List.replicate (2 - (lg_sl ([.ref h0])).length) Slot.unset).toArray = ls at hl ⊢
  have hl : lv_has ls 2 [(0, .ref h0)] := hl
  have C := C.pr 1 (.int 0) (t := (0, 0, 8)) rfl rfl (⟨_, rfl, by decide, by decide⟩)
  have C := C.pr 3 (.int 0) (t := (0, 0, 96)) rfl rfl (⟨_, rfl, by decide, by decide⟩)
  have C := C.pr 6 (.int 0) (t := (0, 0, 2000)) rfl rfl (⟨_, rfl, by decide, by decide⟩)
  have C := C.pr 13 (.int 0) (t := (0, 0, 500)) rfl rfl (⟨_, rfl, by decide, by decide⟩)
  have C := C.pr 15 (.int 0) (t := (0, 0, 420)) rfl rfl (⟨_, rfl, by decide, by decide⟩)
  have C := C.pr 17 (.int 0) (t := (0, 0, 420)) rfl rfl (⟨_, rfl, by decide, by decide⟩)
  have C := C.pr 18 (.int 0) (t := (0, (-2147483648), 2147483647)) rfl rfl (⟨_, rfl, by decide, by decide⟩)
  refine lv_aload_n hx hb dX7_init_0 rfl (lv_at hl 0 rfl) ?_
  refine W.objInit hx hb hown (hts _ (List.mem_cons_of_mem _ t_470)) (hts _ (List.mem_cons_of_mem _ t_213)) (hts _ (List.mem_cons_of_mem _ t_214)) rfl (by rw [hml]; exact hl.1) rfl dX7_init_1 (Nat.le_of_ble_eq_true rfl) (Nat.le_of_ble_eq_true rfl) ?_
  refine W.eq (g2 := F0 m 4 ls []) rfl ?_
  refine lv_aload_n hx hb dX7_init_4 rfl (lv_at hl 0 rfl) ?_
  refine lv_bipush (v := 8) hx hb dX7_init_5 (by decide) ?_
  refine c_newq (C2 := RX9) (N' := 8) hx hb hown (hts _ (List.mem_cons_of_mem _ t_471)) hAm.1.1 C 136 (by decide) (by decide) (by decide) (Nat.le_of_ble_eq_true rfl) (Nat.le_of_ble_eq_true rfl) dX7_init_7 (fun q_1 k_2 M kd tys H hq_1 hmo hty_q_1 C => ?_)
  have C : CI (dC, dI) s h0 (.inr (7, [.null, .int 0, .null, .int 0, .null, .null, .int 0, .null, .null, .null, .null, .null, .null, .int 0, .null, .int 0, .null, .int 0, .int 0])) [] kd0 7 [.null, .int 0, .null, .int 0, .null, .null, .int 0, .null, .null, .null, .null, .null, .null, .int 0, .null, .int 0, .null, .int 0, .int 0] [18, 17, 15, 13, 6, 3, 1] [(18, .int 0), (17, .int 0), (15, .int 0), (13, .int 0), (6, .int 0), (3, .int 0), (1, .int 0)] [(q_1, .inl (k_2, 8, .inr (.inr (.inr (.inr (fun _ => none))))))] M _ kd tys _ H [] := C
  refine W.widen (k := 1) (n := 8) (Nat.le_of_ble_eq_true rfl) (Nat.le_of_ble_eq_true rfl) ?_
  refine c_putF (v := .ref q_1) (t := (2, 136, 136)) (CC := RX7) (T := TX7) (N := 19) hx hb hts (mc_ inX7) tyX7 tyX7_ok nmX7 hown C rfl 0 (by decide) rfl (hts _ (List.mem_cons_of_mem _ t_620)) (fun _ h9 => h9) rfl hin rfl rfl (okr hq_1 ⟨by decide, by decide⟩) rfl rfl (kn' := [(18, .int 0), (17, .int 0), (15, .int 0), (13, .int 0), (6, .int 0), (3, .int 0), (1, .int 0)]) rfl dX7_init_10 (fun fs H locs C => ?_)
  refine lv_iconst (v := 0) hx hb dX7_init_13 (by decide) ?_
  refine lv_istore_n (lv' := [(1, .int 0), (0, .ref h0)]) hx hb dX7_init_14 rfl hl (by decide) rfl (fun ls hl => ?_)
  refine W_q (fun Q hQ => ?_)
  have loop_6 : ∀ (n_4 i_3 : Nat), i_3 + n_4 = 8 → ∀ (x_5 : Int32), x_5 = nI i_3 → ∀ (g : Nat → Option Nat) (M L : List Nat) (kd : Nat → Nat) (tys : List (ClassId × FieldType)) (f : Nat → va_E) (H : Heap) (locs : List Loc) (ls : Array Slot), RG L kd 9 g i_3 → (k_2, .object RX9) ∈ tys → CI (dC, dI) s h0 (.inr (7, [.null, .int 0, .null, .int 0, .null, .null, .int 0, .null, .null, .null, .null, .null, .null, .int 0, .null, .int 0, .null, .int 0, .int 0])) [] kd0 7 fs [0, 18, 17, 15, 13, 6, 3, 1] [(0, .ref q_1), (18, .int 0), (17, .int 0), (15, .int 0), (13, .int 0), (6, .int 0), (3, .int 0), (1, .int 0)] [(q_1, .inl (k_2, 8, .inr (.inr (.inr (.inr g)))))] M L kd tys f H locs → lv_has ls 2 [(1, .int x_5), (0, .ref h0)] → W p l e ({ frames := 2, cells := 348, slots := 10288, locals := 40 } : Room) s m [.ref h0].toArray below meth c H locs (1 + 6 * i_3) (8 + 65 * i_3) Q (F0 m 15 ls []) := by
    intro n_4
    induction n_4 with
    | zero =>
      intro i_3 hi x_5 ex g M L kd tys f H locs ls hRG hty_q_1 C hl
      obtain rfl : i_3 = 8 := by omega
      obtain rfl : x_5 = 8 := ex.trans (by decide)
      refine W.widen (k := 49) (n := 528) (Nat.le_of_ble_eq_true rfl) (Nat.le_of_ble_eq_true rfl) ?_
      obtain ⟨C, hmo⟩ := c_abs C (C.fr (K := 136) 0 rfl (by decide) rfl).1 (by rw [(C.fr (K := 136) 0 rfl (by decide) rfl).2]; exact RG.ok C hRG rfl (by decide) (Or.inl ⟨rfl, rfl⟩) hty_q_1) (fun g9 h9 i => by unfold aI; rw [h9])
      refine lv_iload_n hx hb dX7_init_15 rfl (lv_at hl 0 rfl) ?_
      refine lv_bipush (v := 8) hx hb dX7_init_16 (by decide) ?_
      refine lv_icmp_ge (tgt := 40) hx hb dX7_init_18 (by decide) (fun c_ => ?_) (fun c_ => absurd (by decide) c_)
      refine lv_aload_n hx hb dX7_init_40 rfl (lv_at hl 1 rfl) ?_
      refine lv_bipush (v := 96) hx hb dX7_init_41 (by decide) ?_
      refine c_newq (C2 := RX6) (N' := 96) hx hb hown (hts _ (List.mem_cons_of_mem _ t_548)) hAm.1.2.1 C 137 (by decide) (by decide) (by decide) (Nat.le_of_ble_eq_true rfl) (Nat.le_of_ble_eq_true rfl) dX7_init_43 (fun q_7 k_8 M kd tys H hq_7 hmo hty_q_7 C => ?_)
      have C : CI (dC, dI) s h0 (.inr (7, [.null, .int 0, .null, .int 0, .null, .null, .int 0, .null, .null, .null, .null, .null, .null, .int 0, .null, .int 0, .null, .int 0, .int 0])) [] kd0 7 fs [0, 18, 17, 15, 13, 6, 3, 1] [(0, .ref q_1), (18, .int 0), (17, .int 0), (15, .int 0), (13, .int 0), (6, .int 0), (3, .int 0), (1, .int 0)] [(q_7, .inl (k_8, 96, .inr (.inr (.inr (.inr (fun _ => none))))))] M _ kd tys _ H locs := C
      refine W.widen (k := 50) (n := 624) (Nat.le_of_ble_eq_true rfl) (Nat.le_of_ble_eq_true rfl) ?_
      refine c_putF (v := .ref q_7) (t := (2, 137, 137)) (CC := RX7) (T := TX7) (N := 19) hx hb hts (mc_ inX7) tyX7 tyX7_ok nmX7 hown C rfl 2 (by decide) rfl (hts _ (List.mem_cons_of_mem _ t_629)) (fun _ h9 => h9) rfl hin rfl rfl (okr hq_7 ⟨by decide, by decide⟩) rfl rfl (kn' := [(0, .ref q_1), (18, .int 0), (17, .int 0), (15, .int 0), (13, .int 0), (6, .int 0), (3, .int 0), (1, .int 0)]) rfl dX7_init_46 (fun fs H locs C => ?_)
      refine lv_iconst (v := 0) hx hb dX7_init_49 (by decide) ?_
      refine lv_istore_n (lv' := [(1, .int 0), (0, .ref h0)]) hx hb dX7_init_50 rfl hl (by decide) rfl (fun ls hl => ?_)
      have loop_12 : ∀ (n_10 i_9 : Nat), i_9 + n_10 = 96 → ∀ (x_11 : Int32), x_11 = nI i_9 → ∀ (g : Nat → Option Nat) (M L : List Nat) (kd : Nat → Nat) (tys : List (ClassId × FieldType)) (f : Nat → va_E) (H : Heap) (locs : List Loc) (ls : Array Slot), RG L kd 6 g i_9 → (k_8, .object RX6) ∈ tys → CI (dC, dI) s h0 (.inr (7, [.null, .int 0, .null, .int 0, .null, .null, .int 0, .null, .null, .null, .null, .null, .null, .int 0, .null, .int 0, .null, .int 0, .int 0])) [] kd0 7 fs [2, 0, 18, 17, 15, 13, 6, 3, 1] [(2, .ref q_7), (0, .ref q_1), (18, .int 0), (17, .int 0), (15, .int 0), (13, .int 0), (6, .int 0), (3, .int 0), (1, .int 0)] [(q_7, .inl (k_8, 96, .inr (.inr (.inr (.inr g)))))] M L kd tys f H locs → lv_has ls 2 [(1, .int x_11), (0, .ref h0)] → W p l e ({ frames := 2, cells := 348, slots := 10288, locals := 40 } : Room) s m [.ref h0].toArray below meth c H locs (50 + 3 * i_9) (624 + 19 * i_9) Q (F0 m 51 ls []) := by
        intro n_10
        induction n_10 with
        | zero =>
          intro i_9 hi x_11 ex g M L kd tys f H locs ls hRG hty_q_7 C hl
          obtain rfl : i_9 = 96 := by omega
          obtain rfl : x_11 = 96 := ex.trans (by decide)
          refine W.widen (k := 338) (n := 2448) (Nat.le_of_ble_eq_true rfl) (Nat.le_of_ble_eq_true rfl) ?_
          obtain ⟨C, hmo⟩ := c_abs C (C.fr (K := 137) 0 rfl (by decide) rfl).1 (by rw [(C.fr (K := 137) 0 rfl (by decide) rfl).2]; exact RG.ok C hRG rfl (by decide) (Or.inr ⟨rfl, rfl⟩) hty_q_7) (fun g9 h9 i => by unfold aI; rw [h9])
          refine lv_iload_n hx hb dX7_init_51 rfl (lv_at hl 0 rfl) ?_
          refine lv_bipush (v := 96) hx hb dX7_init_52 (by decide) ?_
          refine lv_icmp_ge (tgt := 76) hx hb dX7_init_54 (by decide) (fun c_ => ?_) (fun c_ => absurd (by decide) c_)
          refine lv_aload_n hx hb dX7_init_76 rfl (lv_at hl 1 rfl) ?_
          refine lv_sipush (v := 2000) hx hb dX7_init_77 (by decide) ?_
          refine c_newa (atype := .int) (ty := .int) (N' := 2000) (a0 := (2000, .inl (fun _ => 0))) hx hb (hts _ (List.mem_cons_of_mem _ t_320)) rfl C 138 (fun _ => rfl) (by decide) (by decide) (by decide) (zo_i (by decide) rfl ⟨by decide, by decide⟩) (zz_i) (Nat.le_of_ble_eq_true rfl) (Nat.le_of_ble_eq_true rfl) dX7_init_80 (fun q_13 M L kd tys f H hq_13 hmo htn hty C => ?_)
          refine W.widen (k := 339) (n := 4448) (Nat.le_of_ble_eq_true rfl) (Nat.le_of_ble_eq_true rfl) ?_
          refine c_putF (v := .ref q_13) (t := (2, 138, 138)) (CC := RX7) (T := TX7) (N := 19) hx hb hts (mc_ inX7) tyX7 tyX7_ok nmX7 hown C rfl 4 (by decide) rfl (hts _ (List.mem_cons_of_mem _ t_640)) (fun _ h9 => h9) rfl hin rfl rfl (okr hq_13 ⟨by decide, by decide⟩) rfl rfl (kn' := [(2, .ref q_7), (0, .ref q_1), (18, .int 0), (17, .int 0), (15, .int 0), (13, .int 0), (6, .int 0), (3, .int 0), (1, .int 0)]) rfl dX7_init_82 (fun fs H locs C => ?_)
          refine lv_aload_n hx hb dX7_init_85 rfl (lv_at hl 1 rfl) ?_
          refine lv_sipush (v := 2000) hx hb dX7_init_86 (by decide) ?_
          refine c_newa (atype := .int) (ty := .int) (N' := 2000) (a0 := (2000, .inl (fun _ => 0))) hx hb (hts _ (List.mem_cons_of_mem _ t_320)) rfl C 139 (fun _ => rfl) (by decide) (by decide) (by decide) (zo_i (by decide) rfl ⟨by decide, by decide⟩) (zz_i) (Nat.le_of_ble_eq_true rfl) (Nat.le_of_ble_eq_true rfl) dX7_init_89 (fun q_14 M L kd tys f H hq_14 hmo htn hty C => ?_)
          refine W.widen (k := 340) (n := 6448) (Nat.le_of_ble_eq_true rfl) (Nat.le_of_ble_eq_true rfl) ?_
          refine c_putF (v := .ref q_14) (t := (2, 139, 139)) (CC := RX7) (T := TX7) (N := 19) hx hb hts (mc_ inX7) tyX7 tyX7_ok nmX7 hown C rfl 5 (by decide) rfl (hts _ (List.mem_cons_of_mem _ t_642)) (fun _ h9 => h9) rfl hin rfl rfl (okr hq_14 ⟨by decide, by decide⟩) rfl rfl (kn' := [(4, .ref q_13), (2, .ref q_7), (0, .ref q_1), (18, .int 0), (17, .int 0), (15, .int 0), (13, .int 0), (6, .int 0), (3, .int 0), (1, .int 0)]) rfl dX7_init_91 (fun fs H locs C => ?_)
          refine lv_aload_n hx hb dX7_init_94 rfl (lv_at hl 1 rfl) ?_
          refine lv_sipush (v := 500) hx hb dX7_init_95 (by decide) ?_
          refine c_newa (atype := .int) (ty := .int) (N' := 500) (a0 := (500, .inl (fun _ => 0))) hx hb (hts _ (List.mem_cons_of_mem _ t_320)) rfl C 140 (fun _ => rfl) (by decide) (by decide) (by decide) (zo_i (by decide) rfl ⟨by decide, by decide⟩) (zz_i) (Nat.le_of_ble_eq_true rfl) (Nat.le_of_ble_eq_true rfl) dX7_init_98 (fun q_15 M L kd tys f H hq_15 hmo htn hty C => ?_)
          refine W.widen (k := 341) (n := 6948) (Nat.le_of_ble_eq_true rfl) (Nat.le_of_ble_eq_true rfl) ?_
          refine c_putF (v := .ref q_15) (t := (2, 140, 140)) (CC := RX7) (T := TX7) (N := 19) hx hb hts (mc_ inX7) tyX7 tyX7_ok nmX7 hown C rfl 7 (by decide) rfl (hts _ (List.mem_cons_of_mem _ t_648)) (fun _ h9 => h9) rfl hin rfl rfl (okr hq_15 ⟨by decide, by decide⟩) rfl rfl (kn' := [(5, .ref q_14), (4, .ref q_13), (2, .ref q_7), (0, .ref q_1), (18, .int 0), (17, .int 0), (15, .int 0), (13, .int 0), (6, .int 0), (3, .int 0), (1, .int 0)]) rfl dX7_init_100 (fun fs H locs C => ?_)
          refine lv_aload_n hx hb dX7_init_103 rfl (lv_at hl 1 rfl) ?_
          refine lv_sipush (v := 500) hx hb dX7_init_104 (by decide) ?_
          refine c_newa (atype := .int) (ty := .int) (N' := 500) (a0 := (500, .inl (fun _ => 0))) hx hb (hts _ (List.mem_cons_of_mem _ t_320)) rfl C 141 (fun _ => rfl) (by decide) (by decide) (by decide) (zo_i (by decide) rfl ⟨by decide, by decide⟩) (zz_i) (Nat.le_of_ble_eq_true rfl) (Nat.le_of_ble_eq_true rfl) dX7_init_107 (fun q_16 M L kd tys f H hq_16 hmo htn hty C => ?_)
          refine W.widen (k := 342) (n := 7448) (Nat.le_of_ble_eq_true rfl) (Nat.le_of_ble_eq_true rfl) ?_
          refine c_putF (v := .ref q_16) (t := (2, 141, 141)) (CC := RX7) (T := TX7) (N := 19) hx hb hts (mc_ inX7) tyX7 tyX7_ok nmX7 hown C rfl 8 (by decide) rfl (hts _ (List.mem_cons_of_mem _ t_651)) (fun _ h9 => h9) rfl hin rfl rfl (okr hq_16 ⟨by decide, by decide⟩) rfl rfl (kn' := [(7, .ref q_15), (5, .ref q_14), (4, .ref q_13), (2, .ref q_7), (0, .ref q_1), (18, .int 0), (17, .int 0), (15, .int 0), (13, .int 0), (6, .int 0), (3, .int 0), (1, .int 0)]) rfl dX7_init_109 (fun fs H locs C => ?_)
          refine lv_aload_n hx hb dX7_init_112 rfl (lv_at hl 1 rfl) ?_
          refine lv_sipush (v := 500) hx hb dX7_init_113 (by decide) ?_
          refine c_newa (atype := .int) (ty := .int) (N' := 500) (a0 := (500, .inl (fun _ => 0))) hx hb (hts _ (List.mem_cons_of_mem _ t_320)) rfl C 142 (fun _ => rfl) (by decide) (by decide) (by decide) (zo_i (by decide) rfl ⟨by decide, by decide⟩) (zz_i) (Nat.le_of_ble_eq_true rfl) (Nat.le_of_ble_eq_true rfl) dX7_init_116 (fun q_17 M L kd tys f H hq_17 hmo htn hty C => ?_)
          refine W.widen (k := 343) (n := 7948) (Nat.le_of_ble_eq_true rfl) (Nat.le_of_ble_eq_true rfl) ?_
          refine c_putF (v := .ref q_17) (t := (2, 142, 142)) (CC := RX7) (T := TX7) (N := 19) hx hb hts (mc_ inX7) tyX7 tyX7_ok nmX7 hown C rfl 9 (by decide) rfl (hts _ (List.mem_cons_of_mem _ t_654)) (fun _ h9 => h9) rfl hin rfl rfl (okr hq_17 ⟨by decide, by decide⟩) rfl rfl (kn' := [(8, .ref q_16), (7, .ref q_15), (5, .ref q_14), (4, .ref q_13), (2, .ref q_7), (0, .ref q_1), (18, .int 0), (17, .int 0), (15, .int 0), (13, .int 0), (6, .int 0), (3, .int 0), (1, .int 0)]) rfl dX7_init_118 (fun fs H locs C => ?_)
          refine lv_aload_n hx hb dX7_init_121 rfl (lv_at hl 1 rfl) ?_
          refine lv_sipush (v := 500) hx hb dX7_init_122 (by decide) ?_
          refine c_newa (atype := .int) (ty := .int) (N' := 500) (a0 := (500, .inl (fun _ => 0))) hx hb (hts _ (List.mem_cons_of_mem _ t_320)) rfl C 143 (fun _ => rfl) (by decide) (by decide) (by decide) (zo_i (by decide) rfl ⟨by decide, by decide⟩) (zz_i) (Nat.le_of_ble_eq_true rfl) (Nat.le_of_ble_eq_true rfl) dX7_init_125 (fun q_18 M L kd tys f H hq_18 hmo htn hty C => ?_)
          refine W.widen (k := 344) (n := 8448) (Nat.le_of_ble_eq_true rfl) (Nat.le_of_ble_eq_true rfl) ?_
          refine c_putF (v := .ref q_18) (t := (2, 143, 143)) (CC := RX7) (T := TX7) (N := 19) hx hb hts (mc_ inX7) tyX7 tyX7_ok nmX7 hown C rfl 10 (by decide) rfl (hts _ (List.mem_cons_of_mem _ t_658)) (fun _ h9 => h9) rfl hin rfl rfl (okr hq_18 ⟨by decide, by decide⟩) rfl rfl (kn' := [(9, .ref q_17), (8, .ref q_16), (7, .ref q_15), (5, .ref q_14), (4, .ref q_13), (2, .ref q_7), (0, .ref q_1), (18, .int 0), (17, .int 0), (15, .int 0), (13, .int 0), (6, .int 0), (3, .int 0), (1, .int 0)]) rfl dX7_init_127 (fun fs H locs C => ?_)
          refine lv_aload_n hx hb dX7_init_130 rfl (lv_at hl 1 rfl) ?_
          refine lv_sipush (v := 500) hx hb dX7_init_131 (by decide) ?_
          refine c_newa (atype := .int) (ty := .int) (N' := 500) (a0 := (500, .inl (fun _ => 0))) hx hb (hts _ (List.mem_cons_of_mem _ t_320)) rfl C 144 (fun _ => rfl) (by decide) (by decide) (by decide) (zo_i (by decide) rfl ⟨by decide, by decide⟩) (zz_i) (Nat.le_of_ble_eq_true rfl) (Nat.le_of_ble_eq_true rfl) dX7_init_134 (fun q_19 M L kd tys f H hq_19 hmo htn hty C => ?_)
          refine W.widen (k := 345) (n := 8948) (Nat.le_of_ble_eq_true rfl) (Nat.le_of_ble_eq_true rfl) ?_
          refine c_putF (v := .ref q_19) (t := (2, 144, 144)) (CC := RX7) (T := TX7) (N := 19) hx hb hts (mc_ inX7) tyX7 tyX7_ok nmX7 hown C rfl 11 (by decide) rfl (hts _ (List.mem_cons_of_mem _ t_661)) (fun _ h9 => h9) rfl hin rfl rfl (okr hq_19 ⟨by decide, by decide⟩) rfl rfl (kn' := [(10, .ref q_18), (9, .ref q_17), (8, .ref q_16), (7, .ref q_15), (5, .ref q_14), (4, .ref q_13), (2, .ref q_7), (0, .ref q_1), (18, .int 0), (17, .int 0), (15, .int 0), (13, .int 0), (6, .int 0), (3, .int 0), (1, .int 0)]) rfl dX7_init_136 (fun fs H locs C => ?_)
          refine lv_aload_n hx hb dX7_init_139 rfl (lv_at hl 1 rfl) ?_
          refine lv_sipush (v := 500) hx hb dX7_init_140 (by decide) ?_
          refine c_newa (atype := .long) (ty := .long) (N' := 500) (a0 := (500, .inr (.inl (fun _ => 0)))) hx hb (hts _ (List.mem_cons_of_mem _ t_321)) rfl C 145 (fun _ => rfl) (by decide) (by decide) (by decide) (zo_l (by decide) rfl) (zz_l) (Nat.le_of_ble_eq_true rfl) (Nat.le_of_ble_eq_true rfl) dX7_init_143 (fun q_20 M L kd tys f H hq_20 hmo htn hty C => ?_)
          refine W.widen (k := 346) (n := 9448) (Nat.le_of_ble_eq_true rfl) (Nat.le_of_ble_eq_true rfl) ?_
          refine c_putF (v := .ref q_20) (t := (2, 145, 145)) (CC := RX7) (T := TX7) (N := 19) hx hb hts (mc_ inX7) tyX7 tyX7_ok nmX7 hown C rfl 12 (by decide) rfl (hts _ (List.mem_cons_of_mem _ t_663)) (fun _ h9 => h9) rfl hin rfl rfl (okr hq_20 ⟨by decide, by decide⟩) rfl rfl (kn' := [(11, .ref q_19), (10, .ref q_18), (9, .ref q_17), (8, .ref q_16), (7, .ref q_15), (5, .ref q_14), (4, .ref q_13), (2, .ref q_7), (0, .ref q_1), (18, .int 0), (17, .int 0), (15, .int 0), (13, .int 0), (6, .int 0), (3, .int 0), (1, .int 0)]) rfl dX7_init_145 (fun fs H locs C => ?_)
          refine lv_aload_n hx hb dX7_init_148 rfl (lv_at hl 1 rfl) ?_
          refine lv_sipush (v := 420) hx hb dX7_init_149 (by decide) ?_
          refine c_newa (atype := .boolean) (ty := .boolean) (N' := 420) (a0 := (420, .inl (fun _ => 0))) hx hb (hts _ (List.mem_cons_of_mem _ t_722)) rfl C 146 (fun _ => rfl) (by decide) (by decide) (by decide) (zo_z (by decide) rfl ⟨by decide, by decide⟩) (zz_i) (Nat.le_of_ble_eq_true rfl) (Nat.le_of_ble_eq_true rfl) dX7_init_152 (fun q_21 M L kd tys f H hq_21 hmo htn hty C => ?_)
          refine W.widen (k := 347) (n := 9868) (Nat.le_of_ble_eq_true rfl) (Nat.le_of_ble_eq_true rfl) ?_
          refine c_putF (v := .ref q_21) (t := (2, 146, 146)) (CC := RX7) (T := TX7) (N := 19) hx hb hts (mc_ inX7) tyX7 tyX7_ok nmX7 hown C rfl 14 (by decide) rfl (hts _ (List.mem_cons_of_mem _ t_671)) (fun _ h9 => h9) rfl hin rfl rfl (okr hq_21 ⟨by decide, by decide⟩) rfl rfl (kn' := [(12, .ref q_20), (11, .ref q_19), (10, .ref q_18), (9, .ref q_17), (8, .ref q_16), (7, .ref q_15), (5, .ref q_14), (4, .ref q_13), (2, .ref q_7), (0, .ref q_1), (18, .int 0), (17, .int 0), (15, .int 0), (13, .int 0), (6, .int 0), (3, .int 0), (1, .int 0)]) rfl dX7_init_154 (fun fs H locs C => ?_)
          refine lv_aload_n hx hb dX7_init_157 rfl (lv_at hl 1 rfl) ?_
          refine lv_sipush (v := 420) hx hb dX7_init_158 (by decide) ?_
          refine c_newa (atype := .long) (ty := .long) (N' := 420) (a0 := (420, .inr (.inl (fun _ => 0)))) hx hb (hts _ (List.mem_cons_of_mem _ t_321)) rfl C 147 (fun _ => rfl) (by decide) (by decide) (by decide) (zo_l (by decide) rfl) (zz_l) (Nat.le_of_ble_eq_true rfl) (Nat.le_of_ble_eq_true rfl) dX7_init_161 (fun q_22 M L kd tys f H hq_22 hmo htn hty C => ?_)
          refine W.widen (k := 348) (n := 10288) (Nat.le_of_ble_eq_true rfl) (Nat.le_of_ble_eq_true rfl) ?_
          refine c_putF (v := .ref q_22) (t := (2, 147, 147)) (CC := RX7) (T := TX7) (N := 19) hx hb hts (mc_ inX7) tyX7 tyX7_ok nmX7 hown C rfl 16 (by decide) rfl (hts _ (List.mem_cons_of_mem _ t_676)) (fun _ h9 => h9) rfl hin rfl rfl (okr hq_22 ⟨by decide, by decide⟩) rfl rfl (kn' := [(14, .ref q_21), (12, .ref q_20), (11, .ref q_19), (10, .ref q_18), (9, .ref q_17), (8, .ref q_16), (7, .ref q_15), (5, .ref q_14), (4, .ref q_13), (2, .ref q_7), (0, .ref q_1), (18, .int 0), (17, .int 0), (15, .int 0), (13, .int 0), (6, .int 0), (3, .int 0), (1, .int 0)]) rfl dX7_init_163 (fun fs H locs C => ?_)
          subst hQ
          refine W.vret hx hb hr (fun t ht hW => ⟨⟨(), rfl, trivial, c_exit C (by decide) (by decide +kernel : ∀ j, j < (FS 7).length → j ∈ [16, 14, 12, 11, 10, 9, 8, 7, 5, 4, 2, 0, 18, 17, 15, 13, 6, 3, 1]) ht hW ?_⟩, C.2.2.2.1.F ht⟩) C.2.2.2.1.2.2 dX7_init_166 hlocks
          exact C.fv 16 rfl
        | succ n_10 ih =>
          intro i_9 hi x_11 ex g M L kd tys f H locs ls hRG hty_q_7 C hl
          refine lv_iload_n hx hb dX7_init_51 rfl (lv_at hl 0 rfl) ?_
          refine lv_bipush (v := 96) hx hb dX7_init_52 (by decide) ?_
          refine lv_icmp_ge (tgt := 76) hx hb dX7_init_54 (by decide) (fun c_ => absurd c_ (by rw [ex]; exact nI_ge (a := i_9) (b := 96) (by omega) (by omega))) (fun c_ => ?_)
          refine lv_aload_n hx hb dX7_init_57 rfl (lv_at hl 1 rfl) ?_
          refine c_get (CC := RX7) (T := TX7) (N := 19) hx hb hts (mc_ inX7) hown C rfl 2 (by decide) rfl (hts _ (List.mem_cons_of_mem _ t_629)) (fun _ h9 => h9) 0 rfl dX7_init_58 ?_
          refine lv_iload_n hx hb dX7_init_61 rfl (lv_at hl 0 rfl) ?_
          refine c_new (C2 := RX6) (T2 := TX6) (N2 := 13) (ci2 := 6) (fs2 := [.long 0, .int 0, .int 0, .int 0, .null, .null, .int 0, .int 0, .int 0, .int 0, .int 0, .int 0, .int 0]) hx hb hts (mc_ inX6) tyX6 tyX6_ok hown (hts _ (List.mem_cons_of_mem _ t_548)) (hts _ (List.mem_cons_of_mem _ t_550)) (hts _ (List.mem_cons_of_mem _ t_193)) C rfl dfX6 (by show _ ≤ 348; omega) (by show _ ≤ 10288; omega) dX7_init_62 (fun q_23 H hMq_23 C => ?_)
          refine W.widen (k := 50 + 3 * i_9 + 1) (n := 624 + 19 * i_9 + 13) (by omega) (by omega) ?_
          refine lv_dup hx hb dX7_init_65 rfl ?_
          refine c_callI (q := q_23) (ciq := 6) (mc := 2) (ms := 6) (eq := .inr (6, [.long 0, .int 0, .int 0, .int 0, .null, .null, .int 0, .int 0, .int 0, .int 0, .int 0, .int 0, .int 0])) (L0' := []) (G := (fun (_ : List Nat) (_ : Nat → Nat) (_ : Nat → va_E) => True)) (avl := [.ref q_23]) C hMq_23 (fun _ h9 => absurd h9 List.not_mem_nil) hAm (fun hp => va_runI (As := []) (rest := [.ref q_23, .int x_11, .ref q_7]) ⟨hx, hb, hml, hown, hts⟩ (k_X6_init l dC dI adK adV q_23 kd H.size) (cwI 0 hts (gI_ t_553) rfl rfl rfl (hts _ (List.mem_cons_of_mem _ t_193)) (hts _ (List.mem_cons_of_mem _ t_551)) (hts _ (List.mem_cons_of_mem _ t_552)) rfl (by decide +kernel) ⟨(Nat.le_of_ble_eq_true rfl), (Nat.le_of_ble_eq_true rfl)⟩) hp rfl rfl hl.1 rfl (lv_room (Nat.le_of_ble_eq_true rfl)) dX7_init_66 ⟨(by show _ ≤ 348; omega), (by show _ ≤ 10288; omega)⟩) (fun L124 M L kd124 kd tys124 tys f124 f H locs C hmo mo24 hMM24 hq_23 hq124 hd24 ht24 htt hG24 => ?_)
          refine W.widen (k := 50 + 3 * i_9 + 3) (n := 624 + 19 * i_9 + 19) (by omega) (by omega) ?_
          have hRG1 := hRG.mo hmo
          have hq9 := mo24.at_ hq124
          have hty9 := htt _ hty_q_7
          refine c_aast (ci2 := 6) (C2 := RX6) (r := (RX6, TX6, 13)) hx hb C hty9 rfl rfl hq9.1 hq9.2 (by decide) (by rw [ex]; exact vp_in_nI (by omega) (by omega)) dX7_init_69 (fun H locs C => ?_)
          have hRG2 : RG L kd 6 _ (i_9 + 1) := hRG1.put hq9
          rw [show x_11.toNatClampNeg = i_9 by rw [ex]; exact nI_clamp (by omega)] at C
          obtain ⟨y_25, ey_25⟩ : ∃ z : Int32, z = x_11 + 1 := ⟨_, rfl⟩
          refine lv_iinc (v := y_25) (lv' := [(1, .int y_25), (0, .ref h0)]) hx hb dX7_init_70 hl (k := 0) rfl (by rw [ey_25]; rfl) (by decide) rfl (fun ls hl => ?_)
          refine lv_goto (tgt := 51) hx hb dX7_init_73 (by decide) ?_
          refine W.widen (k := 50 + 3 * (i_9 + 1)) (n := 624 + 19 * (i_9 + 1)) (by omega) (by omega) ?_
          exact ih (i_9 + 1) (by omega) y_25 (by rw [ey_25, ex]; exact nI_1 i_9) _ _ _ _ _ _ _ _ _ hRG2 hty9 C hl
      exact loop_12 96 0 rfl 0 rfl _ _ _ _ _ _ _ _ _ (fun j hj => absurd hj (Nat.not_lt_zero j)) hty_q_7 C hl
    | succ n_4 ih =>
      intro i_3 hi x_5 ex g M L kd tys f H locs ls hRG hty_q_1 C hl
      refine lv_iload_n hx hb dX7_init_15 rfl (lv_at hl 0 rfl) ?_
      refine lv_bipush (v := 8) hx hb dX7_init_16 (by decide) ?_
      refine lv_icmp_ge (tgt := 40) hx hb dX7_init_18 (by decide) (fun c_ => absurd c_ (by rw [ex]; exact nI_ge (a := i_3) (b := 8) (by omega) (by omega))) (fun c_ => ?_)
      refine lv_aload_n hx hb dX7_init_21 rfl (lv_at hl 1 rfl) ?_
      refine c_get (CC := RX7) (T := TX7) (N := 19) hx hb hts (mc_ inX7) hown C rfl 0 (by decide) rfl (hts _ (List.mem_cons_of_mem _ t_620)) (fun _ h9 => h9) 0 rfl dX7_init_22 ?_
      refine lv_iload_n hx hb dX7_init_25 rfl (lv_at hl 0 rfl) ?_
      refine c_new (C2 := RX9) (T2 := TX9) (N2 := 13) (ci2 := 9) (fs2 := [.long 0, .int 0, .int 0, .null, .null, .null, .null, .int 0, .int 0, .null, .int 0, .int 0, .int 0]) hx hb hts (mc_ inX9) tyX9 tyX9_ok hown (hts _ (List.mem_cons_of_mem _ t_471)) (hts _ (List.mem_cons_of_mem _ t_473)) (hts _ (List.mem_cons_of_mem _ t_192)) C rfl dfX9 (by show _ ≤ 348; omega) (by show _ ≤ 10288; omega) dX7_init_26 (fun q_26 H hMq_26 C => ?_)
      refine W.widen (k := 1 + 6 * i_3 + 1) (n := 8 + 65 * i_3 + 13) (by omega) (by omega) ?_
      refine lv_dup hx hb dX7_init_29 rfl ?_
      refine c_callI (q := q_26) (ciq := 9) (mc := 5) (ms := 52) (eq := .inr (9, [.long 0, .int 0, .int 0, .null, .null, .null, .null, .int 0, .int 0, .null, .int 0, .int 0, .int 0])) (L0' := []) (G := (fun (_ : List Nat) (_ : Nat → Nat) (_ : Nat → va_E) => True)) (avl := [.ref q_26]) C hMq_26 (fun _ h9 => absurd h9 List.not_mem_nil) hAm (fun hp => va_runI (As := []) (rest := [.ref q_26, .int x_5, .ref q_1]) ⟨hx, hb, hml, hown, hts⟩ (k_X9_init l dC dI adK adV q_26 kd H.size) (cwI 0 hts (gI_ t_476) rfl rfl rfl (hts _ (List.mem_cons_of_mem _ t_192)) (hts _ (List.mem_cons_of_mem _ t_474)) (hts _ (List.mem_cons_of_mem _ t_475)) rfl (by decide +kernel) ⟨(Nat.le_of_ble_eq_true rfl), (Nat.le_of_ble_eq_true rfl)⟩) hp rfl rfl hl.1 rfl (lv_room (Nat.le_of_ble_eq_true rfl)) dX7_init_30 ⟨(by show _ ≤ 348; omega), (by show _ ≤ 10288; omega)⟩) (fun L127 M L kd127 kd tys127 tys f127 f H locs C hmo mo27 hMM27 hq_26 hq127 hd27 ht27 htt hG27 => ?_)
      refine W.widen (k := 1 + 6 * i_3 + 6) (n := 8 + 65 * i_3 + 65) (by omega) (by omega) ?_
      have hRG1 := hRG.mo hmo
      have hq9 := mo27.at_ hq127
      have hty9 := htt _ hty_q_1
      refine c_aast (ci2 := 9) (C2 := RX9) (r := (RX9, TX9, 13)) hx hb C hty9 rfl rfl hq9.1 hq9.2 (by decide) (by rw [ex]; exact vp_in_nI (by omega) (by omega)) dX7_init_33 (fun H locs C => ?_)
      have hRG2 : RG L kd 9 _ (i_3 + 1) := hRG1.put hq9
      rw [show x_5.toNatClampNeg = i_3 by rw [ex]; exact nI_clamp (by omega)] at C
      obtain ⟨y_28, ey_28⟩ : ∃ z : Int32, z = x_5 + 1 := ⟨_, rfl⟩
      refine lv_iinc (v := y_28) (lv' := [(1, .int y_28), (0, .ref h0)]) hx hb dX7_init_34 hl (k := 0) rfl (by rw [ey_28]; rfl) (by decide) rfl (fun ls hl => ?_)
      refine lv_goto (tgt := 15) hx hb dX7_init_37 (by decide) ?_
      refine W.widen (k := 1 + 6 * (i_3 + 1)) (n := 8 + 65 * (i_3 + 1)) (by omega) (by omega) ?_
      exact ih (i_3 + 1) (by omega) y_28 (by rw [ey_28, ex]; exact nI_1 i_3) _ _ _ _ _ _ _ _ _ hRG2 hty9 C hl
  exact loop_6 8 0 rfl 0 rfl _ _ _ _ _ _ _ _ _ (fun j hj => absurd hj (Nat.not_lt_zero j)) hty_q_1 C hl

set_option maxHeartbeats 4000000 in
set_option maxRecDepth 100000 in
theorem k_X10_init (l : Launch) (dC : Nat → ClassId) (dI : Nat → Nat → Nat) (adK adV : Nat → Nat) (h0 : Nat) (h1 : Nat) (kd0 : Nat → Nat) (kah1 : kd0 h1 = 7) (sz : Nat) : Met l yX10_init (.code yX10_init cX10_init 2 none :: lw_g) ({ frames := 2, cells := 62, slots := 1542, locals := 40 }) (va_Pc [.ref h0, .ref h1] (CPre (dC, dI) h0 (.inr (10, [.null, .null, .null, .null, .null, .null, .int 0, .int 0, .int 0, .int 0])) [h1] adK adV sz)) (va_Qv (fun _ : Unit => True) (fun (_ : Unit) (t : State) => CP (dC, dI) [h1] kd0 10 h0 (.inr (10, [.null, .null, .null, .null, .null, .null, .int 0, .int 0, .int 0, .int 0])) sz (fun (L : List Nat) (kd : Nat → Nat) (f : Nat → va_E) => fV f h0 0 = .ref h1 ∧ ∃ (r r' p p' m m' : Nat) (A A' : Nat → Nat), fV f h0 2 = .ref r ∧ fV f h0 3 = .ref r' ∧ rowG L kd f r p m A ∧ rowG L kd f r' p' m' A' ∧ apQ r r' m m' A A') t) (va_A [(h0, .inr (10, [.null, .null, .null, .null, .null, .null, .int 0, .int 0, .int 0, .int 0]))] sz)) 62 1542 (va_A [(h0, .inr (10, [.null, .null, .null, .null, .null, .null, .int 0, .int 0, .int 0, .int 0]))] sz) := by
  refine Met.ofW (cc := cX10_init) (maxL := 2) (ret := none) (by decide) rfl ?_
  intro p e s m args below meth c s₁ B hml hv
  obtain ⟨rfl, hsz, hP, hK, hD0, hAm, hL0⟩ := hv
  have hx := B.exec
  have hb := B.bytes
  have hr := B.returns
  have hts := atoms_spec (ws := (.code yX10_init cX10_init 2 none :: lw_g)) B.pre
  have hown : s.vm.findClass RX10 = some m.cls := findClass_of_methodNamed B.named
  have hlocks := B.notSynchronized
  have hin : meth.name = "<init>" := (name_of_methodNamed B.named B.method).1
  subst hsz
  obtain ⟨M, L, kd, tys, f, C⟩ : ∃ (M L : List Nat) (kd : Nat → Nat) (tys : List (ClassId × FieldType)) (f : Nat → va_E), CI (dC, dI) s h0 (.inr (10, [.null, .null, .null, .null, .null, .null, .int 0, .int 0, .int 0, .int 0])) [h1] kd0 10 [.null, .null, .null, .null, .null, .null, .int 0, .int 0, .int 0, .int 0] [] [] [] M L kd tys f s.heap [] := ⟨_, _, _, _, _, CI.start hP hK rfl hL0⟩
  have hl := lv_entry ([.ref h0, .ref h1]) (n := 2) (Nat.le_of_ble_eq_true rfl)
  rw [lg_entry_eq]
  generalize (lg_sl ([.ref h0, .ref h1]) ++ List.replicate (2 - (lg_sl ([.ref h0, .ref h1])).length) Slot.unset).toArray = ls at hl ⊢
  have hl : lv_has ls 2 [(0, .ref h0), (1, .ref h1)] := hl
  have C := C.pr 6 (.int 0) (t := (0, (-2147483648), 2147483647)) rfl rfl (⟨_, rfl, by decide, by decide⟩)
  have C := C.pr 7 (.int 0) (t := (0, (-2147483648), 2147483647)) rfl rfl (⟨_, rfl, by decide, by decide⟩)
  have C := C.pr 8 (.int 0) (t := (0, 0, 1)) rfl rfl (⟨_, rfl, by decide, by decide⟩)
  have C := C.pr 9 (.int 0) (t := (0, (-2147483648), 2147483647)) rfl rfl (⟨_, rfl, by decide, by decide⟩)
  refine lv_aload_n hx hb dX10_init_0 rfl (lv_at hl 0 rfl) ?_
  refine W.objInit hx hb hown (hts _ (List.mem_cons_of_mem _ t_728)) (hts _ (List.mem_cons_of_mem _ t_213)) (hts _ (List.mem_cons_of_mem _ t_214)) rfl (by rw [hml]; exact hl.1) rfl dX10_init_1 (Nat.le_of_ble_eq_true rfl) (Nat.le_of_ble_eq_true rfl) ?_
  refine W.eq (g2 := F0 m 4 ls []) rfl ?_
  refine lv_aload_n hx hb dX10_init_4 rfl (lv_at hl 0 rfl) ?_
  refine lv_aload_n hx hb dX10_init_5 rfl (lv_at hl 1 rfl) ?_
  refine c_put (v := .ref h1) (t := (2, 7, 7)) (CC := RX10) (T := TX10) (N := 10) hx hb hts (mc_ inX10) tyX10 tyX10_ok nmX10 hown C rfl 0 (by decide) rfl (hts _ (List.mem_cons_of_mem _ t_912)) (fun _ h9 => h9) rfl rfl (okr (C.p0 List.mem_cons_self kah1) ⟨by decide, by decide⟩) rfl rfl (kn' := [(9, .int 0), (8, .int 0), (7, .int 0), (6, .int 0)]) rfl dX10_init_6 (fun fs H locs C => ?_)
  refine lv_aload_n hx hb dX10_init_9 rfl (lv_at hl 0 rfl) ?_
  refine c_new (C2 := RX1) (T2 := TX1) (N2 := 18) (ci2 := 1) (fs2 := [.null, .null, .null, .null, .null, .int 0, .int 0, .null, .int 0, .null, .null, .int 0, .int 0, .int 0, .int 0, .int 0, .int 0, .long 0]) hx hb hts (mc_ inX1) tyX1 tyX1_ok hown (hts _ (List.mem_cons_of_mem _ t_729)) (hts _ (List.mem_cons_of_mem _ t_730)) (hts _ (List.mem_cons_of_mem _ t_195)) C rfl dfX1 (Nat.le_of_ble_eq_true rfl) (Nat.le_of_ble_eq_true rfl) dX10_init_10 (fun q_1 H hMq_1 C => ?_)
  refine W.widen (k := 1) (n := 18) (Nat.le_of_ble_eq_true rfl) (Nat.le_of_ble_eq_true rfl) ?_
  refine lv_dup hx hb dX10_init_13 rfl ?_
  refine c_callI (q := q_1) (ciq := 1) (mc := 3) (ms := 952) (eq := .inr (1, [.null, .null, .null, .null, .null, .int 0, .int 0, .null, .int 0, .null, .null, .int 0, .int 0, .int 0, .int 0, .int 0, .int 0, .long 0])) (L0' := []) (G := (fun (_ : List Nat) (_ : Nat → Nat) (_ : Nat → va_E) => True)) (avl := [.ref q_1]) C hMq_1 (fun _ h9 => absurd h9 List.not_mem_nil) hAm (fun hp => va_runI (As := []) (rest := [.ref q_1, .ref h0]) ⟨hx, hb, hml, hown, hts⟩ (k_X1_init l dC dI adK adV q_1 kd H.size) (cwI 0 hts (gI_ t_733) rfl rfl rfl (hts _ (List.mem_cons_of_mem _ t_195)) (hts _ (List.mem_cons_of_mem _ t_731)) (hts _ (List.mem_cons_of_mem _ t_732)) rfl (by decide +kernel) ⟨(Nat.le_of_ble_eq_true rfl), (Nat.le_of_ble_eq_true rfl)⟩) hp rfl rfl hl.1 rfl (lv_room (Nat.le_of_ble_eq_true rfl)) dX10_init_14 ⟨(Nat.le_of_ble_eq_true rfl), (Nat.le_of_ble_eq_true rfl)⟩) (fun L12 M L kd12 kd tys12 tys f12 f H locs C hmo mo2 hMM2 hq_1 hq12 hd2 ht2 htt hG2 => ?_)
  refine W.widen (k := 4) (n := 970) (Nat.le_of_ble_eq_true rfl) (Nat.le_of_ble_eq_true rfl) ?_
  refine c_putF (v := .ref q_1) (t := (2, 1, 1)) (CC := RX10) (T := TX10) (N := 10) hx hb hts (mc_ inX10) tyX10 tyX10_ok nmX10 hown C rfl 1 (by decide) rfl (hts _ (List.mem_cons_of_mem _ t_913)) (fun _ h9 => h9) rfl hin rfl rfl (okr hq_1 ⟨by decide, by decide⟩) rfl rfl (kn' := [(0, .ref h1), (9, .int 0), (8, .int 0), (7, .int 0), (6, .int 0)]) rfl dX10_init_17 (fun fs H locs C => ?_)
  refine lv_aload_n hx hb dX10_init_20 rfl (lv_at hl 0 rfl) ?_
  refine c_new (C2 := RX3) (T2 := TX3) (N2 := 6) (ci2 := 3) (fs2 := [.int 0, .null, .null, .null, .int 0, .null]) hx hb hts (mc_ inX3) tyX3 tyX3_ok hown (hts _ (List.mem_cons_of_mem _ t_793)) (hts _ (List.mem_cons_of_mem _ t_794)) (hts _ (List.mem_cons_of_mem _ t_196)) C rfl dfX3 (Nat.le_of_ble_eq_true rfl) (Nat.le_of_ble_eq_true rfl) dX10_init_21 (fun q_3 H hMq_3 C => ?_)
  refine W.widen (k := 5) (n := 976) (Nat.le_of_ble_eq_true rfl) (Nat.le_of_ble_eq_true rfl) ?_
  refine lv_dup hx hb dX10_init_24 rfl ?_
  refine c_callI (q := q_3) (ciq := 3) (mc := 14) (ms := 63) (eq := .inr (3, [.int 0, .null, .null, .null, .int 0, .null])) (L0' := []) (G := (fun (L : List Nat) (kd : Nat → Nat) (f : Nat → va_E) => ∃ (p m : Nat) (A : Nat → Nat), rowG L kd f q_3 p m A)) (avl := [.ref q_3]) C hMq_3 (fun _ h9 => absurd h9 List.not_mem_nil) hAm (fun hp => va_runI (As := []) (rest := [.ref q_3, .ref h0]) ⟨hx, hb, hml, hown, hts⟩ (k_X3_init l dC dI adK adV q_3 kd H.size) (cwI 0 hts (gI_ t_797) rfl rfl rfl (hts _ (List.mem_cons_of_mem _ t_196)) (hts _ (List.mem_cons_of_mem _ t_795)) (hts _ (List.mem_cons_of_mem _ t_796)) rfl (by decide +kernel) ⟨(Nat.le_of_ble_eq_true rfl), (Nat.le_of_ble_eq_true rfl)⟩) hp rfl rfl hl.1 rfl (lv_room (Nat.le_of_ble_eq_true rfl)) dX10_init_25 ⟨(Nat.le_of_ble_eq_true rfl), (Nat.le_of_ble_eq_true rfl)⟩) (fun L14 M L kd14 kd tys14 tys f14 f H locs C hmo mo4 hMM4 hq_3 hq14 hd4 ht4 htt hG4 => ?_)
  have mo2 := mo2.tr hmo
  refine W.widen (k := 19) (n := 1039) (Nat.le_of_ble_eq_true rfl) (Nat.le_of_ble_eq_true rfl) ?_
  refine c_put (v := .ref q_3) (t := (2, 3, 3)) (CC := RX10) (T := TX10) (N := 10) hx hb hts (mc_ inX10) tyX10 tyX10_ok nmX10 hown C rfl 2 (by decide) rfl (hts _ (List.mem_cons_of_mem _ t_914)) (fun _ h9 => h9) rfl rfl (okr hq_3 ⟨by decide, by decide⟩) rfl rfl (kn' := [(1, .ref q_1), (0, .ref h1), (9, .int 0), (8, .int 0), (7, .int 0), (6, .int 0)]) rfl dX10_init_28 (fun fs H locs C => ?_)
  refine lv_aload_n hx hb dX10_init_31 rfl (lv_at hl 0 rfl) ?_
  refine c_new (C2 := RX3) (T2 := TX3) (N2 := 6) (ci2 := 3) (fs2 := [.int 0, .null, .null, .null, .int 0, .null]) hx hb hts (mc_ inX3) tyX3 tyX3_ok hown (hts _ (List.mem_cons_of_mem _ t_793)) (hts _ (List.mem_cons_of_mem _ t_794)) (hts _ (List.mem_cons_of_mem _ t_196)) C rfl dfX3 (Nat.le_of_ble_eq_true rfl) (Nat.le_of_ble_eq_true rfl) dX10_init_32 (fun q_5 H hMq_5 C => ?_)
  refine W.widen (k := 20) (n := 1045) (Nat.le_of_ble_eq_true rfl) (Nat.le_of_ble_eq_true rfl) ?_
  refine lv_dup hx hb dX10_init_35 rfl ?_
  have mob : ∀ {a : Nat}, a ∈ L14 → a ∈ L := fun ha => (mo4 _ ha).1
  refine c_callI (q := q_5) (ciq := 3) (mc := 14) (ms := 63) (eq := .inr (3, [.int 0, .null, .null, .null, .int 0, .null])) (L0' := []) (G := (fun (L : List Nat) (kd : Nat → Nat) (f : Nat → va_E) => ∃ (p m : Nat) (A : Nat → Nat), rowG L kd f q_5 p m A)) (avl := [.ref q_5]) C hMq_5 (fun _ h9 => absurd h9 List.not_mem_nil) hAm (fun hp => va_runI (As := []) (rest := [.ref q_5, .ref h0]) ⟨hx, hb, hml, hown, hts⟩ (k_X3_init l dC dI adK adV q_5 kd H.size) (cwI 0 hts (gI_ t_797) rfl rfl rfl (hts _ (List.mem_cons_of_mem _ t_196)) (hts _ (List.mem_cons_of_mem _ t_795)) (hts _ (List.mem_cons_of_mem _ t_796)) rfl (by decide +kernel) ⟨(Nat.le_of_ble_eq_true rfl), (Nat.le_of_ble_eq_true rfl)⟩) hp rfl rfl hl.1 rfl (lv_room (Nat.le_of_ble_eq_true rfl)) dX10_init_36 ⟨(Nat.le_of_ble_eq_true rfl), (Nat.le_of_ble_eq_true rfl)⟩) (fun L16 M L kd16 kd tys16 tys f16 f H locs C hmo mo6 hMM6 hq_5 hq16 hd6 ht6 htt hG6 => ?_)
  have mo2 := mo2.tr hmo
  have mo4 := mo4.tr hmo
  refine W.widen (k := 34) (n := 1108) (Nat.le_of_ble_eq_true rfl) (Nat.le_of_ble_eq_true rfl) ?_
  have hap6 : ∀ {p1 m1 p2 m2 : Nat} {A1 A2 : Nat → Nat}, rowG L14 kd14 f14 q_3 p1 m1 A1 → rowG L16 kd16 f16 q_5 p2 m2 A2 → apQ q_3 q_5 m1 m2 A1 A2 := fun g1 g2 => ⟨fun z => (hd6 _ g2.1.1).1 (z ▸ (mob g1.1.1)), fun z => (hd6 _ g2.2.1.1).1 (z ▸ (mob g1.2.1.1)), fun i j hi hj z => (hd6 _ (g2.2.2.2.2.2.2.2.1 j hj).1).1 (z ▸ (mob (g1.2.2.2.2.2.2.2.1 i hi).1))⟩
  refine c_put (v := .ref q_5) (t := (2, 3, 3)) (CC := RX10) (T := TX10) (N := 10) hx hb hts (mc_ inX10) tyX10 tyX10_ok nmX10 hown C rfl 3 (by decide) rfl (hts _ (List.mem_cons_of_mem _ t_916)) (fun _ h9 => h9) rfl rfl (okr hq_5 ⟨by decide, by decide⟩) rfl rfl (kn' := [(2, .ref q_3), (1, .ref q_1), (0, .ref h1), (9, .int 0), (8, .int 0), (7, .int 0), (6, .int 0)]) rfl dX10_init_39 (fun fs H locs C => ?_)
  refine lv_aload_n hx hb dX10_init_42 rfl (lv_at hl 0 rfl) ?_
  refine c_new (C2 := RX4) (T2 := TX4) (N2 := 17) (ci2 := 4) (fs2 := [.int 0, .int 0, .int 0, .int 0, .int 0, .long 0, .int 0, .null, .null, .null, .null, .null, .null, .null, .int 0, .int 0, .int 0]) hx hb hts (mc_ inX4) tyX4 tyX4_ok hown (hts _ (List.mem_cons_of_mem _ t_829)) (hts _ (List.mem_cons_of_mem _ t_830)) (hts _ (List.mem_cons_of_mem _ t_197)) C rfl dfX4 (Nat.le_of_ble_eq_true rfl) (Nat.le_of_ble_eq_true rfl) dX10_init_43 (fun q_7 H hMq_7 C => ?_)
  refine W.widen (k := 35) (n := 1125) (Nat.le_of_ble_eq_true rfl) (Nat.le_of_ble_eq_true rfl) ?_
  refine lv_dup hx hb dX10_init_46 rfl ?_
  refine c_callI (q := q_7) (ciq := 4) (mc := 13) (ms := 200) (eq := .inr (4, [.int 0, .int 0, .int 0, .int 0, .int 0, .long 0, .int 0, .null, .null, .null, .null, .null, .null, .null, .int 0, .int 0, .int 0])) (L0' := []) (G := (fun (_ : List Nat) (_ : Nat → Nat) (_ : Nat → va_E) => True)) (avl := [.ref q_7]) C hMq_7 (fun _ h9 => absurd h9 List.not_mem_nil) hAm (fun hp => va_runI (As := []) (rest := [.ref q_7, .ref h0]) ⟨hx, hb, hml, hown, hts⟩ (k_X4_init l dC dI adK adV q_7 kd H.size) (cwI 0 hts (gI_ t_833) rfl rfl rfl (hts _ (List.mem_cons_of_mem _ t_197)) (hts _ (List.mem_cons_of_mem _ t_831)) (hts _ (List.mem_cons_of_mem _ t_832)) rfl (by decide +kernel) ⟨(Nat.le_of_ble_eq_true rfl), (Nat.le_of_ble_eq_true rfl)⟩) hp rfl rfl hl.1 rfl (lv_room (Nat.le_of_ble_eq_true rfl)) dX10_init_47 ⟨(Nat.le_of_ble_eq_true rfl), (Nat.le_of_ble_eq_true rfl)⟩) (fun L18 M L kd18 kd tys18 tys f18 f H locs C hmo mo8 hMM8 hq_7 hq18 hd8 ht8 htt hG8 => ?_)
  have mo2 := mo2.tr hmo
  have mo4 := mo4.tr hmo
  have mo6 := mo6.tr hmo
  refine W.widen (k := 48) (n := 1325) (Nat.le_of_ble_eq_true rfl) (Nat.le_of_ble_eq_true rfl) ?_
  refine c_put (v := .ref q_7) (t := (2, 4, 4)) (CC := RX10) (T := TX10) (N := 10) hx hb hts (mc_ inX10) tyX10 tyX10_ok nmX10 hown C rfl 4 (by decide) rfl (hts _ (List.mem_cons_of_mem _ t_917)) (fun _ h9 => h9) rfl rfl (okr hq_7 ⟨by decide, by decide⟩) rfl rfl (kn' := [(3, .ref q_5), (2, .ref q_3), (1, .ref q_1), (0, .ref h1), (9, .int 0), (8, .int 0), (7, .int 0), (6, .int 0)]) rfl dX10_init_50 (fun fs H locs C => ?_)
  refine lv_aload_n hx hb dX10_init_53 rfl (lv_at hl 0 rfl) ?_
  refine c_new (C2 := RX4) (T2 := TX4) (N2 := 17) (ci2 := 4) (fs2 := [.int 0, .int 0, .int 0, .int 0, .int 0, .long 0, .int 0, .null, .null, .null, .null, .null, .null, .null, .int 0, .int 0, .int 0]) hx hb hts (mc_ inX4) tyX4 tyX4_ok hown (hts _ (List.mem_cons_of_mem _ t_829)) (hts _ (List.mem_cons_of_mem _ t_830)) (hts _ (List.mem_cons_of_mem _ t_197)) C rfl dfX4 (Nat.le_of_ble_eq_true rfl) (Nat.le_of_ble_eq_true rfl) dX10_init_54 (fun q_9 H hMq_9 C => ?_)
  refine W.widen (k := 49) (n := 1342) (Nat.le_of_ble_eq_true rfl) (Nat.le_of_ble_eq_true rfl) ?_
  refine lv_dup hx hb dX10_init_57 rfl ?_
  refine c_callI (q := q_9) (ciq := 4) (mc := 13) (ms := 200) (eq := .inr (4, [.int 0, .int 0, .int 0, .int 0, .int 0, .long 0, .int 0, .null, .null, .null, .null, .null, .null, .null, .int 0, .int 0, .int 0])) (L0' := []) (G := (fun (_ : List Nat) (_ : Nat → Nat) (_ : Nat → va_E) => True)) (avl := [.ref q_9]) C hMq_9 (fun _ h9 => absurd h9 List.not_mem_nil) hAm (fun hp => va_runI (As := []) (rest := [.ref q_9, .ref h0]) ⟨hx, hb, hml, hown, hts⟩ (k_X4_init l dC dI adK adV q_9 kd H.size) (cwI 0 hts (gI_ t_833) rfl rfl rfl (hts _ (List.mem_cons_of_mem _ t_197)) (hts _ (List.mem_cons_of_mem _ t_831)) (hts _ (List.mem_cons_of_mem _ t_832)) rfl (by decide +kernel) ⟨(Nat.le_of_ble_eq_true rfl), (Nat.le_of_ble_eq_true rfl)⟩) hp rfl rfl hl.1 rfl (lv_room (Nat.le_of_ble_eq_true rfl)) dX10_init_58 ⟨(Nat.le_of_ble_eq_true rfl), (Nat.le_of_ble_eq_true rfl)⟩) (fun L110 M L kd110 kd tys110 tys f110 f H locs C hmo mo10 hMM10 hq_9 hq110 hd10 ht10 htt hG10 => ?_)
  have mo2 := mo2.tr hmo
  have mo4 := mo4.tr hmo
  have mo6 := mo6.tr hmo
  have mo8 := mo8.tr hmo
  refine W.widen (k := 62) (n := 1542) (Nat.le_of_ble_eq_true rfl) (Nat.le_of_ble_eq_true rfl) ?_
  refine c_put (v := .ref q_9) (t := (2, 4, 4)) (CC := RX10) (T := TX10) (N := 10) hx hb hts (mc_ inX10) tyX10 tyX10_ok nmX10 hown C rfl 5 (by decide) rfl (hts _ (List.mem_cons_of_mem _ t_919)) (fun _ h9 => h9) rfl rfl (okr hq_9 ⟨by decide, by decide⟩) rfl rfl (kn' := [(4, .ref q_7), (3, .ref q_5), (2, .ref q_3), (1, .ref q_1), (0, .ref h1), (9, .int 0), (8, .int 0), (7, .int 0), (6, .int 0)]) rfl dX10_init_61 (fun fs H locs C => ?_)
  refine W.vret hx hb hr (fun t ht hW => ⟨⟨(), rfl, trivial, c_exit C (by decide) (by decide +kernel : ∀ j, j < (FS 10).length → j ∈ [5, 4, 3, 2, 1, 0, 9, 8, 7, 6]) ht hW ?_⟩, C.2.2.2.1.F ht⟩) C.2.2.2.1.2.2 dX10_init_64 hlocks
  have e9 := C.mo_ (ci' := 10) (e1 := .inr (10, fs))
  obtain ⟨p1, m1, A1, hR1⟩ := hG4
  obtain ⟨p2, m2, A2, hR2⟩ := hG6
  exact ⟨C.fv 5 rfl, q_3, q_5, p1, p2, m1, m2, A1, A2, C.fv 3 rfl, C.fv 2 rfl, (hR1.mo mo4).mo e9, (hR2.mo mo6).mo e9, hap6 hR1 hR2⟩

set_option maxHeartbeats 4000000 in
set_option maxRecDepth 100000 in
theorem k_X11_init (l : Launch) (dC : Nat → ClassId) (dI : Nat → Nat → Nat) (adK adV : Nat → Nat) (h0 : Nat) (kd0 : Nat → Nat) (sz : Nat) : Met l yX11_init (.code yX11_init cX11_init 1 none :: lw_g) ({ frames := 7, cells := 783, slots := 31685, locals := 153 }) (va_Pc [.ref h0] (CPre (dC, dI) h0 (.inr (11, [.null, .int 0, .null, .null, .null, .null, .int 0, .int 0])) [] adK adV sz)) (va_Qv (fun _ : Unit => True) (fun (_ : Unit) (t : State) => CP (dC, dI) [] kd0 11 h0 (.inr (11, [.null, .int 0, .null, .null, .null, .null, .int 0, .int 0])) sz (fun (L : List Nat) (kd : Nat → Nat) (f : Nat → va_E) => ∃ (q0 q1 q2 q3 q4 q5 q6 : Nat) (r r' p p' m m' : Nat) (A A' : Nat → Nat), ((q0 ∈ L ∧ kd q0 = 2) ∧ (q1 ∈ L ∧ kd q1 = 10) ∧ (q2 ∈ L ∧ kd q2 = 7) ∧ (q3 ∈ L ∧ kd q3 = 7) ∧ (q4 ∈ L ∧ kd q4 = 8) ∧ (q5 ∈ L ∧ kd q5 = 5) ∧ (q6 ∈ L ∧ kd q6 = 0)) ∧ (fV f h0 1 = .int 0 ∧ fV f h0 2 = .ref q0 ∧ fV f h0 3 = .ref q1 ∧ fV f h0 4 = .ref q2 ∧ fV f h0 5 = .ref q3 ∧ fV f q0 0 = .ref q4 ∧ fV f q0 1 = .ref q5 ∧ fV f q0 2 = .ref q6 ∧ fV f q6 0 = .ref q4 ∧ fV f q6 1 = .ref q5 ∧ fV f q1 0 = .ref q2 ∧ fV f q2 6 = .int 0 ∧ fV f q3 6 = .int 0 ∧ fV f q1 2 = .ref r ∧ fV f q1 3 = .ref r') ∧ (rowG L kd f r p m A ∧ rowG L kd f r' p' m' A' ∧ apQ r r' m m' A A') ∧ q3 ≠ q2 ∧ ∀ i j b, fV f q3 i = .ref b → fV f q2 j ≠ .ref b) t) (va_A [(h0, .inr (11, [.null, .int 0, .null, .null, .null, .null, .int 0, .int 0]))] sz)) 783 31685 (va_A [(h0, .inr (11, [.null, .int 0, .null, .null, .null, .null, .int 0, .int 0]))] sz) := by
  refine Met.ofW (cc := cX11_init) (maxL := 1) (ret := none) (by decide) rfl ?_
  intro p e s m args below meth c s₁ B hml hv
  obtain ⟨rfl, hsz, hP, hK, hD0, hAm, hL0⟩ := hv
  have hx := B.exec
  have hb := B.bytes
  have hr := B.returns
  have hts := atoms_spec (ws := (.code yX11_init cX11_init 1 none :: lw_g)) B.pre
  have hown : s.vm.findClass RX11 = some m.cls := findClass_of_methodNamed B.named
  have hlocks := B.notSynchronized
  have hin : meth.name = "<init>" := (name_of_methodNamed B.named B.method).1
  subst hsz
  obtain ⟨M, L, kd, tys, f, C⟩ : ∃ (M L : List Nat) (kd : Nat → Nat) (tys : List (ClassId × FieldType)) (f : Nat → va_E), CI (dC, dI) s h0 (.inr (11, [.null, .int 0, .null, .null, .null, .null, .int 0, .int 0])) [] kd0 11 [.null, .int 0, .null, .null, .null, .null, .int 0, .int 0] [] [] [] M L kd tys f s.heap [] := ⟨_, _, _, _, _, CI.start hP hK rfl hL0⟩
  have hl := lv_entry ([.ref h0]) (n := 1) (Nat.le_of_ble_eq_true rfl)
  rw [lg_entry_eq]
  generalize (lg_sl ([.ref h0]) ++ List.replicate (1 - (lg_sl ([.ref h0])).length) Slot.unset).toArray = ls at hl ⊢
  have hl : lv_has ls 1 [(0, .ref h0)] := hl
  have C := C.pr 1 (.int 0) (t := (0, 0, 4000)) rfl rfl (⟨_, rfl, by decide, by decide⟩)
  have C := C.pr 6 (.int 0) (t := (0, (-2147483648), 2147483647)) rfl rfl (⟨_, rfl, by decide, by decide⟩)
  have C := C.pr 7 (.int 0) (t := (0, (-2147483648), 2147483647)) rfl rfl (⟨_, rfl, by decide, by decide⟩)
  refine lv_aload_n hx hb dX11_init_0 rfl (lv_at hl 0 rfl) ?_
  refine W.objInit hx hb hown (hts _ (List.mem_cons_of_mem _ t_212)) (hts _ (List.mem_cons_of_mem _ t_213)) (hts _ (List.mem_cons_of_mem _ t_214)) rfl (by rw [hml]; exact hl.1) rfl dX11_init_1 (Nat.le_of_ble_eq_true rfl) (Nat.le_of_ble_eq_true rfl) ?_
  refine W.eq (g2 := F0 m 4 ls []) rfl ?_
  refine lv_aload_n hx hb dX11_init_4 rfl (lv_at hl 0 rfl) ?_
  refine lv_sipush (v := 4000) hx hb dX11_init_5 (by decide) ?_
  refine c_newa (atype := .byte) (ty := .byte) (N' := 4000) (a0 := (4000, .inl (fun _ => 0))) hx hb (hts _ (List.mem_cons_of_mem _ t_319)) rfl C 104 (fun _ => rfl) (by decide) (by decide) (by decide) (zo_b (by decide) rfl ⟨by decide, by decide⟩) (zz_i) (Nat.le_of_ble_eq_true rfl) (Nat.le_of_ble_eq_true rfl) dX11_init_8 (fun q_1 M L kd tys f H hq_1 hmo htn hty C => ?_)
  refine W.widen (k := 1) (n := 4000) (Nat.le_of_ble_eq_true rfl) (Nat.le_of_ble_eq_true rfl) ?_
  refine c_putF (v := .ref q_1) (t := (2, 104, 104)) (CC := RX11) (T := TX11) (N := 8) hx hb hts (mc_ inX11) tyX11 tyX11_ok nmX11 hown C rfl 0 (by decide) rfl (hts _ (List.mem_cons_of_mem _ t_948)) (fun _ h9 => h9) rfl hin rfl rfl (okr hq_1 ⟨by decide, by decide⟩) rfl rfl (kn' := [(7, .int 0), (6, .int 0), (1, .int 0)]) rfl dX11_init_10 (fun fs H locs C => ?_)
  refine lv_aload_n hx hb dX11_init_13 rfl (lv_at hl 0 rfl) ?_
  refine lv_iconst (v := 0) hx hb dX11_init_14 (by decide) ?_
  refine c_put (v := .int 0) (t := (0, 0, 4000)) (CC := RX11) (T := TX11) (N := 8) hx hb hts (mc_ inX11) tyX11 tyX11_ok nmX11 hown C rfl 1 (by decide) rfl (hts _ (List.mem_cons_of_mem _ t_949)) (fun _ h9 => h9) rfl rfl (⟨_, rfl, by decide, by decide⟩) rfl rfl (kn' := [(0, .ref q_1), (7, .int 0), (6, .int 0)]) rfl dX11_init_15 (fun fs H locs C => ?_)
  refine lv_aload_n hx hb dX11_init_18 rfl (lv_at hl 0 rfl) ?_
  refine c_new (C2 := RX2) (T2 := TX2) (N2 := 16) (ci2 := 2) (fs2 := [.null, .null, .null, .null, .null, .null, .int 0, .null, .null, .null, .null, .int 0, .int 0, .int 0, .int 0, .int 0]) hx hb hts (mc_ inX2) tyX2 tyX2_ok hown (hts _ (List.mem_cons_of_mem _ t_215)) (hts _ (List.mem_cons_of_mem _ t_216)) (hts _ (List.mem_cons_of_mem _ t_183)) C rfl dfX2 (Nat.le_of_ble_eq_true rfl) (Nat.le_of_ble_eq_true rfl) dX11_init_19 (fun q_2 H hMq_2 C => ?_)
  refine W.widen (k := 2) (n := 4016) (Nat.le_of_ble_eq_true rfl) (Nat.le_of_ble_eq_true rfl) ?_
  refine lv_dup hx hb dX11_init_22 rfl ?_
  refine c_callI (q := q_2) (ciq := 2) (mc := 20) (ms := 5503) (eq := .inr (2, [.null, .null, .null, .null, .null, .null, .int 0, .null, .null, .null, .null, .int 0, .int 0, .int 0, .int 0, .int 0])) (L0' := []) (G := (fun (L : List Nat) (kd : Nat → Nat) (f : Nat → va_E) => ∃ z0 z1 z2 : Nat, (z0 ∈ L ∧ kd z0 = 8) ∧ (z1 ∈ L ∧ kd z1 = 5) ∧ (z2 ∈ L ∧ kd z2 = 0) ∧ fV f q_2 0 = .ref z0 ∧ fV f q_2 1 = .ref z1 ∧ fV f q_2 2 = .ref z2 ∧ fV f z2 0 = .ref z0 ∧ fV f z2 1 = .ref z1)) (avl := [.ref q_2]) C hMq_2 (fun _ h9 => absurd h9 List.not_mem_nil) hAm (fun hp => va_runI (As := []) (rest := [.ref q_2, .ref h0]) ⟨hx, hb, hml, hown, hts⟩ (k_X2_init l dC dI adK adV q_2 kd H.size) (cwI 0 hts (gI_ t_219) rfl rfl rfl (hts _ (List.mem_cons_of_mem _ t_183)) (hts _ (List.mem_cons_of_mem _ t_217)) (hts _ (List.mem_cons_of_mem _ t_218)) rfl (by decide +kernel) ⟨(Nat.le_of_ble_eq_true rfl), (Nat.le_of_ble_eq_true rfl)⟩) hp rfl rfl hl.1 rfl (lv_room (Nat.le_of_ble_eq_true rfl)) dX11_init_23 ⟨(Nat.le_of_ble_eq_true rfl), (Nat.le_of_ble_eq_true rfl)⟩) (fun L13 M L kd13 kd tys13 tys f13 f H locs C hmo mo3 hMM3 hq_2 hq13 hd3 ht3 htt hG3 => ?_)
  refine W.widen (k := 22) (n := 9519) (Nat.le_of_ble_eq_true rfl) (Nat.le_of_ble_eq_true rfl) ?_
  refine c_putF (v := .ref q_2) (t := (2, 2, 2)) (CC := RX11) (T := TX11) (N := 8) hx hb hts (mc_ inX11) tyX11 tyX11_ok nmX11 hown C rfl 2 (by decide) rfl (hts _ (List.mem_cons_of_mem _ t_950)) (fun _ h9 => h9) rfl hin rfl rfl (okr hq_2 ⟨by decide, by decide⟩) rfl rfl (kn' := [(1, .int 0), (0, .ref q_1), (7, .int 0), (6, .int 0)]) rfl dX11_init_26 (fun fs H locs C => ?_)
  refine lv_aload_n hx hb dX11_init_29 rfl (lv_at hl 0 rfl) ?_
  refine c_new (C2 := RX7) (T2 := TX7) (N2 := 19) (ci2 := 7) (fs2 := [.null, .int 0, .null, .int 0, .null, .null, .int 0, .null, .null, .null, .null, .null, .null, .int 0, .null, .int 0, .null, .int 0, .int 0]) hx hb hts (mc_ inX7) tyX7 tyX7_ok hown (hts _ (List.mem_cons_of_mem _ t_465)) (hts _ (List.mem_cons_of_mem _ t_466)) (hts _ (List.mem_cons_of_mem _ t_191)) C rfl dfX7 (Nat.le_of_ble_eq_true rfl) (Nat.le_of_ble_eq_true rfl) dX11_init_30 (fun q_4 H hMq_4 C => ?_)
  refine W.widen (k := 23) (n := 9538) (Nat.le_of_ble_eq_true rfl) (Nat.le_of_ble_eq_true rfl) ?_
  refine lv_dup hx hb dX11_init_33 rfl ?_
  refine c_callI (q := q_4) (ciq := 7) (mc := 348) (ms := 10288) (eq := .inr (7, [.null, .int 0, .null, .int 0, .null, .null, .int 0, .null, .null, .null, .null, .null, .null, .int 0, .null, .int 0, .null, .int 0, .int 0])) (L0' := []) (G := (fun (L : List Nat) (kd : Nat → Nat) (f : Nat → va_E) => fV f q_4 6 = .int 0)) (avl := [.ref q_4]) C hMq_4 (fun _ h9 => absurd h9 List.not_mem_nil) hAm (fun hp => va_runI (As := []) (rest := [.ref q_4, .ref h0]) ⟨hx, hb, hml, hown, hts⟩ (k_X7_init l dC dI adK adV q_4 kd H.size) (cwI 0 hts (gI_ t_469) rfl rfl rfl (hts _ (List.mem_cons_of_mem _ t_191)) (hts _ (List.mem_cons_of_mem _ t_467)) (hts _ (List.mem_cons_of_mem _ t_468)) rfl (by decide +kernel) ⟨(Nat.le_of_ble_eq_true rfl), (Nat.le_of_ble_eq_true rfl)⟩) hp rfl rfl hl.1 rfl (lv_room (Nat.le_of_ble_eq_true rfl)) dX11_init_34 ⟨(Nat.le_of_ble_eq_true rfl), (Nat.le_of_ble_eq_true rfl)⟩) (fun L15 M L kd15 kd tys15 tys f15 f H locs C hmo mo5 hMM5 hq_4 hq15 hd5 ht5 htt hG5 => ?_)
  have mo3 := mo3.tr hmo
  refine W.widen (k := 371) (n := 19826) (Nat.le_of_ble_eq_true rfl) (Nat.le_of_ble_eq_true rfl) ?_
  refine c_put (v := .ref q_4) (t := (2, 7, 7)) (CC := RX11) (T := TX11) (N := 8) hx hb hts (mc_ inX11) tyX11 tyX11_ok nmX11 hown C rfl 4 (by decide) rfl (hts _ (List.mem_cons_of_mem _ t_952)) (fun _ h9 => h9) rfl rfl (okr hq_4 ⟨by decide, by decide⟩) rfl rfl (kn' := [(2, .ref q_2), (1, .int 0), (0, .ref q_1), (7, .int 0), (6, .int 0)]) rfl dX11_init_37 (fun fs H locs C => ?_)
  refine lv_aload_n hx hb dX11_init_40 rfl (lv_at hl 0 rfl) ?_
  refine c_new (C2 := RX7) (T2 := TX7) (N2 := 19) (ci2 := 7) (fs2 := [.null, .int 0, .null, .int 0, .null, .null, .int 0, .null, .null, .null, .null, .null, .null, .int 0, .null, .int 0, .null, .int 0, .int 0]) hx hb hts (mc_ inX7) tyX7 tyX7_ok hown (hts _ (List.mem_cons_of_mem _ t_465)) (hts _ (List.mem_cons_of_mem _ t_466)) (hts _ (List.mem_cons_of_mem _ t_191)) C rfl dfX7 (Nat.le_of_ble_eq_true rfl) (Nat.le_of_ble_eq_true rfl) dX11_init_41 (fun q_6 H hMq_6 C => ?_)
  refine W.widen (k := 372) (n := 19845) (Nat.le_of_ble_eq_true rfl) (Nat.le_of_ble_eq_true rfl) ?_
  refine lv_dup hx hb dX11_init_44 rfl ?_
  have mob : ∀ {a : Nat}, a ∈ L15 → a ∈ L := fun ha => (mo5 _ ha).1
  refine c_callI (q := q_6) (ciq := 7) (mc := 348) (ms := 10288) (eq := .inr (7, [.null, .int 0, .null, .int 0, .null, .null, .int 0, .null, .null, .null, .null, .null, .null, .int 0, .null, .int 0, .null, .int 0, .int 0])) (L0' := []) (G := (fun (L : List Nat) (kd : Nat → Nat) (f : Nat → va_E) => fV f q_6 6 = .int 0)) (avl := [.ref q_6]) C hMq_6 (fun _ h9 => absurd h9 List.not_mem_nil) hAm (fun hp => va_runI (As := []) (rest := [.ref q_6, .ref h0]) ⟨hx, hb, hml, hown, hts⟩ (k_X7_init l dC dI adK adV q_6 kd H.size) (cwI 0 hts (gI_ t_469) rfl rfl rfl (hts _ (List.mem_cons_of_mem _ t_191)) (hts _ (List.mem_cons_of_mem _ t_467)) (hts _ (List.mem_cons_of_mem _ t_468)) rfl (by decide +kernel) ⟨(Nat.le_of_ble_eq_true rfl), (Nat.le_of_ble_eq_true rfl)⟩) hp rfl rfl hl.1 rfl (lv_room (Nat.le_of_ble_eq_true rfl)) dX11_init_45 ⟨(Nat.le_of_ble_eq_true rfl), (Nat.le_of_ble_eq_true rfl)⟩) (fun L17 M L kd17 kd tys17 tys f17 f H locs C hmo mo7 hMM7 hq_6 hq17 hd7 ht7 htt hG7 => ?_)
  have mo3 := mo3.tr hmo
  have mo5 := mo5.tr hmo
  refine W.widen (k := 720) (n := 30133) (Nat.le_of_ble_eq_true rfl) (Nat.le_of_ble_eq_true rfl) ?_
  have hdd : ∀ {a : Nat}, a ∈ L17 → a ∈ L15 → False := fun h1 h2 => (hd7 _ h1).1 (mob h2)
  refine c_put (v := .ref q_6) (t := (2, 7, 7)) (CC := RX11) (T := TX11) (N := 8) hx hb hts (mc_ inX11) tyX11 tyX11_ok nmX11 hown C rfl 5 (by decide) rfl (hts _ (List.mem_cons_of_mem _ t_953)) (fun _ h9 => h9) rfl rfl (okr hq_6 ⟨by decide, by decide⟩) rfl rfl (kn' := [(4, .ref q_4), (2, .ref q_2), (1, .int 0), (0, .ref q_1), (7, .int 0), (6, .int 0)]) rfl dX11_init_48 (fun fs H locs C => ?_)
  refine lv_aload_n hx hb dX11_init_51 rfl (lv_at hl 0 rfl) ?_
  refine c_new (C2 := RX10) (T2 := TX10) (N2 := 10) (ci2 := 10) (fs2 := [.null, .null, .null, .null, .null, .null, .int 0, .int 0, .int 0, .int 0]) hx hb hts (mc_ inX10) tyX10 tyX10_ok hown (hts _ (List.mem_cons_of_mem _ t_723)) (hts _ (List.mem_cons_of_mem _ t_724)) (hts _ (List.mem_cons_of_mem _ t_194)) C rfl dfX10 (Nat.le_of_ble_eq_true rfl) (Nat.le_of_ble_eq_true rfl) dX11_init_52 (fun q_8 H hMq_8 C => ?_)
  refine W.widen (k := 721) (n := 30143) (Nat.le_of_ble_eq_true rfl) (Nat.le_of_ble_eq_true rfl) ?_
  refine lv_dup hx hb dX11_init_55 rfl ?_
  refine lv_aload_n hx hb dX11_init_56 rfl (lv_at hl 0 rfl) ?_
  refine c_get (CC := RX11) (T := TX11) (N := 8) hx hb hts (mc_ inX11) hown C rfl 4 (by decide) rfl (hts _ (List.mem_cons_of_mem _ t_952)) (fun _ h9 => h9) 1 rfl dX11_init_57 ?_
  refine c_callI (q := q_8) (ciq := 10) (mc := 62) (ms := 1542) (eq := .inr (10, [.null, .null, .null, .null, .null, .null, .int 0, .int 0, .int 0, .int 0])) (L0' := [q_4]) (G := (fun (L : List Nat) (kd : Nat → Nat) (f : Nat → va_E) => fV f q_8 0 = .ref q_4 ∧ ∃ (r r' p p' m m' : Nat) (A A' : Nat → Nat), fV f q_8 2 = .ref r ∧ fV f q_8 3 = .ref r' ∧ rowG L kd f r p m A ∧ rowG L kd f r' p' m' A' ∧ apQ r r' m m' A A')) (avl := [.ref q_8, .ref q_4]) C hMq_8 (List.forall_mem_cons.mpr ⟨(C.fr (K := 7) 1 rfl (by decide) rfl).1, (fun _ h9 => absurd h9 List.not_mem_nil)⟩) hAm (fun hp => va_runI (As := [.ref q_4]) (rest := [.ref q_8, .ref h0]) ⟨hx, hb, hml, hown, hts⟩ (k_X10_init l dC dI adK adV q_8 q_4 kd (C.fr (K := 7) 1 rfl (by decide) rfl).2 H.size) (cwI 1 hts (gI_ t_727) rfl rfl rfl (hts _ (List.mem_cons_of_mem _ t_194)) (hts _ (List.mem_cons_of_mem _ t_725)) (hts _ (List.mem_cons_of_mem _ t_726)) rfl (by decide +kernel) ⟨(Nat.le_of_ble_eq_true rfl), (Nat.le_of_ble_eq_true rfl)⟩) hp rfl rfl hl.1 rfl (lv_room (Nat.le_of_ble_eq_true rfl)) dX11_init_60 ⟨(Nat.le_of_ble_eq_true rfl), (Nat.le_of_ble_eq_true rfl)⟩) (fun L19 M L kd19 kd tys19 tys f19 f H locs C hmo mo9 hMM9 hq_8 hq19 hd9 ht9 htt hG9 => ?_)
  have mo3 := mo3.tr hmo
  have mo5 := mo5.tr hmo
  have mo7 := mo7.tr hmo
  refine W.widen (k := 783) (n := 31685) (Nat.le_of_ble_eq_true rfl) (Nat.le_of_ble_eq_true rfl) ?_
  refine c_putF (v := .ref q_8) (t := (2, 10, 10)) (CC := RX11) (T := TX11) (N := 8) hx hb hts (mc_ inX11) tyX11 tyX11_ok nmX11 hown C rfl 3 (by decide) rfl (hts _ (List.mem_cons_of_mem _ t_951)) (fun _ h9 => h9) rfl hin rfl rfl (okr hq_8 ⟨by decide, by decide⟩) rfl rfl (kn' := [(5, .ref q_6), (4, .ref q_4), (2, .ref q_2), (1, .int 0), (0, .ref q_1), (7, .int 0), (6, .int 0)]) rfl dX11_init_63 (fun fs H locs C => ?_)
  refine lv_aload_n hx hb dX11_init_66 rfl (lv_at hl 0 rfl) ?_
  refine lv_iconst (v := 0) hx hb dX11_init_67 (by decide) ?_
  refine c_put (v := .int 0) (t := (0, (-2147483648), 2147483647)) (CC := RX11) (T := TX11) (N := 8) hx hb hts (mc_ inX11) tyX11 tyX11_ok nmX11 hown C rfl 6 (by decide) rfl (hts _ (List.mem_cons_of_mem _ t_954)) (fun _ h9 => h9) rfl rfl (⟨_, rfl, by decide, by decide⟩) rfl rfl (kn' := [(3, .ref q_8), (5, .ref q_6), (4, .ref q_4), (2, .ref q_2), (1, .int 0), (0, .ref q_1), (7, .int 0)]) rfl dX11_init_68 (fun fs H locs C => ?_)
  refine lv_aload_n hx hb dX11_init_71 rfl (lv_at hl 0 rfl) ?_
  refine lv_iconst (v := (-1)) hx hb dX11_init_72 (by decide) ?_
  refine c_put (v := .int (-1)) (t := (0, (-2147483648), 2147483647)) (CC := RX11) (T := TX11) (N := 8) hx hb hts (mc_ inX11) tyX11 tyX11_ok nmX11 hown C rfl 7 (by decide) rfl (hts _ (List.mem_cons_of_mem _ t_955)) (fun _ h9 => h9) rfl rfl (⟨_, rfl, by decide, by decide⟩) rfl rfl (kn' := [(6, .int 0), (3, .ref q_8), (5, .ref q_6), (4, .ref q_4), (2, .ref q_2), (1, .int 0), (0, .ref q_1)]) rfl dX11_init_73 (fun fs H locs C => ?_)
  refine W.vret hx hb hr (fun t ht hW => ⟨⟨(), rfl, trivial, c_exit C (by decide) (by decide +kernel : ∀ j, j < (FS 11).length → j ∈ [7, 6, 3, 5, 4, 2, 1, 0, 7, 6, 1]) ht hW ?_⟩, C.2.2.2.1.F ht⟩) C.2.2.2.1.2.2 dX11_init_76 hlocks
  have e9 := C.mo_ (ci' := 11) (e1 := .inr (11, fs))
  have w3 := mo3.tr e9
  have w5 := mo5.tr e9
  have w7 := mo7.tr e9
  have w9 := mo9.tr e9
  obtain ⟨z0, z1, z2, y0, y1, y2, y3, y4, y5, y6, y7⟩ := hG3
  obtain ⟨y8, r, r', p, p', m, m', A, A', y9, y10, y11, y12, y13⟩ := hG9
  refine ⟨q_2, q_8, q_4, q_6, z0, z1, z2, r, r', p, p', m, m', A, A', ⟨w3.at_ hq13, w9.at_ hq19, w5.at_ hq15, w7.at_ hq17, w3.at_ y0, w3.at_ y1, w3.at_ y2⟩, ⟨C.fv 6 rfl, C.fv 5 rfl, C.fv 2 rfl, C.fv 4 rfl, C.fv 3 rfl, (w3.fv hq13.1).trans y3, (w3.fv hq13.1).trans y4, (w3.fv hq13.1).trans y5, (w3.fv y2.1).trans y6, (w3.fv y2.1).trans y7, (w9.fv hq19.1).trans y8, (w5.fv hq15.1).trans hG5, (w7.fv hq17.1).trans hG7, (w9.fv hq19.1).trans y9, (w9.fv hq19.1).trans y10⟩, ⟨y11.mo w9, y12.mo w9, y13⟩, ?_, ?_⟩
  · exact fun z9 => (hdd hq17.1 (z9 ▸ hq15.1))
  · intro i j b e1 e2
    have k3 := ht7 _ hq17.1
    rw [hq17.2] at k3
    have e3 := own_ref k3 (by decide) ((w7.fv hq17.1).symm.trans e1)
    have k4 := ht5 _ hq15.1
    rw [hq15.2] at k4
    have e4 := own_ref k4 (by decide) ((w5.fv hq15.1).symm.trans e2)
    exact hdd e3 e4

