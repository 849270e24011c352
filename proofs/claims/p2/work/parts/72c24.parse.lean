set_option maxHeartbeats 4000000 in
set_option maxRecDepth 100000 in
theorem r_X2_openBlock (l : Launch) (dC : Nat → ClassId) (dI : Nat → Nat → Nat) (L : List Nat) (kd : Nat → Nat) (tys : List (ClassId × FieldType)) (f0 : Nat → va_E) (sz : Nat) (hWT : WT L kd tys f0) (a0_ : Nat) (ma0_ : a0_ ∈ L) (ka0_ : kd a0_ = 2) (x1_ : Int32) (x2_ : Int32) (x3_ : Int32) (q0_ : Nat) (mq0_ : q0_ ∈ L) (kq0_ : kd q0_ = 8) (y0_ : Int32) (by0_ : bd 0 0 y0_) (hfx : Fs L kd f0 [(2, 0, a0_, .ref q0_), (8, 8, q0_, .int y0_)]) : Met l yX2_openBlock (.code yX2_openBlock cX2_openBlock 4 none :: lw_g) ({ frames := 1, cells := 0, slots := 0, locals := 23 }) (va_Pc [.ref a0_, .int x1_, .int x2_, .int x3_] (P3 (dC, dI) L tys f0 sz)) (va_Qv (fun (f : Nat → va_E) => (∃ z0_ : Int32, bd 1 1201 z0_ ∧ ∃ z1_ : Int32, bd 1 8 z1_ ∧ Fs L kd f [(8, 6, q0_, .int z0_), (2, 11, a0_, .int z1_), (8, 8, q0_, .int y0_)]) ∨ (∃ z1_ : Int32, bd 1 7 z1_ ∧ Fs L kd f [(8, 6, q0_, .int 1201), (8, 8, q0_, .int z1_)])) (Q3 (dC, dI) L kd tys [(2, 11), (8, 6), (8, 8), (8, 9)] [118, 119, 120, 121] f0 sz) (pA L sz)) 0 0 (pA L sz) := by
  refine Met.ofW (cc := cX2_openBlock) (maxL := 4) (ret := none) (by decide) rfl ?_
  intro p e s m args below meth c s₁ B hml hv
  obtain ⟨rfl, hsz, hP, hK, hD0⟩ := hv
  have hx := B.exec
  have hb := B.bytes
  have hr := B.returns
  have hts := atoms_spec (ws := (.code yX2_openBlock cX2_openBlock 4 none :: lw_g)) B.pre
  have hown : s.vm.findClass RX2 = some m.cls := findClass_of_methodNamed B.named
  have hlocks := B.notSynchronized
  subst hsz
  have g : G3 (dC, dI) L kd tys s f0 [(2, 11), (8, 6), (8, 8), (8, 9)] [118, 119, 120, 121] f0 s.heap [] [(2, 0, a0_, .ref q0_), (8, 8, q0_, .int y0_)] := G3.start hP hD0 hWT hfx
  have hl := lv_entry ([.ref a0_, .int x1_, .int x2_, .int x3_]) (n := 4) (Nat.le_of_ble_eq_true rfl)
  rw [lg_entry_eq]
  generalize (lg_sl ([.ref a0_, .int x1_, .int x2_, .int x3_]) ++ List.replicate (4 - (lg_sl ([.ref a0_, .int x1_, .int x2_, .int x3_])).length) Slot.unset).toArray = ls at hl ⊢
  have hl : lv_has ls 4 [(0, .ref a0_), (1, .int x1_), (2, .int x2_), (3, .int x3_)] := hl
  refine W_q (fun Q hQ => ?_)
  refine lv_aload_n hx hb dX2_openBlock_0 rfl (lv_at hl 0 rfl) ?_
  refine g_getk (C := RX2) (T := TX2) (N := 16) hx hb hts (mc_ inX2) hown hK g rfl 0 (by decide) rfl (hts _ (List.mem_cons_of_mem _ t_416)) (fun _ h9 => h9) 0 rfl dX2_openBlock_1 ?_
  refine g_calli (va_runV (As := []) (rest := []) ⟨hx, hb, hml, hown, hts⟩ (r_X8_kind l dC dI L kd tys f0 s.heap.size g.2.2.2.1 q0_ mq0_ kq0_) (cwV 0 hts (gV_ t_1118 t_1119 t_1120 t_184 t_1121) rfl rfl rfl (by decide +kernel) ⟨(Nat.le_of_ble_eq_true rfl), (Nat.le_of_ble_eq_true rfl)⟩) (pre3V g hK mq0_ kq0_ (by decide) (q := (RX8, TX8, 10)) rfl) rfl rfl hl.1 rfl (lv_room (Nat.le_of_ble_eq_true rfl)) dX2_openBlock_4 ⟨(Nat.le_of_ble_eq_true rfl), (Nat.le_of_ble_eq_true rfl)⟩) g hK (by decide) (by decide) (fx' := [(2, 0, a0_, .ref q0_), (8, 8, q0_, .int y0_)]) rfl (fun r_1 fr_1 H locs hp hMr_1 g => ?_)
  refine lv_bipush (v := 123) hx hb dX2_openBlock_7 (by decide) ?_
  have kb_123 : bd 123 123 (123 : Int32) := ⟨by decide, by decide⟩
  refine lv_icmp_eq (tgt := 30) hx hb dX2_openBlock_9 (by decide) (fun c_2 => ?_) (fun c_2 => ?_)
  · have fc_2 := eq_f c_2
    have b_3 : bd 123 123 r_1 := eqX fc_2 (bdT r_1) kb_123 (by decide)
    refine lv_aload_n hx hb dX2_openBlock_30 rfl (lv_at hl 0 rfl) ?_
    refine g_geti (C := RX2) (T := TX2) (N := 16) hx hb hts (mc_ inX2) hown hK g ma0_ ka0_ (by decide) rfl 11 (by decide) rfl (hts _ (List.mem_cons_of_mem _ t_427)) (fun _ h9 => h9) rfl dX2_openBlock_31 (fun x_4 bx_4 g => ?_)
    refine lv_bipush (v := 8) hx hb dX2_openBlock_34 (by decide) ?_
    have kb_8 : bd 8 8 (8 : Int32) := ⟨by decide, by decide⟩
    refine lv_icmp_lt (tgt := 57) hx hb dX2_openBlock_36 (by decide) (fun c_5 => ?_) (fun c_5 => ?_)
    · have fc_5 := lt_f c_5
      have b_6 : bd 0 7 x_4 := ltL fc_5 bx_4 kb_8 (by decide)
      refine lv_aload_n hx hb dX2_openBlock_57 rfl (lv_at hl 0 rfl) ?_
      refine g_getr (K := 118) (C := RX2) (T := TX2) (N := 16) hx hb hts (mc_ inX2) hown hK g ma0_ ka0_ (by decide) rfl 7 (by decide) rfl (hts _ (List.mem_cons_of_mem _ t_423)) (fun _ h9 => h9) rfl dX2_openBlock_58 (fun a_7 ma_7 ka_7 g => ?_)
      refine lv_aload_n hx hb dX2_openBlock_61 rfl (lv_at hl 0 rfl) ?_
      refine g_getk (C := RX2) (T := TX2) (N := 16) hx hb hts (mc_ inX2) hown hK g rfl 11 (by decide) rfl (hts _ (List.mem_cons_of_mem _ t_427)) (fun _ h9 => h9) 1 rfl dX2_openBlock_62 ?_
      refine lv_iload_n hx hb dX2_openBlock_65 rfl (lv_at hl 1 rfl) ?_
      refine g_iast hx hb hK g ma_7 ka_7 (by decide) rfl (in_bd b_6 (by decide)) (bdT x1_) (by decide) dX2_openBlock_66 (fun f H locs hM_8 g => ?_)
      refine lv_aload_n hx hb dX2_openBlock_67 rfl (lv_at hl 0 rfl) ?_
      refine g_getr (K := 119) (C := RX2) (T := TX2) (N := 16) hx hb hts (mc_ inX2) hown hK g ma0_ ka0_ (by decide) rfl 8 (by decide) rfl (hts _ (List.mem_cons_of_mem _ t_424)) (fun _ h9 => h9) rfl dX2_openBlock_68 (fun a_9 ma_9 ka_9 g => ?_)
      refine lv_aload_n hx hb dX2_openBlock_71 rfl (lv_at hl 0 rfl) ?_
      refine g_getk (C := RX2) (T := TX2) (N := 16) hx hb hts (mc_ inX2) hown hK g rfl 11 (by decide) rfl (hts _ (List.mem_cons_of_mem _ t_427)) (fun _ h9 => h9) 2 rfl dX2_openBlock_72 ?_
      refine lv_iload_n hx hb dX2_openBlock_75 rfl (lv_at hl 2 rfl) ?_
      refine g_iast hx hb hK g ma_9 ka_9 (by decide) rfl (in_bd b_6 (by decide)) (bdT x2_) (by decide) dX2_openBlock_76 (fun f H locs hM_10 g => ?_)
      refine lv_aload_n hx hb dX2_openBlock_77 rfl (lv_at hl 0 rfl) ?_
      refine g_getr (K := 120) (C := RX2) (T := TX2) (N := 16) hx hb hts (mc_ inX2) hown hK g ma0_ ka0_ (by decide) rfl 9 (by decide) rfl (hts _ (List.mem_cons_of_mem _ t_425)) (fun _ h9 => h9) rfl dX2_openBlock_78 (fun a_11 ma_11 ka_11 g => ?_)
      refine lv_aload_n hx hb dX2_openBlock_81 rfl (lv_at hl 0 rfl) ?_
      refine g_getk (C := RX2) (T := TX2) (N := 16) hx hb hts (mc_ inX2) hown hK g rfl 11 (by decide) rfl (hts _ (List.mem_cons_of_mem _ t_427)) (fun _ h9 => h9) 3 rfl dX2_openBlock_82 ?_
      refine lv_iload_n hx hb dX2_openBlock_85 rfl (lv_at hl 3 rfl) ?_
      refine g_iast hx hb hK g ma_11 ka_11 (by decide) rfl (in_bd b_6 (by decide)) (bdT x3_) (by decide) dX2_openBlock_86 (fun f H locs hM_12 g => ?_)
      refine lv_aload_n hx hb dX2_openBlock_87 rfl (lv_at hl 0 rfl) ?_
      refine g_getr (K := 121) (C := RX2) (T := TX2) (N := 16) hx hb hts (mc_ inX2) hown hK g ma0_ ka0_ (by decide) rfl 10 (by decide) rfl (hts _ (List.mem_cons_of_mem _ t_426)) (fun _ h9 => h9) rfl dX2_openBlock_88 (fun a_13 ma_13 ka_13 g => ?_)
      refine lv_aload_n hx hb dX2_openBlock_91 rfl (lv_at hl 0 rfl) ?_
      refine g_getk (C := RX2) (T := TX2) (N := 16) hx hb hts (mc_ inX2) hown hK g rfl 11 (by decide) rfl (hts _ (List.mem_cons_of_mem _ t_427)) (fun _ h9 => h9) 4 rfl dX2_openBlock_92 ?_
      refine lv_aload_n hx hb dX2_openBlock_95 rfl (lv_at hl 0 rfl) ?_
      refine g_getr (K := 5) (C := RX2) (T := TX2) (N := 16) hx hb hts (mc_ inX2) hown hK g ma0_ ka0_ (by decide) rfl 1 (by decide) rfl (hts _ (List.mem_cons_of_mem _ t_417)) (fun _ h9 => h9) rfl dX2_openBlock_96 (fun a_14 ma_14 ka_14 g => ?_)
      refine g_geti (C := RX5) (T := TX5) (N := 9) hx hb hts (mc_ inX5) hown hK g ma_14 ka_14 (by decide) rfl 6 (by decide) rfl (hts _ (List.mem_cons_of_mem _ t_341)) (fun _ h9 => h9) rfl dX2_openBlock_99 (fun x_15 bx_15 g => ?_)
      refine g_iast hx hb hK g ma_13 ka_13 (by decide) rfl (in_bd b_6 (by decide)) bx_15 (by decide) dX2_openBlock_102 (fun f H locs hM_16 g => ?_)
      refine lv_aload_n hx hb dX2_openBlock_103 rfl (lv_at hl 0 rfl) ?_
      refine lv_dup hx hb dX2_openBlock_104 rfl ?_
      refine g_getk (C := RX2) (T := TX2) (N := 16) hx hb hts (mc_ inX2) hown hK g rfl 11 (by decide) rfl (hts _ (List.mem_cons_of_mem _ t_427)) (fun _ h9 => h9) 6 rfl dX2_openBlock_105 ?_
      refine lv_iconst (v := 1) hx hb dX2_openBlock_108 (by decide) ?_
      have kb_1 : bd 1 1 (1 : Int32) := ⟨by decide, by decide⟩
      refine lv_iadd hx hb dX2_openBlock_109 ?_
      refine lv_topi (fun y_17 ey_17 => ?_)
      have ty_17 := add_bd ey_17 b_6 kb_1 (by decide)
      have b_18 : bd 1 8 y_17 := add_rg ty_17 b_6 kb_1 (by decide)
      refine g_put (C := RX2) (T := TX2) (N := 16) hx hb hts (mc_ inX2) tyX2 tyX2_ok nmX2 hown hK g ma0_ ka0_ (by decide) rfl 11 (by decide) (hts _ (List.mem_cons_of_mem _ t_427)) (fun _ h9 => h9) rfl rfl (okV_i (bd_sub b_18 (by decide))) rfl rfl (by decide) (Or.inr (Or.inl (by decide))) (fx' := [(5, 6, a_14, .int x_15), (2, 1, a0_, .ref a_14), (2, 10, a0_, .ref a_13), (2, 9, a0_, .ref a_11), (2, 8, a0_, .ref a_9), (2, 7, a0_, .ref a_7), (2, 0, a0_, .ref q0_), (8, 8, q0_, .int y0_)]) rfl dX2_openBlock_110 (fun f H locs hM_19 g => ?_)
      refine lv_aload_n hx hb dX2_openBlock_113 rfl (lv_at hl 0 rfl) ?_
      refine g_getk (C := RX2) (T := TX2) (N := 16) hx hb hts (mc_ inX2) hown hK g rfl 0 (by decide) rfl (hts _ (List.mem_cons_of_mem _ t_416)) (fun _ h9 => h9) 7 rfl dX2_openBlock_114 ?_
      refine g_callv (va_runV (As := []) (rest := []) ⟨hx, hb, hml, hown, hts⟩ (r_X8_next l dC dI L kd tys f H.size g.2.2.2.1 q0_ mq0_ kq0_) (cwV 0 hts (gV_ t_1131 t_1103 t_1104 t_184 t_1105) rfl rfl rfl (by decide +kernel) ⟨(Nat.le_of_ble_eq_true rfl), (Nat.le_of_ble_eq_true rfl)⟩) (pre3V g hK mq0_ kq0_ (by decide) (q := (RX8, TX8, 10)) rfl) rfl rfl hl.1 rfl (lv_room (Nat.le_of_ble_eq_true rfl)) dX2_openBlock_117 ⟨(Nat.le_of_ble_eq_true rfl), (Nat.le_of_ble_eq_true rfl)⟩) g hK (by decide) (by decide) (fx' := [(2, 11, a0_, .int y_17), (5, 6, a_14, .int x_15), (2, 1, a0_, .ref a_14), (2, 10, a0_, .ref a_13), (2, 9, a0_, .ref a_11), (2, 8, a0_, .ref a_9), (2, 7, a0_, .ref a_7), (2, 0, a0_, .ref q0_), (8, 8, q0_, .int y0_)]) rfl (fun fr_20 H locs hp hMr_20 g => ?_)
      obtain ⟨x_21, h_22, hF_23⟩ := hp
      have g := g.more hF_23
      subst hQ
      exact W.vret hx hb hr (fun t ht hW => ⟨⟨_, rfl, Or.inl ⟨x_21, h_22, y_17, b_18, (g.fcts [0, 1, 9] rfl)⟩, q3_of g hK ht hW⟩, g.2.2.1.F ht⟩) g.2.2.1.2.2 dX2_openBlock_120
    · have fc_5 := nlt_f c_5
      have b_24 : bd 8 8 x_4 := leR fc_5 kb_8 bx_4 (by decide)
      refine lv_aload_n hx hb dX2_openBlock_39 rfl (lv_at hl 0 rfl) ?_
      refine g_getk (C := RX2) (T := TX2) (N := 16) hx hb hts (mc_ inX2) hown hK g rfl 0 (by decide) rfl (hts _ (List.mem_cons_of_mem _ t_416)) (fun _ h9 => h9) 1 rfl dX2_openBlock_40 ?_
      refine lv_iconst (v := 4) hx hb dX2_openBlock_43 (by decide) ?_
      refine lv_aload_n hx hb dX2_openBlock_44 rfl (lv_at hl 0 rfl) ?_
      refine g_getk (C := RX2) (T := TX2) (N := 16) hx hb hts (mc_ inX2) hown hK g rfl 0 (by decide) rfl (hts _ (List.mem_cons_of_mem _ t_416)) (fun _ h9 => h9) 1 rfl dX2_openBlock_45 ?_
      refine g_calli (va_runV (As := []) (rest := [.int 4, .ref q0_]) ⟨hx, hb, hml, hown, hts⟩ (r_X8_place l dC dI L kd tys fr_1 H.size g.2.2.2.1 q0_ mq0_ kq0_) (cwV 0 hts (gV_ t_1110 t_1111 t_1112 t_184 t_1113) rfl rfl rfl (by decide +kernel) ⟨(Nat.le_of_ble_eq_true rfl), (Nat.le_of_ble_eq_true rfl)⟩) (pre3V g hK mq0_ kq0_ (by decide) (q := (RX8, TX8, 10)) rfl) rfl rfl hl.1 rfl (lv_room (Nat.le_of_ble_eq_true rfl)) dX2_openBlock_48 ⟨(Nat.le_of_ble_eq_true rfl), (Nat.le_of_ble_eq_true rfl)⟩) g hK (by decide) (by decide) (fx' := [(2, 11, a0_, .int x_4), (2, 0, a0_, .ref q0_), (8, 8, q0_, .int y0_)]) rfl (fun r_25 fr_25 H locs hp hMr_25 g => ?_)
      have kb_4 : bd 4 4 (4 : Int32) := ⟨by decide, by decide⟩
      refine g_callv (va_runV (As := [.int 4, .int r_25]) (rest := []) ⟨hx, hb, hml, hown, hts⟩ (r_X8_fail l dC dI L kd tys fr_25 H.size g.2.2.2.1 q0_ mq0_ kq0_ 4 (bd_sub kb_4 (by decide)) r_25 y0_ by0_ (g.fcts [2] rfl)) (cwV 2 hts (gV_ t_1122 t_1107 t_1108 t_184 t_1109) rfl rfl rfl (by decide +kernel) ⟨(Nat.le_of_ble_eq_true rfl), (Nat.le_of_ble_eq_true rfl)⟩) (pre3V g hK mq0_ kq0_ (by decide) (q := (RX8, TX8, 10)) rfl) rfl rfl hl.1 rfl (lv_room (Nat.le_of_ble_eq_true rfl)) dX2_openBlock_51 ⟨(Nat.le_of_ble_eq_true rfl), (Nat.le_of_ble_eq_true rfl)⟩) g hK (by decide) (by decide) (fx' := [(2, 11, a0_, .int x_4), (2, 0, a0_, .ref q0_)]) rfl (fun fr_26 H locs hp hMr_26 g => ?_)
      obtain ⟨x_27, h_28, hF_29⟩ := hp
      have g := g.more hF_29
      refine lv_goto (tgt := 120) hx hb dX2_openBlock_54 (by decide) ?_
      subst hQ
      exact W.vret hx hb hr (fun t ht hW => ⟨⟨_, rfl, Or.inr (⟨x_27, h_28, (g.fcts [0, 1] rfl)⟩), q3_of g hK ht hW⟩, g.2.2.1.F ht⟩) g.2.2.1.2.2 dX2_openBlock_120
  · have fc_2 := neq_f c_2
    refine lv_aload_n hx hb dX2_openBlock_12 rfl (lv_at hl 0 rfl) ?_
    refine g_getk (C := RX2) (T := TX2) (N := 16) hx hb hts (mc_ inX2) hown hK g rfl 0 (by decide) rfl (hts _ (List.mem_cons_of_mem _ t_416)) (fun _ h9 => h9) 0 rfl dX2_openBlock_13 ?_
    refine lv_iconst (v := 1) hx hb dX2_openBlock_16 (by decide) ?_
    refine lv_aload_n hx hb dX2_openBlock_17 rfl (lv_at hl 0 rfl) ?_
    refine g_getk (C := RX2) (T := TX2) (N := 16) hx hb hts (mc_ inX2) hown hK g rfl 0 (by decide) rfl (hts _ (List.mem_cons_of_mem _ t_416)) (fun _ h9 => h9) 0 rfl dX2_openBlock_18 ?_
    refine g_calli (va_runV (As := []) (rest := [.int 1, .ref q0_]) ⟨hx, hb, hml, hown, hts⟩ (r_X8_place l dC dI L kd tys fr_1 H.size g.2.2.2.1 q0_ mq0_ kq0_) (cwV 0 hts (gV_ t_1110 t_1111 t_1112 t_184 t_1113) rfl rfl rfl (by decide +kernel) ⟨(Nat.le_of_ble_eq_true rfl), (Nat.le_of_ble_eq_true rfl)⟩) (pre3V g hK mq0_ kq0_ (by decide) (q := (RX8, TX8, 10)) rfl) rfl rfl hl.1 rfl (lv_room (Nat.le_of_ble_eq_true rfl)) dX2_openBlock_21 ⟨(Nat.le_of_ble_eq_true rfl), (Nat.le_of_ble_eq_true rfl)⟩) g hK (by decide) (by decide) (fx' := [(2, 0, a0_, .ref q0_), (8, 8, q0_, .int y0_)]) rfl (fun r_30 fr_30 H locs hp hMr_30 g => ?_)
    have kb_1 : bd 1 1 (1 : Int32) := ⟨by decide, by decide⟩
    refine g_callv (va_runV (As := [.int 1, .int r_30]) (rest := []) ⟨hx, hb, hml, hown, hts⟩ (r_X8_fail l dC dI L kd tys fr_30 H.size g.2.2.2.1 q0_ mq0_ kq0_ 1 (bd_sub kb_1 (by decide)) r_30 y0_ by0_ (g.fcts [1] rfl)) (cwV 2 hts (gV_ t_1122 t_1107 t_1108 t_184 t_1109) rfl rfl rfl (by decide +kernel) ⟨(Nat.le_of_ble_eq_true rfl), (Nat.le_of_ble_eq_true rfl)⟩) (pre3V g hK mq0_ kq0_ (by decide) (q := (RX8, TX8, 10)) rfl) rfl rfl hl.1 rfl (lv_room (Nat.le_of_ble_eq_true rfl)) dX2_openBlock_24 ⟨(Nat.le_of_ble_eq_true rfl), (Nat.le_of_ble_eq_true rfl)⟩) g hK (by decide) (by decide) (fx' := [(2, 0, a0_, .ref q0_)]) rfl (fun fr_31 H locs hp hMr_31 g => ?_)
    obtain ⟨x_32, h_33, hF_34⟩ := hp
    have g := g.more hF_34
    refine lv_goto (tgt := 120) hx hb dX2_openBlock_27 (by decide) ?_
    subst hQ
    exact W.vret hx hb hr (fun t ht hW => ⟨⟨_, rfl, Or.inr (⟨x_32, h_33, (g.fcts [0, 1] rfl)⟩), q3_of g hK ht hW⟩, g.2.2.1.F ht⟩) g.2.2.1.2.2 dX2_openBlock_120
set_option maxHeartbeats 4000000 in
set_option maxRecDepth 100000 in
theorem r_X2_openBody (l : Launch) (dC : Nat → ClassId) (dI : Nat → Nat → Nat) (L : List Nat) (kd : Nat → Nat) (tys : List (ClassId × FieldType)) (f0 : Nat → va_E) (sz : Nat) (hWT : WT L kd tys f0) (a0_ : Nat) (ma0_ : a0_ ∈ L) (ka0_ : kd a0_ = 2) (q0_ : Nat) (mq0_ : q0_ ∈ L) (kq0_ : kd q0_ = 8) (q1_ : Nat) (mq1_ : q1_ ∈ L) (kq1_ : kd q1_ = 7) (q2_ : Nat) (mq2_ : q2_ ∈ L) (kq2_ : kd q2_ = 6) (y0_ : Int32) (by0_ : bd 0 0 y0_) (hfx : Fs L kd f0 [(2, 0, a0_, .ref q0_), (2, 3, a0_, .ref q1_), (2, 5, a0_, .ref q2_), (8, 8, q0_, .int y0_)]) : Met l yX2_openBody (.code yX2_openBody cX2_openBody 3 none :: lw_g) ({ frames := 2, cells := 0, slots := 0, locals := 46 }) (va_Pc [.ref a0_] (P3 (dC, dI) L tys f0 sz)) (va_Qv (fun (f : Nat → va_E) => (∃ z0_ : Int32, bd 1 1201 z0_ ∧ ∃ z1_ : Int32, bd 1 8 z1_ ∧ ∃ z3_ : Int32, bd 0 2000 z3_ ∧ Fs L kd f [(8, 6, q0_, .int z0_), (2, 11, a0_, .int z1_), (8, 8, q0_, .int y0_), (6, 8, q2_, .int z3_)]) ∨ (∃ z1_ : Int32, bd 1 7 z1_ ∧ ∃ z2_ : Int32, bd 0 2000 z2_ ∧ Fs L kd f [(8, 6, q0_, .int 1201), (8, 8, q0_, .int z1_), (6, 8, q2_, .int z2_)])) (Q3 (dC, dI) L kd tys [(2, 11), (6, 8), (8, 6), (8, 8), (8, 9)] [118, 119, 120, 121] f0 sz) (pA L sz)) 0 0 (pA L sz) := by
  refine Met.ofW (cc := cX2_openBody) (maxL := 3) (ret := none) (by decide) rfl ?_
  intro p e s m args below meth c s₁ B hml hv
  obtain ⟨rfl, hsz, hP, hK, hD0⟩ := hv
  have hx := B.exec
  have hb := B.bytes
  have hr := B.returns
  have hts := atoms_spec (ws := (.code yX2_openBody cX2_openBody 3 none :: lw_g)) B.pre
  have hown : s.vm.findClass RX2 = some m.cls := findClass_of_methodNamed B.named
  have hlocks := B.notSynchronized
  subst hsz
  have g : G3 (dC, dI) L kd tys s f0 [(2, 11), (6, 8), (8, 6), (8, 8), (8, 9)] [118, 119, 120, 121] f0 s.heap [] [(2, 0, a0_, .ref q0_), (2, 3, a0_, .ref q1_), (2, 5, a0_, .ref q2_), (8, 8, q0_, .int y0_)] := G3.start hP hD0 hWT hfx
  have hl := lv_entry ([.ref a0_]) (n := 3) (Nat.le_of_ble_eq_true rfl)
  rw [lg_entry_eq]
  generalize (lg_sl ([.ref a0_]) ++ List.replicate (3 - (lg_sl ([.ref a0_])).length) Slot.unset).toArray = ls at hl ⊢
  have hl : lv_has ls 3 [(0, .ref a0_)] := hl
  refine W_q (fun Q hQ => ?_)
  refine lv_aload_n hx hb dX2_openBody_0 rfl (lv_at hl 0 rfl) ?_
  refine g_getk (C := RX2) (T := TX2) (N := 16) hx hb hts (mc_ inX2) hown hK g rfl 0 (by decide) rfl (hts _ (List.mem_cons_of_mem _ t_416)) (fun _ h9 => h9) 0 rfl dX2_openBody_1 ?_
  refine g_calli (va_runV (As := []) (rest := []) ⟨hx, hb, hml, hown, hts⟩ (r_X8_place l dC dI L kd tys f0 s.heap.size g.2.2.2.1 q0_ mq0_ kq0_) (cwV 0 hts (gV_ t_1110 t_1111 t_1112 t_184 t_1113) rfl rfl rfl (by decide +kernel) ⟨(Nat.le_of_ble_eq_true rfl), (Nat.le_of_ble_eq_true rfl)⟩) (pre3V g hK mq0_ kq0_ (by decide) (q := (RX8, TX8, 10)) rfl) rfl rfl hl.1 rfl (lv_room (Nat.le_of_ble_eq_true rfl)) dX2_openBody_4 ⟨(Nat.le_of_ble_eq_true rfl), (Nat.le_of_ble_eq_true rfl)⟩) g hK (by decide) (by decide) (fx' := [(2, 0, a0_, .ref q0_), (2, 3, a0_, .ref q1_), (2, 5, a0_, .ref q2_), (8, 8, q0_, .int y0_)]) rfl (fun r_1 fr_1 H locs hp hMr_1 g => ?_)
  refine lv_istore_n (lv' := [(1, .int r_1), (0, .ref a0_)]) hx hb dX2_openBody_7 rfl hl (by decide) rfl (fun ls hl => ?_)
  refine lv_aload_n hx hb dX2_openBody_8 rfl (lv_at hl 1 rfl) ?_
  refine lv_iconst (v := 0) hx hb dX2_openBody_9 (by decide) ?_
  have kb_0 : bd 0 0 (0 : Int32) := ⟨by decide, by decide⟩
  refine g_put (C := RX2) (T := TX2) (N := 16) hx hb hts (mc_ inX2) tyX2 tyX2_ok nmX2 hown hK g ma0_ ka0_ (by decide) rfl 11 (by decide) (hts _ (List.mem_cons_of_mem _ t_427)) (fun _ h9 => h9) rfl rfl (okV_i (bd_sub kb_0 (by decide))) rfl rfl (by decide) (Or.inr (Or.inl (by decide))) (fx' := [(2, 0, a0_, .ref q0_), (2, 3, a0_, .ref q1_), (2, 5, a0_, .ref q2_), (8, 8, q0_, .int y0_)]) rfl dX2_openBody_10 (fun f H locs hM_2 g => ?_)
  refine lv_aload_n hx hb dX2_openBody_13 rfl (lv_at hl 1 rfl) ?_
  refine g_getk (C := RX2) (T := TX2) (N := 16) hx hb hts (mc_ inX2) hown hK g rfl 5 (by decide) rfl (hts _ (List.mem_cons_of_mem _ t_421)) (fun _ h9 => h9) 3 rfl dX2_openBody_14 ?_
  refine lv_aload_n hx hb dX2_openBody_17 rfl (lv_at hl 1 rfl) ?_
  refine g_getk (C := RX2) (T := TX2) (N := 16) hx hb hts (mc_ inX2) hown hK g rfl 3 (by decide) rfl (hts _ (List.mem_cons_of_mem _ t_419)) (fun _ h9 => h9) 2 rfl dX2_openBody_18 ?_
  refine g_geti (C := RX7) (T := TX7) (N := 19) hx hb hts (mc_ inX7) hown hK g mq1_ kq1_ (by decide) rfl 6 (by decide) rfl (hts _ (List.mem_cons_of_mem _ t_647)) (fun _ h9 => h9) rfl dX2_openBody_21 (fun x_3 bx_3 g => ?_)
  refine g_put (C := RX6) (T := TX6) (N := 13) hx hb hts (mc_ inX6) tyX6 tyX6_ok nmX6 hown hK g mq2_ kq2_ (by decide) rfl 8 (by decide) (hts _ (List.mem_cons_of_mem _ t_583)) (fun _ h9 => h9) rfl rfl (okV_i (bd_sub bx_3 (by decide))) rfl rfl (by decide) (Or.inr (Or.inl (by decide))) (fx' := [(7, 6, q1_, .int x_3), (2, 11, a0_, .int 0), (2, 0, a0_, .ref q0_), (2, 3, a0_, .ref q1_), (2, 5, a0_, .ref q2_), (8, 8, q0_, .int y0_)]) rfl dX2_openBody_24 (fun f H locs hM_4 g => ?_)
  refine lv_aload_n hx hb dX2_openBody_27 rfl (lv_at hl 1 rfl) ?_
  refine lv_iconst (v := 0) hx hb dX2_openBody_28 (by decide) ?_
  refine lv_iconst (v := (-1)) hx hb dX2_openBody_29 (by decide) ?_
  refine lv_iconst (v := (-1)) hx hb dX2_openBody_30 (by decide) ?_
  refine g_callv (va_runV (As := [.int 0, .int (-1), .int (-1)]) (rest := []) ⟨hx, hb, hml, hown, hts⟩ (r_X2_openBlock l dC dI L kd tys f H.size g.2.2.2.1 a0_ ma0_ ka0_ 0 (-1) (-1) q0_ mq0_ kq0_ y0_ by0_ (g.fcts [3, 6] rfl)) (cwV 3 hts (gV_ t_1338 t_1340 t_40 t_183 t_1341) rfl rfl rfl (by decide +kernel) ⟨(Nat.le_of_ble_eq_true rfl), (Nat.le_of_ble_eq_true rfl)⟩) (pre3V g hK ma0_ ka0_ (by decide) (q := (RX2, TX2, 16)) rfl) rfl rfl hl.1 rfl (lv_room (Nat.le_of_ble_eq_true rfl)) dX2_openBody_31 ⟨(Nat.le_of_ble_eq_true rfl), (Nat.le_of_ble_eq_true rfl)⟩) g hK (by decide) (by decide) (fx' := [(6, 8, q2_, .int x_3), (7, 6, q1_, .int x_3), (2, 0, a0_, .ref q0_), (2, 3, a0_, .ref q1_), (2, 5, a0_, .ref q2_)]) rfl (fun fr_5 H locs hp hMr_5 g => ?_)
  rcases hp with ⟨x_6, h_7, x_8, h_9, hF_10⟩ | ⟨x_11, h_12, hF_13⟩
  · have g := g.more hF_10
    refine lv_aload_n hx hb dX2_openBody_34 rfl (lv_at hl 1 rfl) ?_
    refine g_getk (C := RX2) (T := TX2) (N := 16) hx hb hts (mc_ inX2) hown hK g rfl 5 (by decide) rfl (hts _ (List.mem_cons_of_mem _ t_421)) (fun _ h9 => h9) 7 rfl dX2_openBody_35 ?_
    refine g_geti (C := RX6) (T := TX6) (N := 13) hx hb hts (mc_ inX6) hown hK g mq2_ kq2_ (by decide) rfl 7 (by decide) rfl (hts _ (List.mem_cons_of_mem _ t_580)) (fun _ h9 => h9) rfl dX2_openBody_38 (fun x_14 bx_14 g => ?_)
    refine lv_istore_n (lv' := [(2, .int x_14), (1, .int r_1), (0, .ref a0_)]) hx hb dX2_openBody_41 rfl hl (by decide) rfl (fun ls hl => ?_)
    refine lv_iload_n hx hb dX2_openBody_42 rfl (lv_at hl 0 rfl) ?_
    refine lv_if_lt (tgt := 91) hx hb dX2_openBody_43 (by decide) (fun c_15 => ?_) (fun c_15 => ?_)
    · have fc_15 := lt_f c_15
      have b_16 : bd (-1) (-1) x_14 := ltL fc_15 bx_14 kb_0 (by decide)
      subst hQ
      exact W.vret hx hb hr (fun t ht hW => ⟨⟨_, rfl, Or.inl ⟨x_6, h_7, x_8, h_9, x_3, bx_3, (g.fcts [1, 2, 3, 4] rfl)⟩, q3_of g hK ht hW⟩, g.2.2.1.F ht⟩) g.2.2.1.2.2 dX2_openBody_91
    · have fc_15 := nlt_f c_15
      have b_17 : bd 0 95 x_14 := leR fc_15 kb_0 bx_14 (by decide)
      refine lv_iload_n hx hb dX2_openBody_46 rfl (lv_at hl 0 rfl) ?_
      refine lv_aload_n hx hb dX2_openBody_47 rfl (lv_at hl 2 rfl) ?_
      refine g_getk (C := RX2) (T := TX2) (N := 16) hx hb hts (mc_ inX2) hown hK g rfl 3 (by decide) rfl (hts _ (List.mem_cons_of_mem _ t_419)) (fun _ h9 => h9) 7 rfl dX2_openBody_48 ?_
      refine g_geti (C := RX7) (T := TX7) (N := 19) hx hb hts (mc_ inX7) hown hK g mq1_ kq1_ (by decide) rfl 3 (by decide) rfl (hts _ (List.mem_cons_of_mem _ t_638)) (fun _ h9 => h9) rfl dX2_openBody_51 (fun x_18 bx_18 g => ?_)
      refine lv_icmp_ge (tgt := 91) hx hb dX2_openBody_54 (by decide) (fun c_19 => ?_) (fun c_19 => ?_)
      · have fc_19 := le_f c_19
        have b_20 : bd 0 95 x_18 := leL fc_19 bx_18 b_17 (by decide)
        subst hQ
        exact W.vret hx hb hr (fun t ht hW => ⟨⟨_, rfl, Or.inl ⟨x_6, h_7, x_8, h_9, x_3, bx_3, (g.fcts [2, 3, 4, 5] rfl)⟩, q3_of g hK ht hW⟩, g.2.2.1.F ht⟩) g.2.2.1.2.2 dX2_openBody_91
      · have fc_19 := nle_f c_19
        have b_21 : bd 1 96 x_18 := ltR fc_19 b_17 bx_18 (by decide)
        refine lv_aload_n hx hb dX2_openBody_57 rfl (lv_at hl 2 rfl) ?_
        refine g_getk (C := RX2) (T := TX2) (N := 16) hx hb hts (mc_ inX2) hown hK g rfl 3 (by decide) rfl (hts _ (List.mem_cons_of_mem _ t_419)) (fun _ h9 => h9) 8 rfl dX2_openBody_58 ?_
        refine g_getr (K := 137) (C := RX7) (T := TX7) (N := 19) hx hb hts (mc_ inX7) hown hK g mq1_ kq1_ (by decide) rfl 2 (by decide) rfl (hts _ (List.mem_cons_of_mem _ t_630)) (fun _ h9 => h9) rfl dX2_openBody_61 (fun a_22 ma_22 ka_22 g => ?_)
        refine lv_iload_n hx hb dX2_openBody_64 rfl (lv_at hl 0 rfl) ?_
        refine g_aald hx hb hK g ma_22 ka_22 (by decide) rfl (by decide) (in_bd b_17 (by decide)) dX2_openBody_65 (fun a_23 ma_23 ua_23 wa_23 => ?_)
        have ka_23 : kd a_23 = 6 := by omega
        refine g_geti (C := RX6) (T := TX6) (N := 13) hx hb hts (mc_ inX6) hown hK g ma_23 ka_23 (by decide) rfl 6 (by decide) rfl (hts _ (List.mem_cons_of_mem _ t_578)) (fun _ h9 => h9) rfl dX2_openBody_66 (fun x_24 bx_24 g => ?_)
        refine lv_if_eq (tgt := 91) hx hb dX2_openBody_69 (by decide) (fun c_25 => ?_) (fun c_25 => ?_)
        · have fc_25 := eq_f c_25
          have b_26 : bd 0 0 x_24 := eqX fc_25 bx_24 kb_0 (by decide)
          subst hQ
          exact W.vret hx hb hr (fun t ht hW => ⟨⟨_, rfl, Or.inl ⟨x_6, h_7, x_8, h_9, x_3, bx_3, (g.fcts [4, 5, 6, 7] rfl)⟩, q3_of g hK ht hW⟩, g.2.2.1.F ht⟩) g.2.2.1.2.2 dX2_openBody_91
        · have fc_25 := neq_f c_25
          have b_27 : bd 1 1 x_24 := neX fc_25 bx_24 kb_0 (by decide)
          refine lv_aload_n hx hb dX2_openBody_72 rfl (lv_at hl 2 rfl) ?_
          refine g_getk (C := RX2) (T := TX2) (N := 16) hx hb hts (mc_ inX2) hown hK g rfl 5 (by decide) rfl (hts _ (List.mem_cons_of_mem _ t_421)) (fun _ h9 => h9) 11 rfl dX2_openBody_73 ?_
          refine g_geti (C := RX6) (T := TX6) (N := 13) hx hb hts (mc_ inX6) hown hK g mq2_ kq2_ (by decide) rfl 6 (by decide) rfl (hts _ (List.mem_cons_of_mem _ t_578)) (fun _ h9 => h9) rfl dX2_openBody_76 (fun x_28 bx_28 g => ?_)
          refine lv_if_ne (tgt := 91) hx hb dX2_openBody_79 (by decide) (fun c_29 => ?_) (fun c_29 => ?_)
          · have fc_29 := neq_f c_29
            have b_30 : bd 1 1 x_28 := neX fc_29 bx_28 kb_0 (by decide)
            subst hQ
            exact W.vret hx hb hr (fun t ht hW => ⟨⟨_, rfl, Or.inl ⟨x_6, h_7, x_8, h_9, x_3, bx_3, (g.fcts [5, 6, 7, 8] rfl)⟩, q3_of g hK ht hW⟩, g.2.2.1.F ht⟩) g.2.2.1.2.2 dX2_openBody_91
          · have fc_29 := eq_f c_29
            have b_31 : bd 0 0 x_28 := eqX fc_29 bx_28 kb_0 (by decide)
            refine lv_aload_n hx hb dX2_openBody_82 rfl (lv_at hl 2 rfl) ?_
            refine g_getk (C := RX2) (T := TX2) (N := 16) hx hb hts (mc_ inX2) hown hK g rfl 0 (by decide) rfl (hts _ (List.mem_cons_of_mem _ t_416)) (fun _ h9 => h9) 10 rfl dX2_openBody_83 ?_
            refine lv_iconst (v := 5) hx hb dX2_openBody_86 (by decide) ?_
            refine lv_iload_n hx hb dX2_openBody_87 rfl (lv_at hl 1 rfl) ?_
            have kb_5 : bd 5 5 (5 : Int32) := ⟨by decide, by decide⟩
            refine g_callv (va_runV (As := [.int 5, .int r_1]) (rest := []) ⟨hx, hb, hml, hown, hts⟩ (r_X8_fail l dC dI L kd tys fr_5 H.size g.2.2.2.1 q0_ mq0_ kq0_ 5 (bd_sub kb_5 (by decide)) r_1 y0_ by0_ (g.fcts [7] rfl)) (cwV 2 hts (gV_ t_1122 t_1107 t_1108 t_184 t_1109) rfl rfl rfl (by decide +kernel) ⟨(Nat.le_of_ble_eq_true rfl), (Nat.le_of_ble_eq_true rfl)⟩) (pre3V g hK mq0_ kq0_ (by decide) (q := (RX8, TX8, 10)) rfl) rfl rfl hl.1 rfl (lv_room (Nat.le_of_ble_eq_true rfl)) dX2_openBody_88 ⟨(Nat.le_of_ble_eq_true rfl), (Nat.le_of_ble_eq_true rfl)⟩) g hK (by decide) (by decide) (fx' := [(6, 6, q2_, .int x_28), (6, 6, a_23, .int x_24), (7, 2, q1_, .ref a_22), (7, 3, q1_, .int x_18), (6, 7, q2_, .int x_14), (2, 11, a0_, .int x_8), (6, 8, q2_, .int x_3), (7, 6, q1_, .int x_3), (2, 0, a0_, .ref q0_), (2, 3, a0_, .ref q1_), (2, 5, a0_, .ref q2_)]) rfl (fun fr_32 H locs hp hMr_32 g => ?_)
            obtain ⟨x_33, h_34, hF_35⟩ := hp
            have g := g.more hF_35
            subst hQ
            exact W.vret hx hb hr (fun t ht hW => ⟨⟨_, rfl, Or.inr (⟨x_33, h_34, x_3, bx_3, (g.fcts [0, 1, 8] rfl)⟩), q3_of g hK ht hW⟩, g.2.2.1.F ht⟩) g.2.2.1.2.2 dX2_openBody_91
  · have g := g.more hF_13
    refine lv_aload_n hx hb dX2_openBody_34 rfl (lv_at hl 1 rfl) ?_
    refine g_getk (C := RX2) (T := TX2) (N := 16) hx hb hts (mc_ inX2) hown hK g rfl 5 (by decide) rfl (hts _ (List.mem_cons_of_mem _ t_421)) (fun _ h9 => h9) 6 rfl dX2_openBody_35 ?_
    refine g_geti (C := RX6) (T := TX6) (N := 13) hx hb hts (mc_ inX6) hown hK g mq2_ kq2_ (by decide) rfl 7 (by decide) rfl (hts _ (List.mem_cons_of_mem _ t_580)) (fun _ h9 => h9) rfl dX2_openBody_38 (fun x_36 bx_36 g => ?_)
    refine lv_istore_n (lv' := [(2, .int x_36), (1, .int r_1), (0, .ref a0_)]) hx hb dX2_openBody_41 rfl hl (by decide) rfl (fun ls hl => ?_)
    refine lv_iload_n hx hb dX2_openBody_42 rfl (lv_at hl 0 rfl) ?_
    refine lv_if_lt (tgt := 91) hx hb dX2_openBody_43 (by decide) (fun c_37 => ?_) (fun c_37 => ?_)
    · have fc_37 := lt_f c_37
      have b_38 : bd (-1) (-1) x_36 := ltL fc_37 bx_36 kb_0 (by decide)
      subst hQ
      exact W.vret hx hb hr (fun t ht hW => ⟨⟨_, rfl, Or.inr (⟨x_11, h_12, x_3, bx_3, (g.fcts [1, 2, 3] rfl)⟩), q3_of g hK ht hW⟩, g.2.2.1.F ht⟩) g.2.2.1.2.2 dX2_openBody_91
    · have fc_37 := nlt_f c_37
      have b_39 : bd 0 95 x_36 := leR fc_37 kb_0 bx_36 (by decide)
      refine lv_iload_n hx hb dX2_openBody_46 rfl (lv_at hl 0 rfl) ?_
      refine lv_aload_n hx hb dX2_openBody_47 rfl (lv_at hl 2 rfl) ?_
      refine g_getk (C := RX2) (T := TX2) (N := 16) hx hb hts (mc_ inX2) hown hK g rfl 3 (by decide) rfl (hts _ (List.mem_cons_of_mem _ t_419)) (fun _ h9 => h9) 6 rfl dX2_openBody_48 ?_
      refine g_geti (C := RX7) (T := TX7) (N := 19) hx hb hts (mc_ inX7) hown hK g mq1_ kq1_ (by decide) rfl 3 (by decide) rfl (hts _ (List.mem_cons_of_mem _ t_638)) (fun _ h9 => h9) rfl dX2_openBody_51 (fun x_40 bx_40 g => ?_)
      refine lv_icmp_ge (tgt := 91) hx hb dX2_openBody_54 (by decide) (fun c_41 => ?_) (fun c_41 => ?_)
      · have fc_41 := le_f c_41
        have b_42 : bd 0 95 x_40 := leL fc_41 bx_40 b_39 (by decide)
        subst hQ
        exact W.vret hx hb hr (fun t ht hW => ⟨⟨_, rfl, Or.inr (⟨x_11, h_12, x_3, bx_3, (g.fcts [2, 3, 4] rfl)⟩), q3_of g hK ht hW⟩, g.2.2.1.F ht⟩) g.2.2.1.2.2 dX2_openBody_91
      · have fc_41 := nle_f c_41
        have b_43 : bd 1 96 x_40 := ltR fc_41 b_39 bx_40 (by decide)
        refine lv_aload_n hx hb dX2_openBody_57 rfl (lv_at hl 2 rfl) ?_
        refine g_getk (C := RX2) (T := TX2) (N := 16) hx hb hts (mc_ inX2) hown hK g rfl 3 (by decide) rfl (hts _ (List.mem_cons_of_mem _ t_419)) (fun _ h9 => h9) 7 rfl dX2_openBody_58 ?_
        refine g_getr (K := 137) (C := RX7) (T := TX7) (N := 19) hx hb hts (mc_ inX7) hown hK g mq1_ kq1_ (by decide) rfl 2 (by decide) rfl (hts _ (List.mem_cons_of_mem _ t_630)) (fun _ h9 => h9) rfl dX2_openBody_61 (fun a_44 ma_44 ka_44 g => ?_)
        refine lv_iload_n hx hb dX2_openBody_64 rfl (lv_at hl 0 rfl) ?_
        refine g_aald hx hb hK g ma_44 ka_44 (by decide) rfl (by decide) (in_bd b_39 (by decide)) dX2_openBody_65 (fun a_45 ma_45 ua_45 wa_45 => ?_)
        have ka_45 : kd a_45 = 6 := by omega
        refine g_geti (C := RX6) (T := TX6) (N := 13) hx hb hts (mc_ inX6) hown hK g ma_45 ka_45 (by decide) rfl 6 (by decide) rfl (hts _ (List.mem_cons_of_mem _ t_578)) (fun _ h9 => h9) rfl dX2_openBody_66 (fun x_46 bx_46 g => ?_)
        refine lv_if_eq (tgt := 91) hx hb dX2_openBody_69 (by decide) (fun c_47 => ?_) (fun c_47 => ?_)
        · have fc_47 := eq_f c_47
          have b_48 : bd 0 0 x_46 := eqX fc_47 bx_46 kb_0 (by decide)
          subst hQ
          exact W.vret hx hb hr (fun t ht hW => ⟨⟨_, rfl, Or.inr (⟨x_11, h_12, x_3, bx_3, (g.fcts [4, 5, 6] rfl)⟩), q3_of g hK ht hW⟩, g.2.2.1.F ht⟩) g.2.2.1.2.2 dX2_openBody_91
        · have fc_47 := neq_f c_47
          have b_49 : bd 1 1 x_46 := neX fc_47 bx_46 kb_0 (by decide)
          refine lv_aload_n hx hb dX2_openBody_72 rfl (lv_at hl 2 rfl) ?_
          refine g_getk (C := RX2) (T := TX2) (N := 16) hx hb hts (mc_ inX2) hown hK g rfl 5 (by decide) rfl (hts _ (List.mem_cons_of_mem _ t_421)) (fun _ h9 => h9) 10 rfl dX2_openBody_73 ?_
          refine g_geti (C := RX6) (T := TX6) (N := 13) hx hb hts (mc_ inX6) hown hK g mq2_ kq2_ (by decide) rfl 6 (by decide) rfl (hts _ (List.mem_cons_of_mem _ t_578)) (fun _ h9 => h9) rfl dX2_openBody_76 (fun x_50 bx_50 g => ?_)
          refine lv_if_ne (tgt := 91) hx hb dX2_openBody_79 (by decide) (fun c_51 => ?_) (fun c_51 => ?_)
          · have fc_51 := neq_f c_51
            have b_52 : bd 1 1 x_50 := neX fc_51 bx_50 kb_0 (by decide)
            subst hQ
            exact W.vret hx hb hr (fun t ht hW => ⟨⟨_, rfl, Or.inr (⟨x_11, h_12, x_3, bx_3, (g.fcts [5, 6, 7] rfl)⟩), q3_of g hK ht hW⟩, g.2.2.1.F ht⟩) g.2.2.1.2.2 dX2_openBody_91
          · have fc_51 := eq_f c_51
            have b_53 : bd 0 0 x_50 := eqX fc_51 bx_50 kb_0 (by decide)
            refine lv_aload_n hx hb dX2_openBody_82 rfl (lv_at hl 2 rfl) ?_
            refine g_getk (C := RX2) (T := TX2) (N := 16) hx hb hts (mc_ inX2) hown hK g rfl 0 (by decide) rfl (hts _ (List.mem_cons_of_mem _ t_416)) (fun _ h9 => h9) 9 rfl dX2_openBody_83 ?_
            refine lv_iconst (v := 5) hx hb dX2_openBody_86 (by decide) ?_
            refine lv_iload_n hx hb dX2_openBody_87 rfl (lv_at hl 1 rfl) ?_
            have kb_5 : bd 5 5 (5 : Int32) := ⟨by decide, by decide⟩
            refine g_callv (va_runV (As := [.int 5, .int r_1]) (rest := []) ⟨hx, hb, hml, hown, hts⟩ (r_X8_fail_2 l dC dI L kd tys fr_5 H.size g.2.2.2.1 q0_ mq0_ kq0_ 5 (bd_sub kb_5 (by decide)) r_1 x_11 h_12 (g.fcts [6] rfl)) (cwV 2 hts (gV_ t_1122 t_1107 t_1108 t_184 t_1109) rfl rfl rfl (by decide +kernel) ⟨(Nat.le_of_ble_eq_true rfl), (Nat.le_of_ble_eq_true rfl)⟩) (pre3V g hK mq0_ kq0_ (by decide) (q := (RX8, TX8, 10)) rfl) rfl rfl hl.1 rfl (lv_room (Nat.le_of_ble_eq_true rfl)) dX2_openBody_88 ⟨(Nat.le_of_ble_eq_true rfl), (Nat.le_of_ble_eq_true rfl)⟩) g hK (by decide) (by decide) (fx' := [(6, 6, q2_, .int x_50), (6, 6, a_45, .int x_46), (7, 2, q1_, .ref a_44), (7, 3, q1_, .int x_40), (6, 7, q2_, .int x_36), (8, 8, q0_, .int x_11), (6, 8, q2_, .int x_3), (7, 6, q1_, .int x_3), (2, 0, a0_, .ref q0_), (2, 3, a0_, .ref q1_), (2, 5, a0_, .ref q2_)]) rfl (fun fr_54 H locs hp hMr_54 g => ?_)
            have hF_55 := hp
            have g := g.more hF_55
            subst hQ
            exact W.vret hx hb hr (fun t ht hW => ⟨⟨_, rfl, Or.inr (⟨x_11, h_12, x_3, bx_3, (g.fcts [0, 6, 7] rfl)⟩), q3_of g hK ht hW⟩, g.2.2.1.F ht⟩) g.2.2.1.2.2 dX2_openBody_91
set_option maxHeartbeats 4000000 in
set_option maxRecDepth 100000 in
theorem r_X2_startsStatement (l : Launch) (dC : Nat → ClassId) (dI : Nat → Nat → Nat) (L : List Nat) (kd : Nat → Nat) (tys : List (ClassId × FieldType)) (f0 : Nat → va_E) (sz : Nat) (hWT : WT L kd tys f0) (x0_ : Int32) : Met l yX2_startsStatement (.code yX2_startsStatement cX2_startsStatement 1 (some .boolean) :: lw_g) ({ frames := 0, cells := 0, slots := 0, locals := 0 }) (va_Pc [.int x0_] (P3 (dC, dI) L tys f0 sz)) (va_Qi (fun (r : Int32) (f : Nat → va_E) => (r = 0 ∧ True) ∨ (r = 1 ∧ bd 3 27 x0_ ∧ True)) (Q3 (dC, dI) L kd tys [] [] f0 sz) (pA L sz)) 0 0 (pA L sz) := by
  refine Met.ofW (cc := cX2_startsStatement) (maxL := 1) (ret := (some .boolean)) (by decide) rfl ?_
  intro p e s m args below meth c s₁ B hml hv
  obtain ⟨rfl, hsz, hP, hK, hD0⟩ := hv
  have hx := B.exec
  have hb := B.bytes
  have hr := B.returns
  have hts := atoms_spec (ws := (.code yX2_startsStatement cX2_startsStatement 1 (some .boolean) :: lw_g)) B.pre
  have hown : s.vm.findClass RX2 = some m.cls := findClass_of_methodNamed B.named
  have hlocks := B.notSynchronized
  subst hsz
  have g : G3 (dC, dI) L kd tys s f0 [] [] f0 s.heap [] [] := G3.start hP hD0 hWT Fs.nil
  have hl := lv_entry ([.int x0_]) (n := 1) (Nat.le_of_ble_eq_true rfl)
  rw [lg_entry_eq]
  generalize (lg_sl ([.int x0_]) ++ List.replicate (1 - (lg_sl ([.int x0_])).length) Slot.unset).toArray = ls at hl ⊢
  have hl : lv_has ls 1 [(0, .int x0_)] := hl
  refine W_q (fun Q hQ => ?_)
  refine lv_iload_n hx hb dX2_startsStatement_0 rfl (lv_at hl 0 rfl) ?_
  refine lv_iconst (v := 3) hx hb dX2_startsStatement_1 (by decide) ?_
  have kb_3 : bd 3 3 (3 : Int32) := ⟨by decide, by decide⟩
  refine lv_icmp_eq (tgt := 29) hx hb dX2_startsStatement_2 (by decide) (fun c_1 => ?_) (fun c_1 => ?_)
  · have fc_1 := eq_f c_1
    have b_2 : bd 3 3 x0_ := eqX fc_1 (bdT x0_) kb_3 (by decide)
    refine lv_iconst (v := 1) hx hb dX2_startsStatement_29 (by decide) ?_
    refine lv_goto (tgt := 34) hx hb dX2_startsStatement_30 (by decide) ?_
    subst hQ
    have kb_1 : bd 1 1 (1 : Int32) := ⟨by decide, by decide⟩
    exact W.zret (v := 1) hx hb hr (nar_z (bd_sub kb_1 (by decide) : bd 0 1 _).1 (bd_sub kb_1 (by decide) : bd 0 1 _).2) (fun t ht hW => ⟨⟨_, _, rfl, Or.inr (⟨rfl, (bd_sub b_2 (by decide)), trivial⟩), q3_of g hK ht hW⟩, g.2.2.1.F ht⟩) g.2.2.1.2.2 dX2_startsStatement_34
  · have fc_1 := neq_f c_1
    refine lv_iload_n hx hb dX2_startsStatement_5 rfl (lv_at hl 0 rfl) ?_
    refine lv_bipush (v := 11) hx hb dX2_startsStatement_6 (by decide) ?_
    have kb_11 : bd 11 11 (11 : Int32) := ⟨by decide, by decide⟩
    refine lv_icmp_eq (tgt := 29) hx hb dX2_startsStatement_8 (by decide) (fun c_3 => ?_) (fun c_3 => ?_)
    · have fc_3 := eq_f c_3
      have b_4 : bd 11 11 x0_ := eqX fc_3 (bdT x0_) kb_11 (by decide)
      refine lv_iconst (v := 1) hx hb dX2_startsStatement_29 (by decide) ?_
      refine lv_goto (tgt := 34) hx hb dX2_startsStatement_30 (by decide) ?_
      subst hQ
      have kb_1 : bd 1 1 (1 : Int32) := ⟨by decide, by decide⟩
      exact W.zret (v := 1) hx hb hr (nar_z (bd_sub kb_1 (by decide) : bd 0 1 _).1 (bd_sub kb_1 (by decide) : bd 0 1 _).2) (fun t ht hW => ⟨⟨_, _, rfl, Or.inr (⟨rfl, (bd_sub b_4 (by decide)), trivial⟩), q3_of g hK ht hW⟩, g.2.2.1.F ht⟩) g.2.2.1.2.2 dX2_startsStatement_34
    · have fc_3 := neq_f c_3
      refine lv_iload_n hx hb dX2_startsStatement_11 rfl (lv_at hl 0 rfl) ?_
      refine lv_bipush (v := 22) hx hb dX2_startsStatement_12 (by decide) ?_
      have kb_22 : bd 22 22 (22 : Int32) := ⟨by decide, by decide⟩
      refine lv_icmp_lt (tgt := 33) hx hb dX2_startsStatement_14 (by decide) (fun c_5 => ?_) (fun c_5 => ?_)
      · have fc_5 := lt_f c_5
        have b_6 : bd (-2147483648) 21 x0_ := ltL fc_5 (bdT x0_) kb_22 (by decide)
        refine lv_iconst (v := 0) hx hb dX2_startsStatement_33 (by decide) ?_
        subst hQ
        have kb_0 : bd 0 0 (0 : Int32) := ⟨by decide, by decide⟩
        exact W.zret (v := 0) hx hb hr (nar_z (bd_sub kb_0 (by decide) : bd 0 1 _).1 (bd_sub kb_0 (by decide) : bd 0 1 _).2) (fun t ht hW => ⟨⟨_, _, rfl, Or.inl ⟨rfl, trivial⟩, q3_of g hK ht hW⟩, g.2.2.1.F ht⟩) g.2.2.1.2.2 dX2_startsStatement_34
      · have fc_5 := nlt_f c_5
        have b_7 : bd 22 2147483647 x0_ := leR fc_5 kb_22 (bdT x0_) (by decide)
        refine lv_iload_n hx hb dX2_startsStatement_17 rfl (lv_at hl 0 rfl) ?_
        refine lv_bipush (v := 27) hx hb dX2_startsStatement_18 (by decide) ?_
        have kb_27 : bd 27 27 (27 : Int32) := ⟨by decide, by decide⟩
        refine lv_icmp_gt (tgt := 33) hx hb dX2_startsStatement_20 (by decide) (fun c_8 => ?_) (fun c_8 => ?_)
        · have fc_8 := lt_f c_8
          have b_9 : bd 28 2147483647 x0_ := ltR fc_8 kb_27 b_7 (by decide)
          refine lv_iconst (v := 0) hx hb dX2_startsStatement_33 (by decide) ?_
          subst hQ
          have kb_0 : bd 0 0 (0 : Int32) := ⟨by decide, by decide⟩
          exact W.zret (v := 0) hx hb hr (nar_z (bd_sub kb_0 (by decide) : bd 0 1 _).1 (bd_sub kb_0 (by decide) : bd 0 1 _).2) (fun t ht hW => ⟨⟨_, _, rfl, Or.inl ⟨rfl, trivial⟩, q3_of g hK ht hW⟩, g.2.2.1.F ht⟩) g.2.2.1.2.2 dX2_startsStatement_34
        · have fc_8 := nlt_f c_8
          have b_10 : bd 22 27 x0_ := leL fc_8 b_7 kb_27 (by decide)
          refine lv_iload_n hx hb dX2_startsStatement_23 rfl (lv_at hl 0 rfl) ?_
          refine lv_bipush (v := 24) hx hb dX2_startsStatement_24 (by decide) ?_
          have kb_24 : bd 24 24 (24 : Int32) := ⟨by decide, by decide⟩
          refine lv_icmp_eq (tgt := 33) hx hb dX2_startsStatement_26 (by decide) (fun c_11 => ?_) (fun c_11 => ?_)
          · have fc_11 := eq_f c_11
            have b_12 : bd 24 24 x0_ := eqX fc_11 b_10 kb_24 (by decide)
            refine lv_iconst (v := 0) hx hb dX2_startsStatement_33 (by decide) ?_
            subst hQ
            have kb_0 : bd 0 0 (0 : Int32) := ⟨by decide, by decide⟩
            exact W.zret (v := 0) hx hb hr (nar_z (bd_sub kb_0 (by decide) : bd 0 1 _).1 (bd_sub kb_0 (by decide) : bd 0 1 _).2) (fun t ht hW => ⟨⟨_, _, rfl, Or.inl ⟨rfl, trivial⟩, q3_of g hK ht hW⟩, g.2.2.1.F ht⟩) g.2.2.1.2.2 dX2_startsStatement_34
          · have fc_11 := neq_f c_11
            refine lv_iconst (v := 1) hx hb dX2_startsStatement_29 (by decide) ?_
            refine lv_goto (tgt := 34) hx hb dX2_startsStatement_30 (by decide) ?_
            subst hQ
            have kb_1 : bd 1 1 (1 : Int32) := ⟨by decide, by decide⟩
            exact W.zret (v := 1) hx hb hr (nar_z (bd_sub kb_1 (by decide) : bd 0 1 _).1 (bd_sub kb_1 (by decide) : bd 0 1 _).2) (fun t ht hW => ⟨⟨_, _, rfl, Or.inr (⟨rfl, (bd_sub b_10 (by decide)), trivial⟩), q3_of g hK ht hW⟩, g.2.2.1.F ht⟩) g.2.2.1.2.2 dX2_startsStatement_34
set_option maxHeartbeats 4000000 in
set_option maxRecDepth 100000 in
theorem r_X7_addStatement (l : Launch) (dC : Nat → ClassId) (dI : Nat → Nat → Nat) (L : List Nat) (kd : Nat → Nat) (tys : List (ClassId × FieldType)) (f0 : Nat → va_E) (sz : Nat) (hWT : WT L kd tys f0) (a0_ : Nat) (ma0_ : a0_ ∈ L) (ka0_ : kd a0_ = 7) : Met l yX7_addStatement (.code yX7_addStatement cX7_addStatement 2 (some .int) :: lw_g) ({ frames := 1, cells := 0, slots := 0, locals := 13 }) (va_Pc [.ref a0_] (P3 (dC, dI) L tys f0 sz)) (va_Qi (fun (r : Int32) (f : Nat → va_E) => (bd 0 419 r ∧ ∃ z0_ : Int32, bd 1 420 z0_ ∧ Fs L kd f [(7, 15, a0_, .int z0_)])) (Q3 (dC, dI) L kd tys [(7, 15)] [146] f0 sz) (pA L sz)) 0 0 (pA L sz) := by
  refine Met.ofW (cc := cX7_addStatement) (maxL := 2) (ret := (some .int)) (by decide) rfl ?_
  intro p e s m args below meth c s₁ B hml hv
  obtain ⟨rfl, hsz, hP, hK, hD0⟩ := hv
  have hx := B.exec
  have hb := B.bytes
  have hr := B.returns
  have hts := atoms_spec (ws := (.code yX7_addStatement cX7_addStatement 2 (some .int) :: lw_g)) B.pre
  have hown : s.vm.findClass RX7 = some m.cls := findClass_of_methodNamed B.named
  have hlocks := B.notSynchronized
  subst hsz
  have g : G3 (dC, dI) L kd tys s f0 [(7, 15)] [146] f0 s.heap [] [] := G3.start hP hD0 hWT Fs.nil
  have hl := lv_entry ([.ref a0_]) (n := 2) (Nat.le_of_ble_eq_true rfl)
  rw [lg_entry_eq]
  generalize (lg_sl ([.ref a0_]) ++ List.replicate (2 - (lg_sl ([.ref a0_])).length) Slot.unset).toArray = ls at hl ⊢
  have hl : lv_has ls 2 [(0, .ref a0_)] := hl
  refine W_q (fun Q hQ => ?_)
  refine lv_aload_n hx hb dX7_addStatement_0 rfl (lv_at hl 0 rfl) ?_
  refine g_geti (C := RX7) (T := TX7) (N := 19) hx hb hts (mc_ inX7) hown hK g ma0_ ka0_ (by decide) rfl 15 (by decide) rfl (hts _ (List.mem_cons_of_mem _ t_673)) (fun _ h9 => h9) rfl dX7_addStatement_1 (fun x_1 bx_1 g => ?_)
  refine lv_sipush (v := 419) hx hb dX7_addStatement_4 (by decide) ?_
  have kb_419 : bd 419 419 (419 : Int32) := ⟨by decide, by decide⟩
  refine va_mmin hx hb (hml.trans hl.1.symm) hown (hts _ (List.mem_cons_of_mem _ t_1177)) (hts _ (List.mem_cons_of_mem _ t_998)) (hts _ (List.mem_cons_of_mem _ t_204)) (hts _ (List.mem_cons_of_mem _ t_999)) (Nat.le_of_ble_eq_true rfl) (Nat.le_of_ble_eq_true rfl) (Nat.le_of_ble_eq_true rfl) (Nat.le_of_ble_eq_true rfl) dX7_addStatement_7 ?_
  refine lv_topi (fun y_2 ey_2 => ?_)
  have ty_2 : y_2.toInt = min x_1.toInt (419 : Int32).toInt := by rw [ey_2]; exact mmin_ok _ _
  have b_3 : bd 0 419 y_2 := min_rg ty_2 bx_1 kb_419 (by decide)
  refine lv_istore_n (lv' := [(1, .int y_2), (0, .ref a0_)]) hx hb dX7_addStatement_10 rfl hl (by decide) rfl (fun ls hl => ?_)
  refine lv_aload_n hx hb dX7_addStatement_11 rfl (lv_at hl 1 rfl) ?_
  refine g_getr (K := 146) (C := RX7) (T := TX7) (N := 19) hx hb hts (mc_ inX7) hown hK g ma0_ ka0_ (by decide) rfl 14 (by decide) rfl (hts _ (List.mem_cons_of_mem _ t_671)) (fun _ h9 => h9) rfl dX7_addStatement_12 (fun a_4 ma_4 ka_4 g => ?_)
  refine lv_iload_n hx hb dX7_addStatement_15 rfl (lv_at hl 0 rfl) ?_
  refine lv_iconst (v := 0) hx hb dX7_addStatement_16 (by decide) ?_
  have kb_0 : bd 0 0 (0 : Int32) := ⟨by decide, by decide⟩
  refine g_zast hx hb hK g ma_4 ka_4 (by decide) rfl (in_bd b_3 (by decide)) (bd_sub kb_0 (by decide)) (by decide) dX7_addStatement_17 (fun f H locs hM_5 g => ?_)
  refine lv_aload_n hx hb dX7_addStatement_18 rfl (lv_at hl 1 rfl) ?_
  refine lv_iload_n hx hb dX7_addStatement_19 rfl (lv_at hl 0 rfl) ?_
  refine lv_iconst (v := 1) hx hb dX7_addStatement_20 (by decide) ?_
  have kb_1 : bd 1 1 (1 : Int32) := ⟨by decide, by decide⟩
  refine lv_iadd hx hb dX7_addStatement_21 ?_
  refine lv_topi (fun y_6 ey_6 => ?_)
  have ty_6 := add_bd ey_6 b_3 kb_1 (by decide)
  have b_7 : bd 1 420 y_6 := add_rg ty_6 b_3 kb_1 (by decide)
  refine g_put (C := RX7) (T := TX7) (N := 19) hx hb hts (mc_ inX7) tyX7 tyX7_ok nmX7 hown hK g ma0_ ka0_ (by decide) rfl 15 (by decide) (hts _ (List.mem_cons_of_mem _ t_673)) (fun _ h9 => h9) rfl rfl (okV_i (bd_sub b_7 (by decide))) rfl rfl (by decide) (Or.inr (Or.inl (by decide))) (fx' := [(7, 14, a0_, .ref a_4)]) rfl dX7_addStatement_22 (fun f H locs hM_8 g => ?_)
  refine lv_iload_n hx hb dX7_addStatement_25 rfl (lv_at hl 0 rfl) ?_
  subst hQ
  exact W.iret (v := y_2) hx hb hr (fun t ht hW => ⟨⟨_, _, rfl, ⟨b_3, y_6, b_7, (g.fcts [0] rfl)⟩, q3_of g hK ht hW⟩, g.2.2.1.F ht⟩) g.2.2.1.2.2 dX7_addStatement_26
set_option maxHeartbeats 4000000 in
set_option maxRecDepth 100000 in
theorem r_X2_readLet (l : Launch) (dC : Nat → ClassId) (dI : Nat → Nat → Nat) (L : List Nat) (kd : Nat → Nat) (tys : List (ClassId × FieldType)) (f0 : Nat → va_E) (sz : Nat) (hWT : WT L kd tys f0) (a0_ : Nat) (ma0_ : a0_ ∈ L) (ka0_ : kd a0_ = 2) (q0_ : Nat) (mq0_ : q0_ ∈ L) (kq0_ : kd q0_ = 8) (q1_ : Nat) (mq1_ : q1_ ∈ L) (kq1_ : kd q1_ = 5) (q2_ : Nat) (mq2_ : q2_ ∈ L) (kq2_ : kd q2_ = 0) (q3_ : Nat) (mq3_ : q3_ ∈ L) (kq3_ : kd q3_ = 7) (q6_ : Nat) (mq6_ : q6_ ∈ L) (kq6_ : kd q6_ = 7) (q7_ : Nat) (mq7_ : q7_ ∈ L) (kq7_ : kd q7_ = 9) (y0_ : Int32) (by0_ : bd 1201 1201 y0_) (y1_ : Int32) (by1_ : bd 1 7 y1_) (hGeq2_ : eOK f0 q2_) (hfx : Fs L kd f0 [(2, 0, a0_, .ref q0_), (2, 1, a0_, .ref q1_), (2, 2, a0_, .ref q2_), (2, 3, a0_, .ref q3_), (0, 0, q2_, .ref q0_), (0, 1, q2_, .ref q1_), (5, 0, q1_, .ref q6_), (5, 1, q1_, .ref q7_), (8, 6, q0_, .int y0_), (8, 8, q0_, .int y1_)]) : Met l yX2_readLet (.code yX2_readLet cX2_readLet 5 none :: lw_g) ({ frames := 2, cells := 0, slots := 0, locals := 44 }) (va_Pc [.ref a0_] (P3 (dC, dI) L tys f0 sz)) (va_Qv (fun (f : Nat → va_E) => (∃ z0_ : Int32, bd 1201 1201 z0_ ∧ ∃ z1_ : Int32, bd 1 2000 z1_ ∧ Fs L kd f [(8, 6, q0_, .int z0_), (7, 6, q3_, .int z1_), (0, 13, q2_, .int 0), (0, 12, q2_, .int 1), (0, 11, q2_, .int 0), (0, 10, q2_, .int 0), (0, 8, q2_, .int 0), (0, 2, q2_, .ref q6_)])) (Q3 (dC, dI) L kd tys [(0, 2), (0, 8), (0, 10), (0, 11), (0, 12), (0, 13), (7, 6), (8, 6)] [138, 139] f0 sz) (pA L sz)) 0 0 (pA L sz) := by
  refine Met.ofW (cc := cX2_readLet) (maxL := 5) (ret := none) (by decide) rfl ?_
  intro p e s m args below meth c s₁ B hml hv
  obtain ⟨rfl, hsz, hP, hK, hD0⟩ := hv
  have hx := B.exec
  have hb := B.bytes
  have hr := B.returns
  have hts := atoms_spec (ws := (.code yX2_readLet cX2_readLet 5 none :: lw_g)) B.pre
  have hown : s.vm.findClass RX2 = some m.cls := findClass_of_methodNamed B.named
  have hlocks := B.notSynchronized
  subst hsz
  have g : G3 (dC, dI) L kd tys s f0 [(0, 2), (0, 8), (0, 10), (0, 11), (0, 12), (0, 13), (7, 6), (8, 6)] [138, 139] f0 s.heap [] [(2, 0, a0_, .ref q0_), (2, 1, a0_, .ref q1_), (2, 2, a0_, .ref q2_), (2, 3, a0_, .ref q3_), (0, 0, q2_, .ref q0_), (0, 1, q2_, .ref q1_), (5, 0, q1_, .ref q6_), (5, 1, q1_, .ref q7_), (8, 6, q0_, .int y0_), (8, 8, q0_, .int y1_)] := G3.start hP hD0 hWT hfx
  have hl := lv_entry ([.ref a0_]) (n := 5) (Nat.le_of_ble_eq_true rfl)
  rw [lg_entry_eq]
  generalize (lg_sl ([.ref a0_]) ++ List.replicate (5 - (lg_sl ([.ref a0_])).length) Slot.unset).toArray = ls at hl ⊢
  have hl : lv_has ls 5 [(0, .ref a0_)] := hl
  refine W_q (fun Q hQ => ?_)
  refine lv_aload_n hx hb dX2_readLet_0 rfl (lv_at hl 0 rfl) ?_
  refine g_getk (C := RX2) (T := TX2) (N := 16) hx hb hts (mc_ inX2) hown hK g rfl 0 (by decide) rfl (hts _ (List.mem_cons_of_mem _ t_416)) (fun _ h9 => h9) 0 rfl dX2_readLet_1 ?_
  have go_ := g
  refine g_callv (va_runV (As := []) (rest := []) ⟨hx, hb, hml, hown, hts⟩ (r_X8_next_2 l dC dI L kd tys f0 s.heap.size g.2.2.2.1 q0_ mq0_ kq0_ y0_ by0_ (g.fcts [8] rfl)) (cwV 0 hts (gV_ t_1131 t_1103 t_1104 t_184 t_1105) rfl rfl rfl (by decide +kernel) ⟨(Nat.le_of_ble_eq_true rfl), (Nat.le_of_ble_eq_true rfl)⟩) (pre3V g hK mq0_ kq0_ (by decide) (q := (RX8, TX8, 10)) rfl) rfl rfl hl.1 rfl (lv_room (Nat.le_of_ble_eq_true rfl)) dX2_readLet_4 ⟨(Nat.le_of_ble_eq_true rfl), (Nat.le_of_ble_eq_true rfl)⟩) g hK (by decide) (by decide) (fx' := [(2, 0, a0_, .ref q0_), (2, 1, a0_, .ref q1_), (2, 2, a0_, .ref q2_), (2, 3, a0_, .ref q3_), (0, 0, q2_, .ref q0_), (0, 1, q2_, .ref q1_), (5, 0, q1_, .ref q6_), (5, 1, q1_, .ref q7_), (8, 6, q0_, .int y0_), (8, 8, q0_, .int y1_)]) rfl (fun fr_1 H locs hp hMr_1 g => ?_)
  have hG_2 := eOK.frame hMr_1 go_.2.2.2.1 mq2_ kq2_ (by decide) (by decide) hGeq2_
  refine lv_aload_n hx hb dX2_readLet_7 rfl (lv_at hl 0 rfl) ?_
  refine g_getk (C := RX2) (T := TX2) (N := 16) hx hb hts (mc_ inX2) hown hK g rfl 0 (by decide) rfl (hts _ (List.mem_cons_of_mem _ t_416)) (fun _ h9 => h9) 0 rfl dX2_readLet_8 ?_
  have go_ := g
  refine g_calli (va_runV (As := []) (rest := []) ⟨hx, hb, hml, hown, hts⟩ (r_X8_place l dC dI L kd tys fr_1 H.size g.2.2.2.1 q0_ mq0_ kq0_) (cwV 0 hts (gV_ t_1110 t_1111 t_1112 t_184 t_1113) rfl rfl rfl (by decide +kernel) ⟨(Nat.le_of_ble_eq_true rfl), (Nat.le_of_ble_eq_true rfl)⟩) (pre3V g hK mq0_ kq0_ (by decide) (q := (RX8, TX8, 10)) rfl) rfl rfl hl.1 rfl (lv_room (Nat.le_of_ble_eq_true rfl)) dX2_readLet_11 ⟨(Nat.le_of_ble_eq_true rfl), (Nat.le_of_ble_eq_true rfl)⟩) g hK (by decide) (by decide) (fx' := [(2, 0, a0_, .ref q0_), (2, 1, a0_, .ref q1_), (2, 2, a0_, .ref q2_), (2, 3, a0_, .ref q3_), (0, 0, q2_, .ref q0_), (0, 1, q2_, .ref q1_), (5, 0, q1_, .ref q6_), (5, 1, q1_, .ref q7_), (8, 6, q0_, .int y0_), (8, 8, q0_, .int y1_)]) rfl (fun r_3 fr_3 H locs hp hMr_3 g => ?_)
  have hG_4 := eOK.frame hMr_3 go_.2.2.2.1 mq2_ kq2_ (by decide) (by decide) hG_2
  refine lv_istore_n (lv' := [(1, .int r_3), (0, .ref a0_)]) hx hb dX2_readLet_14 rfl hl (by decide) rfl (fun ls hl => ?_)
  refine lv_aload_n hx hb dX2_readLet_15 rfl (lv_at hl 1 rfl) ?_
  refine g_getk (C := RX2) (T := TX2) (N := 16) hx hb hts (mc_ inX2) hown hK g rfl 0 (by decide) rfl (hts _ (List.mem_cons_of_mem _ t_416)) (fun _ h9 => h9) 0 rfl dX2_readLet_16 ?_
  have go_ := g
  refine g_calll (va_runV (As := []) (rest := []) ⟨hx, hb, hml, hown, hts⟩ (r_X8_value l dC dI L kd tys fr_3 H.size g.2.2.2.1 q0_ mq0_ kq0_) (cwV 0 hts (gV_ t_1114 t_1115 t_1116 t_184 t_1117) rfl rfl rfl (by decide +kernel) ⟨(Nat.le_of_ble_eq_true rfl), (Nat.le_of_ble_eq_true rfl)⟩) (pre3V g hK mq0_ kq0_ (by decide) (q := (RX8, TX8, 10)) rfl) rfl rfl hl.1 rfl (lv_room (Nat.le_of_ble_eq_true rfl)) dX2_readLet_19 ⟨(Nat.le_of_ble_eq_true rfl), (Nat.le_of_ble_eq_true rfl)⟩) g hK (by decide) (by decide) (fx' := [(2, 0, a0_, .ref q0_), (2, 1, a0_, .ref q1_), (2, 2, a0_, .ref q2_), (2, 3, a0_, .ref q3_), (0, 0, q2_, .ref q0_), (0, 1, q2_, .ref q1_), (5, 0, q1_, .ref q6_), (5, 1, q1_, .ref q7_), (8, 6, q0_, .int y0_), (8, 8, q0_, .int y1_)]) rfl (fun r_5 fr_5 H locs hp hMr_5 g => ?_)
  have hG_6 := eOK.frame hMr_5 go_.2.2.2.1 mq2_ kq2_ (by decide) (by decide) hG_4
  refine lv_lstore_n (lv' := [(2, .long r_5), (1, .int r_3), (0, .ref a0_)]) hx hb dX2_readLet_22 rfl hl (by decide) rfl (fun ls hl => ?_)
  refine lv_aload_n hx hb dX2_readLet_23 rfl (lv_at hl 2 rfl) ?_
  refine g_getk (C := RX2) (T := TX2) (N := 16) hx hb hts (mc_ inX2) hown hK g rfl 1 (by decide) rfl (hts _ (List.mem_cons_of_mem _ t_417)) (fun _ h9 => h9) 1 rfl dX2_readLet_24 ?_
  refine g_geti (C := RX5) (T := TX5) (N := 9) hx hb hts (mc_ inX5) hown hK g mq1_ kq1_ (by decide) rfl 6 (by decide) rfl (hts _ (List.mem_cons_of_mem _ t_341)) (fun _ h9 => h9) rfl dX2_readLet_27 (fun x_7 bx_7 g => ?_)
  refine lv_istore (lv' := [(4, .int x_7), (2, .long r_5), (1, .int r_3), (0, .ref a0_)]) hx hb dX2_readLet_30 hl (by decide) rfl (fun ls hl => ?_)
  refine lv_aload_n hx hb dX2_readLet_32 rfl (lv_at hl 3 rfl) ?_
  refine g_getk (C := RX2) (T := TX2) (N := 16) hx hb hts (mc_ inX2) hown hK g rfl 0 (by decide) rfl (hts _ (List.mem_cons_of_mem _ t_416)) (fun _ h9 => h9) 1 rfl dX2_readLet_33 ?_
  have go_ := g
  refine g_calli (va_runV (As := []) (rest := []) ⟨hx, hb, hml, hown, hts⟩ (r_X8_kind_2 l dC dI L kd tys fr_5 H.size g.2.2.2.1 q0_ mq0_ kq0_ y0_ by0_ (g.fcts [9] rfl)) (cwV 0 hts (gV_ t_1118 t_1119 t_1120 t_184 t_1121) rfl rfl rfl (by decide +kernel) ⟨(Nat.le_of_ble_eq_true rfl), (Nat.le_of_ble_eq_true rfl)⟩) (pre3V g hK mq0_ kq0_ (by decide) (q := (RX8, TX8, 10)) rfl) rfl rfl hl.1 rfl (lv_room (Nat.le_of_ble_eq_true rfl)) dX2_readLet_36 ⟨(Nat.le_of_ble_eq_true rfl), (Nat.le_of_ble_eq_true rfl)⟩) g hK (by decide) (by decide) (fx' := [(5, 6, q1_, .int x_7), (2, 0, a0_, .ref q0_), (2, 1, a0_, .ref q1_), (2, 2, a0_, .ref q2_), (2, 3, a0_, .ref q3_), (0, 0, q2_, .ref q0_), (0, 1, q2_, .ref q1_), (5, 0, q1_, .ref q6_), (5, 1, q1_, .ref q7_), (8, 6, q0_, .int y0_), (8, 8, q0_, .int y1_)]) rfl (fun r_8 fr_8 H locs hp hMr_8 g => ?_)
  obtain ⟨h_9, -⟩ := hp
  have hG_10 := eOK.frame hMr_8 go_.2.2.2.1 mq2_ kq2_ (by decide) (by decide) hG_6
  obtain rfl : r_8 = 0 := h_9
  refine lv_iconst (v := 3) hx hb dX2_readLet_39 (by decide) ?_
  refine lv_icmp_eq (tgt := 55) hx hb dX2_readLet_40 (by decide) (fun c_ => absurd c_ (by decide)) (fun c_ => ?_)
  refine lv_aload_n hx hb dX2_readLet_43 rfl (lv_at hl 3 rfl) ?_
  refine g_getk (C := RX2) (T := TX2) (N := 16) hx hb hts (mc_ inX2) hown hK g rfl 0 (by decide) rfl (hts _ (List.mem_cons_of_mem _ t_416)) (fun _ h9 => h9) 1 rfl dX2_readLet_44 ?_
  refine lv_iconst (v := 1) hx hb dX2_readLet_47 (by decide) ?_
  refine lv_iload_n hx hb dX2_readLet_48 rfl (lv_at hl 2 rfl) ?_
  have kb_1 : bd 1 1 (1 : Int32) := ⟨by decide, by decide⟩
  have go_ := g
  refine g_callv (va_runV (As := [.int 1, .int r_3]) (rest := []) ⟨hx, hb, hml, hown, hts⟩ (r_X8_fail_2 l dC dI L kd tys fr_8 H.size g.2.2.2.1 q0_ mq0_ kq0_ 1 (bd_sub kb_1 (by decide)) r_3 y1_ by1_ (g.fcts [10] rfl)) (cwV 2 hts (gV_ t_1122 t_1107 t_1108 t_184 t_1109) rfl rfl rfl (by decide +kernel) ⟨(Nat.le_of_ble_eq_true rfl), (Nat.le_of_ble_eq_true rfl)⟩) (pre3V g hK mq0_ kq0_ (by decide) (q := (RX8, TX8, 10)) rfl) rfl rfl hl.1 rfl (lv_room (Nat.le_of_ble_eq_true rfl)) dX2_readLet_49 ⟨(Nat.le_of_ble_eq_true rfl), (Nat.le_of_ble_eq_true rfl)⟩) g hK (by decide) (by decide) (fx' := [(5, 6, q1_, .int x_7), (2, 0, a0_, .ref q0_), (2, 1, a0_, .ref q1_), (2, 2, a0_, .ref q2_), (2, 3, a0_, .ref q3_), (0, 0, q2_, .ref q0_), (0, 1, q2_, .ref q1_), (5, 0, q1_, .ref q6_), (5, 1, q1_, .ref q7_), (8, 8, q0_, .int y1_)]) rfl (fun fr_11 H locs hp hMr_11 g => ?_)
  have hF_12 := hp
  have hG_13 := eOK.frame hMr_11 go_.2.2.2.1 mq2_ kq2_ (by decide) (by decide) hG_10
  have g := g.more hF_12
  refine lv_goto (tgt := 120) hx hb dX2_readLet_52 (by decide) ?_
  refine lv_aload_n hx hb dX2_readLet_120 rfl (lv_at hl 3 rfl) ?_
  refine g_getk (C := RX2) (T := TX2) (N := 16) hx hb hts (mc_ inX2) hown hK g rfl 0 (by decide) rfl (hts _ (List.mem_cons_of_mem _ t_416)) (fun _ h9 => h9) 2 rfl dX2_readLet_121 ?_
  have kb_1201 : bd 1201 1201 (1201 : Int32) := ⟨by decide, by decide⟩
  have go_ := g
  refine g_callv (va_runV (As := []) (rest := []) ⟨hx, hb, hml, hown, hts⟩ (r_X8_next_2 l dC dI L kd tys fr_11 H.size g.2.2.2.1 q0_ mq0_ kq0_ 1201 kb_1201 (g.fcts [0] rfl)) (cwV 0 hts (gV_ t_1131 t_1103 t_1104 t_184 t_1105) rfl rfl rfl (by decide +kernel) ⟨(Nat.le_of_ble_eq_true rfl), (Nat.le_of_ble_eq_true rfl)⟩) (pre3V g hK mq0_ kq0_ (by decide) (q := (RX8, TX8, 10)) rfl) rfl rfl hl.1 rfl (lv_room (Nat.le_of_ble_eq_true rfl)) dX2_readLet_124 ⟨(Nat.le_of_ble_eq_true rfl), (Nat.le_of_ble_eq_true rfl)⟩) g hK (by decide) (by decide) (fx' := [(8, 6, q0_, .int 1201), (5, 6, q1_, .int x_7), (2, 0, a0_, .ref q0_), (2, 1, a0_, .ref q1_), (2, 2, a0_, .ref q2_), (2, 3, a0_, .ref q3_), (0, 0, q2_, .ref q0_), (0, 1, q2_, .ref q1_), (5, 0, q1_, .ref q6_), (5, 1, q1_, .ref q7_), (8, 8, q0_, .int y1_)]) rfl (fun fr_14 H locs hp hMr_14 g => ?_)
  have hG_15 := eOK.frame hMr_14 go_.2.2.2.1 mq2_ kq2_ (by decide) (by decide) hG_13
  refine lv_aload_n hx hb dX2_readLet_127 rfl (lv_at hl 3 rfl) ?_
  refine g_getk (C := RX2) (T := TX2) (N := 16) hx hb hts (mc_ inX2) hown hK g rfl 0 (by decide) rfl (hts _ (List.mem_cons_of_mem _ t_416)) (fun _ h9 => h9) 2 rfl dX2_readLet_128 ?_
  refine lv_bipush (v := 61) hx hb dX2_readLet_131 (by decide) ?_
  have go_ := g
  refine g_callv (va_runV (As := [.int 61]) (rest := []) ⟨hx, hb, hml, hown, hts⟩ (r_X8_take_2 l dC dI L kd tys fr_14 H.size g.2.2.2.1 q0_ mq0_ kq0_ 61 1201 kb_1201 y1_ by1_ (g.fcts [0, 10] rfl)) (cwV 1 hts (gV_ t_1098 t_1099 t_1100 t_184 t_1101) rfl rfl rfl (by decide +kernel) ⟨(Nat.le_of_ble_eq_true rfl), (Nat.le_of_ble_eq_true rfl)⟩) (pre3V g hK mq0_ kq0_ (by decide) (q := (RX8, TX8, 10)) rfl) rfl rfl hl.1 rfl (lv_room (Nat.le_of_ble_eq_true rfl)) dX2_readLet_133 ⟨(Nat.le_of_ble_eq_true rfl), (Nat.le_of_ble_eq_true rfl)⟩) g hK (by decide) (by decide) (fx' := [(5, 6, q1_, .int x_7), (2, 0, a0_, .ref q0_), (2, 1, a0_, .ref q1_), (2, 2, a0_, .ref q2_), (2, 3, a0_, .ref q3_), (0, 0, q2_, .ref q0_), (0, 1, q2_, .ref q1_), (5, 0, q1_, .ref q6_), (5, 1, q1_, .ref q7_), (8, 8, q0_, .int y1_)]) rfl (fun fr_16 H locs hp hMr_16 g => ?_)
  obtain ⟨x_17, h_18, hF_19⟩ := hp
  have hG_20 := eOK.frame hMr_16 go_.2.2.2.1 mq2_ kq2_ (by decide) (by decide) hG_15
  have g := g.more hF_19
  refine lv_aload_n hx hb dX2_readLet_136 rfl (lv_at hl 3 rfl) ?_
  refine g_getk (C := RX2) (T := TX2) (N := 16) hx hb hts (mc_ inX2) hown hK g rfl 3 (by decide) rfl (hts _ (List.mem_cons_of_mem _ t_419)) (fun _ h9 => h9) 5 rfl dX2_readLet_137 ?_
  refine lv_bipush (v := 14) hx hb dX2_readLet_140 (by decide) ?_
  refine lv_iconst (v := 3) hx hb dX2_readLet_142 (by decide) ?_
  refine lv_iload hx hb dX2_readLet_143 (lv_at hl 0 rfl) ?_
  have kb_3 : bd 3 3 (3 : Int32) := ⟨by decide, by decide⟩
  refine lv_iadd hx hb dX2_readLet_145 ?_
  refine lv_topi (fun y_21 ey_21 => ?_)
  have ty_21 := add_bd ey_21 kb_3 bx_7 (by decide)
  have b_22 : bd 3 11 y_21 := add_rg ty_21 kb_3 bx_7 (by decide)
  have go_ := g
  refine g_callv (va_runV (As := [.int 14, .int y_21]) (rest := []) ⟨hx, hb, hml, hown, hts⟩ (r_X7_emit l dC dI L kd tys fr_16 H.size g.2.2.2.1 q3_ mq3_ kq3_ 14 y_21) (cwV 2 hts (gV_ t_1301 t_1204 t_1205 t_191 t_1206) rfl rfl rfl (by decide +kernel) ⟨(Nat.le_of_ble_eq_true rfl), (Nat.le_of_ble_eq_true rfl)⟩) (pre3V g hK mq3_ kq3_ (by decide) (q := (RX7, TX7, 19)) rfl) rfl rfl hl.1 rfl (lv_room (Nat.le_of_ble_eq_true rfl)) dX2_readLet_146 ⟨(Nat.le_of_ble_eq_true rfl), (Nat.le_of_ble_eq_true rfl)⟩) g hK (by decide) (by decide) (fx' := [(8, 6, q0_, .int x_17), (5, 6, q1_, .int x_7), (2, 0, a0_, .ref q0_), (2, 1, a0_, .ref q1_), (2, 2, a0_, .ref q2_), (2, 3, a0_, .ref q3_), (0, 0, q2_, .ref q0_), (0, 1, q2_, .ref q1_), (5, 0, q1_, .ref q6_), (5, 1, q1_, .ref q7_), (8, 8, q0_, .int y1_)]) rfl (fun fr_23 H locs hp hMr_23 g => ?_)
  obtain ⟨x_24, h_25, hF_26⟩ := hp
  have hG_27 := eOK.frame hMr_23 go_.2.2.2.1 mq2_ kq2_ (by decide) (by decide) hG_20
  have g := g.more hF_26
  refine lv_aload_n hx hb dX2_readLet_149 rfl (lv_at hl 3 rfl) ?_
  refine g_getk (C := RX2) (T := TX2) (N := 16) hx hb hts (mc_ inX2) hown hK g rfl 2 (by decide) rfl (hts _ (List.mem_cons_of_mem _ t_418)) (fun _ h9 => h9) 5 rfl dX2_readLet_150 ?_
  have go_ := g
  refine g_callv (va_runV (As := []) (rest := []) ⟨hx, hb, hml, hown, hts⟩ (r_X0_read_2 l dC dI L kd tys fr_23 H.size g.2.2.2.1 q2_ mq2_ kq2_ q0_ mq0_ kq0_ q1_ mq1_ kq1_ q6_ mq6_ kq6_ q7_ mq7_ kq7_ x_17 h_18 y1_ by1_ hG_27 (g.fcts [7, 8, 9, 10, 1, 11] rfl)) (cwV 0 hts (gV_ t_1182 t_1183 t_1184 t_190 t_1185) rfl rfl rfl (by decide +kernel) ⟨(Nat.le_of_ble_eq_true rfl), (Nat.le_of_ble_eq_true rfl)⟩) (pre3V g hK mq2_ kq2_ (by decide) (q := (RX0, TX0, 14)) rfl) rfl rfl hl.1 rfl (lv_room (Nat.le_of_ble_eq_true rfl)) dX2_readLet_153 ⟨(Nat.le_of_ble_eq_true rfl), (Nat.le_of_ble_eq_true rfl)⟩) g hK (by decide) (by decide) (fx' := [(7, 6, q3_, .int x_24), (8, 6, q0_, .int x_17), (5, 6, q1_, .int x_7), (2, 0, a0_, .ref q0_), (2, 1, a0_, .ref q1_), (2, 2, a0_, .ref q2_), (2, 3, a0_, .ref q3_), (0, 0, q2_, .ref q0_), (0, 1, q2_, .ref q1_), (5, 0, q1_, .ref q6_), (5, 1, q1_, .ref q7_), (8, 8, q0_, .int y1_)]) rfl (fun fr_28 H locs hp hMr_28 g => ?_)
  have hF_29 := hp
  have hG_30 := eOK.frame hMr_28 go_.2.2.2.1 mq2_ kq2_ (by decide) (by decide) hG_27
  have g := g.more hF_29
  refine lv_aload_n hx hb dX2_readLet_156 rfl (lv_at hl 3 rfl) ?_
  refine g_getk (C := RX2) (T := TX2) (N := 16) hx hb hts (mc_ inX2) hown hK g rfl 3 (by decide) rfl (hts _ (List.mem_cons_of_mem _ t_419)) (fun _ h9 => h9) 12 rfl dX2_readLet_157 ?_
  refine lv_bipush (v := 20) hx hb dX2_readLet_160 (by decide) ?_
  refine lv_iconst (v := 3) hx hb dX2_readLet_162 (by decide) ?_
  refine lv_iload hx hb dX2_readLet_163 (lv_at hl 0 rfl) ?_
  refine lv_iadd hx hb dX2_readLet_165 ?_
  refine lv_topi (fun y_31 ey_31 => ?_)
  obtain rfl : y_21 = y_31 := ey_21.trans ey_31.symm
  have go_ := g
  refine g_callv (va_runV (As := [.int 20, .int y_21]) (rest := []) ⟨hx, hb, hml, hown, hts⟩ (r_X7_emit l dC dI L kd tys fr_28 H.size g.2.2.2.1 q3_ mq3_ kq3_ 20 y_21) (cwV 2 hts (gV_ t_1301 t_1204 t_1205 t_191 t_1206) rfl rfl rfl (by decide +kernel) ⟨(Nat.le_of_ble_eq_true rfl), (Nat.le_of_ble_eq_true rfl)⟩) (pre3V g hK mq3_ kq3_ (by decide) (q := (RX7, TX7, 19)) rfl) rfl rfl hl.1 rfl (lv_room (Nat.le_of_ble_eq_true rfl)) dX2_readLet_166 ⟨(Nat.le_of_ble_eq_true rfl), (Nat.le_of_ble_eq_true rfl)⟩) g hK (by decide) (by decide) (fx' := [(0, 13, q2_, .int 0), (0, 12, q2_, .int 1), (0, 11, q2_, .int 0), (0, 10, q2_, .int 0), (0, 8, q2_, .int 0), (0, 2, q2_, .ref q6_), (8, 6, q0_, .int x_17), (5, 6, q1_, .int x_7), (2, 0, a0_, .ref q0_), (2, 1, a0_, .ref q1_), (2, 2, a0_, .ref q2_), (2, 3, a0_, .ref q3_), (0, 0, q2_, .ref q0_), (0, 1, q2_, .ref q1_), (5, 0, q1_, .ref q6_), (5, 1, q1_, .ref q7_), (8, 8, q0_, .int y1_)]) rfl (fun fr_32 H locs hp hMr_32 g => ?_)
  obtain ⟨x_33, h_34, hF_35⟩ := hp
  have hG_36 := eOK.frame hMr_32 go_.2.2.2.1 mq2_ kq2_ (by decide) (by decide) hG_30
  have g := g.more hF_35
  refine lv_aload_n hx hb dX2_readLet_169 rfl (lv_at hl 3 rfl) ?_
  refine g_getk (C := RX2) (T := TX2) (N := 16) hx hb hts (mc_ inX2) hown hK g rfl 0 (by decide) rfl (hts _ (List.mem_cons_of_mem _ t_416)) (fun _ h9 => h9) 9 rfl dX2_readLet_170 ?_
  refine lv_bipush (v := 59) hx hb dX2_readLet_173 (by decide) ?_
  have go_ := g
  refine g_callv (va_runV (As := [.int 59]) (rest := []) ⟨hx, hb, hml, hown, hts⟩ (r_X8_take_2 l dC dI L kd tys fr_32 H.size g.2.2.2.1 q0_ mq0_ kq0_ 59 x_17 h_18 y1_ by1_ (g.fcts [7, 17] rfl)) (cwV 1 hts (gV_ t_1098 t_1099 t_1100 t_184 t_1101) rfl rfl rfl (by decide +kernel) ⟨(Nat.le_of_ble_eq_true rfl), (Nat.le_of_ble_eq_true rfl)⟩) (pre3V g hK mq0_ kq0_ (by decide) (q := (RX8, TX8, 10)) rfl) rfl rfl hl.1 rfl (lv_room (Nat.le_of_ble_eq_true rfl)) dX2_readLet_175 ⟨(Nat.le_of_ble_eq_true rfl), (Nat.le_of_ble_eq_true rfl)⟩) g hK (by decide) (by decide) (fx' := [(7, 6, q3_, .int x_33), (0, 13, q2_, .int 0), (0, 12, q2_, .int 1), (0, 11, q2_, .int 0), (0, 10, q2_, .int 0), (0, 8, q2_, .int 0), (0, 2, q2_, .ref q6_), (5, 6, q1_, .int x_7), (2, 0, a0_, .ref q0_), (2, 1, a0_, .ref q1_), (2, 2, a0_, .ref q2_), (2, 3, a0_, .ref q3_), (0, 0, q2_, .ref q0_), (0, 1, q2_, .ref q1_), (5, 0, q1_, .ref q6_), (5, 1, q1_, .ref q7_), (8, 8, q0_, .int y1_)]) rfl (fun fr_37 H locs hp hMr_37 g => ?_)
  obtain ⟨x_38, h_39, hF_40⟩ := hp
  have hG_41 := eOK.frame hMr_37 go_.2.2.2.1 mq2_ kq2_ (by decide) (by decide) hG_36
  have g := g.more hF_40
  subst hQ
  exact W.vret hx hb hr (fun t ht hW => ⟨⟨_, rfl, ⟨x_38, h_39, x_33, h_34, (g.fcts [0, 1, 2, 3, 4, 5, 6, 7] rfl)⟩, q3_of g hK ht hW⟩, g.2.2.1.F ht⟩) g.2.2.1.2.2 dX2_readLet_178
set_option maxHeartbeats 4000000 in
set_option maxRecDepth 100000 in
theorem r_X2_openBlock_2 (l : Launch) (dC : Nat → ClassId) (dI : Nat → Nat → Nat) (L : List Nat) (kd : Nat → Nat) (tys : List (ClassId × FieldType)) (f0 : Nat → va_E) (sz : Nat) (hWT : WT L kd tys f0) (a0_ : Nat) (ma0_ : a0_ ∈ L) (ka0_ : kd a0_ = 2) (x1_ : Int32) (x2_ : Int32) (x3_ : Int32) (q0_ : Nat) (mq0_ : q0_ ∈ L) (kq0_ : kd q0_ = 8) (y0_ : Int32) (by0_ : bd 1201 1201 y0_) (y1_ : Int32) (by1_ : bd 1 7 y1_) (hfx : Fs L kd f0 [(2, 0, a0_, .ref q0_), (8, 6, q0_, .int y0_), (8, 8, q0_, .int y1_)]) : Met l yX2_openBlock (.code yX2_openBlock cX2_openBlock 4 none :: lw_g) ({ frames := 1, cells := 0, slots := 0, locals := 23 }) (va_Pc [.ref a0_, .int x1_, .int x2_, .int x3_] (P3 (dC, dI) L tys f0 sz)) (va_Qv (fun (f : Nat → va_E) => (Fs L kd f [(8, 6, q0_, .int 1201)])) (Q3 (dC, dI) L kd tys [(8, 6)] [] f0 sz) (pA L sz)) 0 0 (pA L sz) := by
  refine Met.ofW (cc := cX2_openBlock) (maxL := 4) (ret := none) (by decide) rfl ?_
  intro p e s m args below meth c s₁ B hml hv
  obtain ⟨rfl, hsz, hP, hK, hD0⟩ := hv
  have hx := B.exec
  have hb := B.bytes
  have hr := B.returns
  have hts := atoms_spec (ws := (.code yX2_openBlock cX2_openBlock 4 none :: lw_g)) B.pre
  have hown : s.vm.findClass RX2 = some m.cls := findClass_of_methodNamed B.named
  have hlocks := B.notSynchronized
  subst hsz
  have g : G3 (dC, dI) L kd tys s f0 [(8, 6)] [] f0 s.heap [] [(2, 0, a0_, .ref q0_), (8, 6, q0_, .int y0_), (8, 8, q0_, .int y1_)] := G3.start hP hD0 hWT hfx
  have hl := lv_entry ([.ref a0_, .int x1_, .int x2_, .int x3_]) (n := 4) (Nat.le_of_ble_eq_true rfl)
  rw [lg_entry_eq]
  generalize (lg_sl ([.ref a0_, .int x1_, .int x2_, .int x3_]) ++ List.replicate (4 - (lg_sl ([.ref a0_, .int x1_, .int x2_, .int x3_])).length) Slot.unset).toArray = ls at hl ⊢
  have hl : lv_has ls 4 [(0, .ref a0_), (1, .int x1_), (2, .int x2_), (3, .int x3_)] := hl
  refine W_q (fun Q hQ => ?_)
  refine lv_aload_n hx hb dX2_openBlock_0 rfl (lv_at hl 0 rfl) ?_
  refine g_getk (C := RX2) (T := TX2) (N := 16) hx hb hts (mc_ inX2) hown hK g rfl 0 (by decide) rfl (hts _ (List.mem_cons_of_mem _ t_416)) (fun _ h9 => h9) 0 rfl dX2_openBlock_1 ?_
  refine g_calli (va_runV (As := []) (rest := []) ⟨hx, hb, hml, hown, hts⟩ (r_X8_kind_2 l dC dI L kd tys f0 s.heap.size g.2.2.2.1 q0_ mq0_ kq0_ y0_ by0_ (g.fcts [1] rfl)) (cwV 0 hts (gV_ t_1118 t_1119 t_1120 t_184 t_1121) rfl rfl rfl (by decide +kernel) ⟨(Nat.le_of_ble_eq_true rfl), (Nat.le_of_ble_eq_true rfl)⟩) (pre3V g hK mq0_ kq0_ (by decide) (q := (RX8, TX8, 10)) rfl) rfl rfl hl.1 rfl (lv_room (Nat.le_of_ble_eq_true rfl)) dX2_openBlock_4 ⟨(Nat.le_of_ble_eq_true rfl), (Nat.le_of_ble_eq_true rfl)⟩) g hK (by decide) (by decide) (fx' := [(2, 0, a0_, .ref q0_), (8, 6, q0_, .int y0_), (8, 8, q0_, .int y1_)]) rfl (fun r_1 fr_1 H locs hp hMr_1 g => ?_)
  obtain ⟨h_2, -⟩ := hp
  obtain rfl : r_1 = 0 := h_2
  refine lv_bipush (v := 123) hx hb dX2_openBlock_7 (by decide) ?_
  refine lv_icmp_eq (tgt := 30) hx hb dX2_openBlock_9 (by decide) (fun c_ => absurd c_ (by decide)) (fun c_ => ?_)
  refine lv_aload_n hx hb dX2_openBlock_12 rfl (lv_at hl 0 rfl) ?_
  refine g_getk (C := RX2) (T := TX2) (N := 16) hx hb hts (mc_ inX2) hown hK g rfl 0 (by decide) rfl (hts _ (List.mem_cons_of_mem _ t_416)) (fun _ h9 => h9) 0 rfl dX2_openBlock_13 ?_
  refine lv_iconst (v := 1) hx hb dX2_openBlock_16 (by decide) ?_
  refine lv_aload_n hx hb dX2_openBlock_17 rfl (lv_at hl 0 rfl) ?_
  refine g_getk (C := RX2) (T := TX2) (N := 16) hx hb hts (mc_ inX2) hown hK g rfl 0 (by decide) rfl (hts _ (List.mem_cons_of_mem _ t_416)) (fun _ h9 => h9) 0 rfl dX2_openBlock_18 ?_
  refine g_calli (va_runV (As := []) (rest := [.int 1, .ref q0_]) ⟨hx, hb, hml, hown, hts⟩ (r_X8_place l dC dI L kd tys fr_1 H.size g.2.2.2.1 q0_ mq0_ kq0_) (cwV 0 hts (gV_ t_1110 t_1111 t_1112 t_184 t_1113) rfl rfl rfl (by decide +kernel) ⟨(Nat.le_of_ble_eq_true rfl), (Nat.le_of_ble_eq_true rfl)⟩) (pre3V g hK mq0_ kq0_ (by decide) (q := (RX8, TX8, 10)) rfl) rfl rfl hl.1 rfl (lv_room (Nat.le_of_ble_eq_true rfl)) dX2_openBlock_21 ⟨(Nat.le_of_ble_eq_true rfl), (Nat.le_of_ble_eq_true rfl)⟩) g hK (by decide) (by decide) (fx' := [(2, 0, a0_, .ref q0_), (8, 6, q0_, .int y0_), (8, 8, q0_, .int y1_)]) rfl (fun r_3 fr_3 H locs hp hMr_3 g => ?_)
  have kb_1 : bd 1 1 (1 : Int32) := ⟨by decide, by decide⟩
  refine g_callv (va_runV (As := [.int 1, .int r_3]) (rest := []) ⟨hx, hb, hml, hown, hts⟩ (r_X8_fail_2 l dC dI L kd tys fr_3 H.size g.2.2.2.1 q0_ mq0_ kq0_ 1 (bd_sub kb_1 (by decide)) r_3 y1_ by1_ (g.fcts [2] rfl)) (cwV 2 hts (gV_ t_1122 t_1107 t_1108 t_184 t_1109) rfl rfl rfl (by decide +kernel) ⟨(Nat.le_of_ble_eq_true rfl), (Nat.le_of_ble_eq_true rfl)⟩) (pre3V g hK mq0_ kq0_ (by decide) (q := (RX8, TX8, 10)) rfl) rfl rfl hl.1 rfl (lv_room (Nat.le_of_ble_eq_true rfl)) dX2_openBlock_24 ⟨(Nat.le_of_ble_eq_true rfl), (Nat.le_of_ble_eq_true rfl)⟩) g hK (by decide) (by decide) (fx' := [(2, 0, a0_, .ref q0_), (8, 8, q0_, .int y1_)]) rfl (fun fr_4 H locs hp hMr_4 g => ?_)
  have hF_5 := hp
  have g := g.more hF_5
  refine lv_goto (tgt := 120) hx hb dX2_openBlock_27 (by decide) ?_
  subst hQ
  exact W.vret hx hb hr (fun t ht hW => ⟨⟨_, rfl, (g.fcts [0] rfl), q3_of g hK ht hW⟩, g.2.2.1.F ht⟩) g.2.2.1.2.2 dX2_openBlock_120
set_option maxHeartbeats 4000000 in
set_option maxRecDepth 100000 in
theorem r_X2_readTest (l : Launch) (dC : Nat → ClassId) (dI : Nat → Nat → Nat) (L : List Nat) (kd : Nat → Nat) (tys : List (ClassId × FieldType)) (f0 : Nat → va_E) (sz : Nat) (hWT : WT L kd tys f0) (a0_ : Nat) (ma0_ : a0_ ∈ L) (ka0_ : kd a0_ = 2) (x1_ : Int32) (q0_ : Nat) (mq0_ : q0_ ∈ L) (kq0_ : kd q0_ = 8) (q1_ : Nat) (mq1_ : q1_ ∈ L) (kq1_ : kd q1_ = 5) (q2_ : Nat) (mq2_ : q2_ ∈ L) (kq2_ : kd q2_ = 0) (q3_ : Nat) (mq3_ : q3_ ∈ L) (kq3_ : kd q3_ = 7) (q6_ : Nat) (mq6_ : q6_ ∈ L) (kq6_ : kd q6_ = 7) (q7_ : Nat) (mq7_ : q7_ ∈ L) (kq7_ : kd q7_ = 9) (y0_ : Int32) (by0_ : bd 1201 1201 y0_) (y1_ : Int32) (by1_ : bd 1 7 y1_) (hGeq2_ : eOK f0 q2_) (hfx : Fs L kd f0 [(2, 0, a0_, .ref q0_), (2, 1, a0_, .ref q1_), (2, 2, a0_, .ref q2_), (2, 3, a0_, .ref q3_), (0, 0, q2_, .ref q0_), (0, 1, q2_, .ref q1_), (5, 0, q1_, .ref q6_), (5, 1, q1_, .ref q7_), (8, 6, q0_, .int y0_), (8, 8, q0_, .int y1_)]) : Met l yX2_readTest (.code yX2_readTest cX2_readTest 4 none :: lw_g) ({ frames := 2, cells := 0, slots := 0, locals := 46 }) (va_Pc [.ref a0_, .int x1_] (P3 (dC, dI) L tys f0 sz)) (va_Qv (fun (f : Nat → va_E) => (∃ z1_ : Int32, bd 1 2000 z1_ ∧ Fs L kd f [(8, 6, q0_, .int 1201), (7, 6, q3_, .int z1_), (0, 13, q2_, .int 0), (0, 12, q2_, .int 1), (0, 11, q2_, .int 0), (0, 10, q2_, .int 0), (0, 8, q2_, .int 0), (0, 2, q2_, .ref q6_)])) (Q3 (dC, dI) L kd tys [(0, 2), (0, 8), (0, 10), (0, 11), (0, 12), (0, 13), (7, 6), (8, 6)] [138, 139] f0 sz) (pA L sz)) 0 0 (pA L sz) := by
  refine Met.ofW (cc := cX2_readTest) (maxL := 4) (ret := none) (by decide) rfl ?_
  intro p e s m args below meth c s₁ B hml hv
  obtain ⟨rfl, hsz, hP, hK, hD0⟩ := hv
  have hx := B.exec
  have hb := B.bytes
  have hr := B.returns
  have hts := atoms_spec (ws := (.code yX2_readTest cX2_readTest 4 none :: lw_g)) B.pre
  have hown : s.vm.findClass RX2 = some m.cls := findClass_of_methodNamed B.named
  have hlocks := B.notSynchronized
  subst hsz
  have g : G3 (dC, dI) L kd tys s f0 [(0, 2), (0, 8), (0, 10), (0, 11), (0, 12), (0, 13), (7, 6), (8, 6)] [138, 139] f0 s.heap [] [(2, 0, a0_, .ref q0_), (2, 1, a0_, .ref q1_), (2, 2, a0_, .ref q2_), (2, 3, a0_, .ref q3_), (0, 0, q2_, .ref q0_), (0, 1, q2_, .ref q1_), (5, 0, q1_, .ref q6_), (5, 1, q1_, .ref q7_), (8, 6, q0_, .int y0_), (8, 8, q0_, .int y1_)] := G3.start hP hD0 hWT hfx
  have hl := lv_entry ([.ref a0_, .int x1_]) (n := 4) (Nat.le_of_ble_eq_true rfl)
  rw [lg_entry_eq]
  generalize (lg_sl ([.ref a0_, .int x1_]) ++ List.replicate (4 - (lg_sl ([.ref a0_, .int x1_])).length) Slot.unset).toArray = ls at hl ⊢
  have hl : lv_has ls 4 [(0, .ref a0_), (1, .int x1_)] := hl
  refine W_q (fun Q hQ => ?_)
  refine lv_aload_n hx hb dX2_readTest_0 rfl (lv_at hl 0 rfl) ?_
  refine g_getk (C := RX2) (T := TX2) (N := 16) hx hb hts (mc_ inX2) hown hK g rfl 0 (by decide) rfl (hts _ (List.mem_cons_of_mem _ t_416)) (fun _ h9 => h9) 0 rfl dX2_readTest_1 ?_
  have go_ := g
  refine g_callv (va_runV (As := []) (rest := []) ⟨hx, hb, hml, hown, hts⟩ (r_X8_next_2 l dC dI L kd tys f0 s.heap.size g.2.2.2.1 q0_ mq0_ kq0_ y0_ by0_ (g.fcts [8] rfl)) (cwV 0 hts (gV_ t_1131 t_1103 t_1104 t_184 t_1105) rfl rfl rfl (by decide +kernel) ⟨(Nat.le_of_ble_eq_true rfl), (Nat.le_of_ble_eq_true rfl)⟩) (pre3V g hK mq0_ kq0_ (by decide) (q := (RX8, TX8, 10)) rfl) rfl rfl hl.1 rfl (lv_room (Nat.le_of_ble_eq_true rfl)) dX2_readTest_4 ⟨(Nat.le_of_ble_eq_true rfl), (Nat.le_of_ble_eq_true rfl)⟩) g hK (by decide) (by decide) (fx' := [(2, 0, a0_, .ref q0_), (2, 1, a0_, .ref q1_), (2, 2, a0_, .ref q2_), (2, 3, a0_, .ref q3_), (0, 0, q2_, .ref q0_), (0, 1, q2_, .ref q1_), (5, 0, q1_, .ref q6_), (5, 1, q1_, .ref q7_), (8, 6, q0_, .int y0_), (8, 8, q0_, .int y1_)]) rfl (fun fr_1 H locs hp hMr_1 g => ?_)
  have hG_2 := eOK.frame hMr_1 go_.2.2.2.1 mq2_ kq2_ (by decide) (by decide) hGeq2_
  refine lv_aload_n hx hb dX2_readTest_7 rfl (lv_at hl 0 rfl) ?_
  refine g_getk (C := RX2) (T := TX2) (N := 16) hx hb hts (mc_ inX2) hown hK g rfl 3 (by decide) rfl (hts _ (List.mem_cons_of_mem _ t_419)) (fun _ h9 => h9) 3 rfl dX2_readTest_8 ?_
  refine g_geti (C := RX7) (T := TX7) (N := 19) hx hb hts (mc_ inX7) hown hK g mq3_ kq3_ (by decide) rfl 6 (by decide) rfl (hts _ (List.mem_cons_of_mem _ t_647)) (fun _ h9 => h9) rfl dX2_readTest_11 (fun x_3 bx_3 g => ?_)
  refine lv_istore_n (lv' := [(2, .int x_3), (0, .ref a0_), (1, .int x1_)]) hx hb dX2_readTest_14 rfl hl (by decide) rfl (fun ls hl => ?_)
  refine lv_iload_n hx hb dX2_readTest_15 rfl (lv_at hl 2 rfl) ?_
  refine lv_bipush (v := 25) hx hb dX2_readTest_16 (by decide) ?_
  have kb_25 : bd 25 25 (25 : Int32) := ⟨by decide, by decide⟩
  refine lv_icmp_ne (tgt := 31) hx hb dX2_readTest_18 (by decide) (fun c_4 => ?_) (fun c_4 => ?_)
  · have fc_4 := neq_f c_4
    refine lv_aload_n hx hb dX2_readTest_31 rfl (lv_at hl 1 rfl) ?_
    refine g_getk (C := RX2) (T := TX2) (N := 16) hx hb hts (mc_ inX2) hown hK g rfl 2 (by decide) rfl (hts _ (List.mem_cons_of_mem _ t_418)) (fun _ h9 => h9) 3 rfl dX2_readTest_32 ?_
    have go_ := g
    refine g_callv (va_runV (As := []) (rest := []) ⟨hx, hb, hml, hown, hts⟩ (r_X0_read_2 l dC dI L kd tys fr_1 H.size g.2.2.2.1 q2_ mq2_ kq2_ q0_ mq0_ kq0_ q1_ mq1_ kq1_ q6_ mq6_ kq6_ q7_ mq7_ kq7_ y0_ by0_ y1_ by1_ hG_2 (g.fcts [5, 6, 7, 8, 9, 10] rfl)) (cwV 0 hts (gV_ t_1182 t_1183 t_1184 t_190 t_1185) rfl rfl rfl (by decide +kernel) ⟨(Nat.le_of_ble_eq_true rfl), (Nat.le_of_ble_eq_true rfl)⟩) (pre3V g hK mq2_ kq2_ (by decide) (q := (RX0, TX0, 14)) rfl) rfl rfl hl.1 rfl (lv_room (Nat.le_of_ble_eq_true rfl)) dX2_readTest_35 ⟨(Nat.le_of_ble_eq_true rfl), (Nat.le_of_ble_eq_true rfl)⟩) g hK (by decide) (by decide) (fx' := [(7, 6, q3_, .int x_3), (2, 0, a0_, .ref q0_), (2, 1, a0_, .ref q1_), (2, 2, a0_, .ref q2_), (2, 3, a0_, .ref q3_), (0, 0, q2_, .ref q0_), (0, 1, q2_, .ref q1_), (5, 0, q1_, .ref q6_), (5, 1, q1_, .ref q7_), (8, 6, q0_, .int y0_), (8, 8, q0_, .int y1_)]) rfl (fun fr_5 H locs hp hMr_5 g => ?_)
    have hF_6 := hp
    have hG_7 := eOK.frame hMr_5 go_.2.2.2.1 mq2_ kq2_ (by decide) (by decide) hG_2
    have g := g.more hF_6
    refine lv_aload_n hx hb dX2_readTest_38 rfl (lv_at hl 1 rfl) ?_
    refine g_getk (C := RX2) (T := TX2) (N := 16) hx hb hts (mc_ inX2) hown hK g rfl 3 (by decide) rfl (hts _ (List.mem_cons_of_mem _ t_419)) (fun _ h9 => h9) 10 rfl dX2_readTest_39 ?_
    refine g_getk (C := RX7) (T := TX7) (N := 19) hx hb hts (mc_ inX7) hown hK g rfl 6 (by decide) rfl (hts _ (List.mem_cons_of_mem _ t_647)) (fun _ h9 => h9) 6 rfl dX2_readTest_42 ?_
    refine lv_istore_n (lv' := [(3, .int x_3), (2, .int x_3), (0, .ref a0_), (1, .int x1_)]) hx hb dX2_readTest_45 rfl hl (by decide) rfl (fun ls hl => ?_)
    refine lv_aload_n hx hb dX2_readTest_46 rfl (lv_at hl 2 rfl) ?_
    refine g_getk (C := RX2) (T := TX2) (N := 16) hx hb hts (mc_ inX2) hown hK g rfl 3 (by decide) rfl (hts _ (List.mem_cons_of_mem _ t_419)) (fun _ h9 => h9) 10 rfl dX2_readTest_47 ?_
    refine lv_bipush (v := 23) hx hb dX2_readTest_50 (by decide) ?_
    refine lv_iconst (v := 0) hx hb dX2_readTest_52 (by decide) ?_
    have go_ := g
    refine g_callv (va_runV (As := [.int 23, .int 0]) (rest := []) ⟨hx, hb, hml, hown, hts⟩ (r_X7_emit l dC dI L kd tys fr_5 H.size g.2.2.2.1 q3_ mq3_ kq3_ 23 0) (cwV 2 hts (gV_ t_1301 t_1204 t_1205 t_191 t_1206) rfl rfl rfl (by decide +kernel) ⟨(Nat.le_of_ble_eq_true rfl), (Nat.le_of_ble_eq_true rfl)⟩) (pre3V g hK mq3_ kq3_ (by decide) (q := (RX7, TX7, 19)) rfl) rfl rfl hl.1 rfl (lv_room (Nat.le_of_ble_eq_true rfl)) dX2_readTest_53 ⟨(Nat.le_of_ble_eq_true rfl), (Nat.le_of_ble_eq_true rfl)⟩) g hK (by decide) (by decide) (fx' := [(0, 13, q2_, .int 0), (0, 12, q2_, .int 1), (0, 11, q2_, .int 0), (0, 10, q2_, .int 0), (0, 8, q2_, .int 0), (0, 2, q2_, .ref q6_), (2, 0, a0_, .ref q0_), (2, 1, a0_, .ref q1_), (2, 2, a0_, .ref q2_), (2, 3, a0_, .ref q3_), (0, 0, q2_, .ref q0_), (0, 1, q2_, .ref q1_), (5, 0, q1_, .ref q6_), (5, 1, q1_, .ref q7_), (8, 6, q0_, .int y0_), (8, 8, q0_, .int y1_)]) rfl (fun fr_8 H locs hp hMr_8 g => ?_)
    obtain ⟨x_9, h_10, hF_11⟩ := hp
    have hG_12 := eOK.frame hMr_8 go_.2.2.2.1 mq2_ kq2_ (by decide) (by decide) hG_7
    have g := g.more hF_11
    refine lv_aload_n hx hb dX2_readTest_56 rfl (lv_at hl 2 rfl) ?_
    refine lv_iload_n hx hb dX2_readTest_57 rfl (lv_at hl 3 rfl) ?_
    refine lv_bipush (v := 25) hx hb dX2_readTest_58 (by decide) ?_
    refine lv_icmp_ne (tgt := 67) hx hb dX2_readTest_60 (by decide) (fun c_13 => ?_) (fun c_13 => ?_)
    · have fc_13 := neq_f c_13
      refine lv_iconst (v := 1) hx hb dX2_readTest_67 (by decide) ?_
      refine lv_iload_n hx hb dX2_readTest_68 rfl (lv_at hl 0 rfl) ?_
      refine lv_iload_n hx hb dX2_readTest_69 rfl (lv_at hl 1 rfl) ?_
      have go_ := g
      refine g_callv (va_runV (As := [.int 1, .int x_3, .int x_3]) (rest := []) ⟨hx, hb, hml, hown, hts⟩ (r_X2_openBlock_2 l dC dI L kd tys fr_8 H.size g.2.2.2.1 a0_ ma0_ ka0_ 1 x_3 x_3 q0_ mq0_ kq0_ y0_ by0_ y1_ by1_ (g.fcts [7, 15, 16] rfl)) (cwV 3 hts (gV_ t_1338 t_1340 t_40 t_183 t_1341) rfl rfl rfl (by decide +kernel) ⟨(Nat.le_of_ble_eq_true rfl), (Nat.le_of_ble_eq_true rfl)⟩) (pre3V g hK ma0_ ka0_ (by decide) (q := (RX2, TX2, 16)) rfl) rfl rfl hl.1 rfl (lv_room (Nat.le_of_ble_eq_true rfl)) dX2_readTest_70 ⟨(Nat.le_of_ble_eq_true rfl), (Nat.le_of_ble_eq_true rfl)⟩) g hK (by decide) (by decide) (fx' := [(7, 6, q3_, .int x_9), (0, 13, q2_, .int 0), (0, 12, q2_, .int 1), (0, 11, q2_, .int 0), (0, 10, q2_, .int 0), (0, 8, q2_, .int 0), (0, 2, q2_, .ref q6_), (2, 0, a0_, .ref q0_), (2, 1, a0_, .ref q1_), (2, 2, a0_, .ref q2_), (2, 3, a0_, .ref q3_), (0, 0, q2_, .ref q0_), (0, 1, q2_, .ref q1_), (5, 0, q1_, .ref q6_), (5, 1, q1_, .ref q7_), (8, 8, q0_, .int y1_)]) rfl (fun fr_14 H locs hp hMr_14 g => ?_)
      have hF_15 := hp
      have hG_16 := eOK.frame hMr_14 go_.2.2.2.1 mq2_ kq2_ (by decide) (by decide) hG_12
      have g := g.more hF_15
      subst hQ
      exact W.vret hx hb hr (fun t ht hW => ⟨⟨_, rfl, ⟨x_9, h_10, (g.fcts [0, 1, 2, 3, 4, 5, 6, 7] rfl)⟩, q3_of g hK ht hW⟩, g.2.2.1.F ht⟩) g.2.2.1.2.2 dX2_readTest_73
    · have fc_13 := eq_f c_13
      exact absurd fc_13 fc_4
  · have fc_4 := eq_f c_4
    have b_17 : bd 25 25 x1_ := eqX fc_4 (bdT x1_) kb_25 (by decide)
    refine lv_aload_n hx hb dX2_readTest_21 rfl (lv_at hl 1 rfl) ?_
    refine g_getk (C := RX2) (T := TX2) (N := 16) hx hb hts (mc_ inX2) hown hK g rfl 3 (by decide) rfl (hts _ (List.mem_cons_of_mem _ t_419)) (fun _ h9 => h9) 4 rfl dX2_readTest_22 ?_
    refine lv_bipush (v := 13) hx hb dX2_readTest_25 (by decide) ?_
    refine lv_iconst (v := 0) hx hb dX2_readTest_27 (by decide) ?_
    have go_ := g
    refine g_callv (va_runV (As := [.int 13, .int 0]) (rest := []) ⟨hx, hb, hml, hown, hts⟩ (r_X7_emit l dC dI L kd tys fr_1 H.size g.2.2.2.1 q3_ mq3_ kq3_ 13 0) (cwV 2 hts (gV_ t_1301 t_1204 t_1205 t_191 t_1206) rfl rfl rfl (by decide +kernel) ⟨(Nat.le_of_ble_eq_true rfl), (Nat.le_of_ble_eq_true rfl)⟩) (pre3V g hK mq3_ kq3_ (by decide) (q := (RX7, TX7, 19)) rfl) rfl rfl hl.1 rfl (lv_room (Nat.le_of_ble_eq_true rfl)) dX2_readTest_28 ⟨(Nat.le_of_ble_eq_true rfl), (Nat.le_of_ble_eq_true rfl)⟩) g hK (by decide) (by decide) (fx' := [(2, 0, a0_, .ref q0_), (2, 1, a0_, .ref q1_), (2, 2, a0_, .ref q2_), (2, 3, a0_, .ref q3_), (0, 0, q2_, .ref q0_), (0, 1, q2_, .ref q1_), (5, 0, q1_, .ref q6_), (5, 1, q1_, .ref q7_), (8, 6, q0_, .int y0_), (8, 8, q0_, .int y1_)]) rfl (fun fr_18 H locs hp hMr_18 g => ?_)
    obtain ⟨x_19, h_20, hF_21⟩ := hp
    have hG_22 := eOK.frame hMr_18 go_.2.2.2.1 mq2_ kq2_ (by decide) (by decide) hG_2
    have g := g.more hF_21
    refine lv_aload_n hx hb dX2_readTest_31 rfl (lv_at hl 1 rfl) ?_
    refine g_getk (C := RX2) (T := TX2) (N := 16) hx hb hts (mc_ inX2) hown hK g rfl 2 (by decide) rfl (hts _ (List.mem_cons_of_mem _ t_418)) (fun _ h9 => h9) 3 rfl dX2_readTest_32 ?_
    have go_ := g
    refine g_callv (va_runV (As := []) (rest := []) ⟨hx, hb, hml, hown, hts⟩ (r_X0_read_2 l dC dI L kd tys fr_18 H.size g.2.2.2.1 q2_ mq2_ kq2_ q0_ mq0_ kq0_ q1_ mq1_ kq1_ q6_ mq6_ kq6_ q7_ mq7_ kq7_ y0_ by0_ y1_ by1_ hG_22 (g.fcts [5, 6, 7, 8, 9, 10] rfl)) (cwV 0 hts (gV_ t_1182 t_1183 t_1184 t_190 t_1185) rfl rfl rfl (by decide +kernel) ⟨(Nat.le_of_ble_eq_true rfl), (Nat.le_of_ble_eq_true rfl)⟩) (pre3V g hK mq2_ kq2_ (by decide) (q := (RX0, TX0, 14)) rfl) rfl rfl hl.1 rfl (lv_room (Nat.le_of_ble_eq_true rfl)) dX2_readTest_35 ⟨(Nat.le_of_ble_eq_true rfl), (Nat.le_of_ble_eq_true rfl)⟩) g hK (by decide) (by decide) (fx' := [(7, 6, q3_, .int x_19), (2, 0, a0_, .ref q0_), (2, 1, a0_, .ref q1_), (2, 2, a0_, .ref q2_), (2, 3, a0_, .ref q3_), (0, 0, q2_, .ref q0_), (0, 1, q2_, .ref q1_), (5, 0, q1_, .ref q6_), (5, 1, q1_, .ref q7_), (8, 6, q0_, .int y0_), (8, 8, q0_, .int y1_)]) rfl (fun fr_23 H locs hp hMr_23 g => ?_)
    have hF_24 := hp
    have hG_25 := eOK.frame hMr_23 go_.2.2.2.1 mq2_ kq2_ (by decide) (by decide) hG_22
    have g := g.more hF_24
    refine lv_aload_n hx hb dX2_readTest_38 rfl (lv_at hl 1 rfl) ?_
    refine g_getk (C := RX2) (T := TX2) (N := 16) hx hb hts (mc_ inX2) hown hK g rfl 3 (by decide) rfl (hts _ (List.mem_cons_of_mem _ t_419)) (fun _ h9 => h9) 10 rfl dX2_readTest_39 ?_
    refine g_getk (C := RX7) (T := TX7) (N := 19) hx hb hts (mc_ inX7) hown hK g rfl 6 (by decide) rfl (hts _ (List.mem_cons_of_mem _ t_647)) (fun _ h9 => h9) 6 rfl dX2_readTest_42 ?_
    refine lv_istore_n (lv' := [(3, .int x_19), (2, .int x_3), (0, .ref a0_), (1, .int x1_)]) hx hb dX2_readTest_45 rfl hl (by decide) rfl (fun ls hl => ?_)
    refine lv_aload_n hx hb dX2_readTest_46 rfl (lv_at hl 2 rfl) ?_
    refine g_getk (C := RX2) (T := TX2) (N := 16) hx hb hts (mc_ inX2) hown hK g rfl 3 (by decide) rfl (hts _ (List.mem_cons_of_mem _ t_419)) (fun _ h9 => h9) 10 rfl dX2_readTest_47 ?_
    refine lv_bipush (v := 23) hx hb dX2_readTest_50 (by decide) ?_
    refine lv_iconst (v := 0) hx hb dX2_readTest_52 (by decide) ?_
    have go_ := g
    refine g_callv (va_runV (As := [.int 23, .int 0]) (rest := []) ⟨hx, hb, hml, hown, hts⟩ (r_X7_emit l dC dI L kd tys fr_23 H.size g.2.2.2.1 q3_ mq3_ kq3_ 23 0) (cwV 2 hts (gV_ t_1301 t_1204 t_1205 t_191 t_1206) rfl rfl rfl (by decide +kernel) ⟨(Nat.le_of_ble_eq_true rfl), (Nat.le_of_ble_eq_true rfl)⟩) (pre3V g hK mq3_ kq3_ (by decide) (q := (RX7, TX7, 19)) rfl) rfl rfl hl.1 rfl (lv_room (Nat.le_of_ble_eq_true rfl)) dX2_readTest_53 ⟨(Nat.le_of_ble_eq_true rfl), (Nat.le_of_ble_eq_true rfl)⟩) g hK (by decide) (by decide) (fx' := [(0, 13, q2_, .int 0), (0, 12, q2_, .int 1), (0, 11, q2_, .int 0), (0, 10, q2_, .int 0), (0, 8, q2_, .int 0), (0, 2, q2_, .ref q6_), (2, 0, a0_, .ref q0_), (2, 1, a0_, .ref q1_), (2, 2, a0_, .ref q2_), (2, 3, a0_, .ref q3_), (0, 0, q2_, .ref q0_), (0, 1, q2_, .ref q1_), (5, 0, q1_, .ref q6_), (5, 1, q1_, .ref q7_), (8, 6, q0_, .int y0_), (8, 8, q0_, .int y1_)]) rfl (fun fr_26 H locs hp hMr_26 g => ?_)
    obtain ⟨x_27, h_28, hF_29⟩ := hp
    have hG_30 := eOK.frame hMr_26 go_.2.2.2.1 mq2_ kq2_ (by decide) (by decide) hG_25
    have g := g.more hF_29
    refine lv_aload_n hx hb dX2_readTest_56 rfl (lv_at hl 2 rfl) ?_
    refine lv_iload_n hx hb dX2_readTest_57 rfl (lv_at hl 3 rfl) ?_
    refine lv_bipush (v := 25) hx hb dX2_readTest_58 (by decide) ?_
    refine lv_icmp_ne (tgt := 67) hx hb dX2_readTest_60 (by decide) (fun c_31 => ?_) (fun c_31 => ?_)
    · have fc_31 := neq_f c_31
      have b_32 : bd 26 24 x1_ := neX fc_31 b_17 kb_25 (by decide)
      exact bd_no b_32 (by decide)
    · have fc_31 := eq_f c_31
      refine lv_iconst (v := 3) hx hb dX2_readTest_63 (by decide) ?_
      refine lv_goto (tgt := 68) hx hb dX2_readTest_64 (by decide) ?_
      refine lv_iload_n hx hb dX2_readTest_68 rfl (lv_at hl 0 rfl) ?_
      refine lv_iload_n hx hb dX2_readTest_69 rfl (lv_at hl 1 rfl) ?_
      have go_ := g
      refine g_callv (va_runV (As := [.int 3, .int x_19, .int x_3]) (rest := []) ⟨hx, hb, hml, hown, hts⟩ (r_X2_openBlock_2 l dC dI L kd tys fr_26 H.size g.2.2.2.1 a0_ ma0_ ka0_ 3 x_19 x_3 q0_ mq0_ kq0_ y0_ by0_ y1_ by1_ (g.fcts [7, 15, 16] rfl)) (cwV 3 hts (gV_ t_1338 t_1340 t_40 t_183 t_1341) rfl rfl rfl (by decide +kernel) ⟨(Nat.le_of_ble_eq_true rfl), (Nat.le_of_ble_eq_true rfl)⟩) (pre3V g hK ma0_ ka0_ (by decide) (q := (RX2, TX2, 16)) rfl) rfl rfl hl.1 rfl (lv_room (Nat.le_of_ble_eq_true rfl)) dX2_readTest_70 ⟨(Nat.le_of_ble_eq_true rfl), (Nat.le_of_ble_eq_true rfl)⟩) g hK (by decide) (by decide) (fx' := [(7, 6, q3_, .int x_27), (0, 13, q2_, .int 0), (0, 12, q2_, .int 1), (0, 11, q2_, .int 0), (0, 10, q2_, .int 0), (0, 8, q2_, .int 0), (0, 2, q2_, .ref q6_), (2, 0, a0_, .ref q0_), (2, 1, a0_, .ref q1_), (2, 2, a0_, .ref q2_), (2, 3, a0_, .ref q3_), (0, 0, q2_, .ref q0_), (0, 1, q2_, .ref q1_), (5, 0, q1_, .ref q6_), (5, 1, q1_, .ref q7_), (8, 8, q0_, .int y1_)]) rfl (fun fr_33 H locs hp hMr_33 g => ?_)
      have hF_34 := hp
      have hG_35 := eOK.frame hMr_33 go_.2.2.2.1 mq2_ kq2_ (by decide) (by decide) hG_30
      have g := g.more hF_34
      subst hQ
      exact W.vret hx hb hr (fun t ht hW => ⟨⟨_, rfl, ⟨x_27, h_28, (g.fcts [0, 1, 2, 3, 4, 5, 6, 7] rfl)⟩, q3_of g hK ht hW⟩, g.2.2.1.F ht⟩) g.2.2.1.2.2 dX2_readTest_73
set_option maxHeartbeats 4000000 in
set_option maxRecDepth 100000 in
theorem r_X8_atBracket_2 (l : Launch) (dC : Nat → ClassId) (dI : Nat → Nat → Nat) (L : List Nat) (kd : Nat → Nat) (tys : List (ClassId × FieldType)) (f0 : Nat → va_E) (sz : Nat) (hWT : WT L kd tys f0) (a0_ : Nat) (ma0_ : a0_ ∈ L) (ka0_ : kd a0_ = 8) (y0_ : Int32) (by0_ : bd 1201 1201 y0_) (hfx : Fs L kd f0 [(8, 6, a0_, .int y0_)]) : Met l yX8_atBracket (.code yX8_atBracket cX8_atBracket 1 (some .boolean) :: lw_g) ({ frames := 0, cells := 0, slots := 0, locals := 0 }) (va_Pc [.ref a0_] (P3 (dC, dI) L tys f0 sz)) (va_Qi (fun (r : Int32) (f : Nat → va_E) => (bd 0 1 r ∧ True)) (Q3 (dC, dI) L kd tys [] [] f0 sz) (pA L sz)) 0 0 (pA L sz) := by
  refine Met.ofW (cc := cX8_atBracket) (maxL := 1) (ret := (some .boolean)) (by decide) rfl ?_
  intro p e s m args below meth c s₁ B hml hv
  obtain ⟨rfl, hsz, hP, hK, hD0⟩ := hv
  have hx := B.exec
  have hb := B.bytes
  have hr := B.returns
  have hts := atoms_spec (ws := (.code yX8_atBracket cX8_atBracket 1 (some .boolean) :: lw_g)) B.pre
  have hown : s.vm.findClass RX8 = some m.cls := findClass_of_methodNamed B.named
  have hlocks := B.notSynchronized
  subst hsz
  have g : G3 (dC, dI) L kd tys s f0 [] [] f0 s.heap [] [(8, 6, a0_, .int y0_)] := G3.start hP hD0 hWT hfx
  have hl := lv_entry ([.ref a0_]) (n := 1) (Nat.le_of_ble_eq_true rfl)
  rw [lg_entry_eq]
  generalize (lg_sl ([.ref a0_]) ++ List.replicate (1 - (lg_sl ([.ref a0_])).length) Slot.unset).toArray = ls at hl ⊢
  have hl : lv_has ls 1 [(0, .ref a0_)] := hl
  refine W_q (fun Q hQ => ?_)
  refine lv_aload_n hx hb dX8_atBracket_0 rfl (lv_at hl 0 rfl) ?_
  refine g_getk (C := RX8) (T := TX8) (N := 10) hx hb hts (mc_ inX8) hown hK g rfl 6 (by decide) rfl (hts _ (List.mem_cons_of_mem _ t_291)) (fun _ h9 => h9) 0 rfl dX8_atBracket_1 ?_
  refine lv_sipush (v := 1200) hx hb dX8_atBracket_4 (by decide) ?_
  have kb_1200 : bd 1200 1200 (1200 : Int32) := ⟨by decide, by decide⟩
  refine lv_icmp_le (tgt := 17) hx hb dX8_atBracket_7 (by decide) (fun c_1 => ?_) (fun c_1 => ?_)
  · have fc_1 := le_f c_1
    have b_2 : bd 1201 1200 y0_ := leL fc_1 by0_ kb_1200 (by decide)
    exact bd_no b_2 (by decide)
  · have fc_1 := nle_f c_1
    refine lv_aload_n hx hb dX8_atBracket_10 rfl (lv_at hl 0 rfl) ?_
    refine g_geti (C := RX8) (T := TX8) (N := 10) hx hb hts (mc_ inX8) hown hK g ma0_ ka0_ (by decide) rfl 7 (by decide) rfl (hts _ (List.mem_cons_of_mem _ t_292)) (fun _ h9 => h9) rfl dX8_atBracket_11 (fun x_3 bx_3 g => ?_)
    refine lv_goto (tgt := 36) hx hb dX8_atBracket_14 (by decide) ?_
    subst hQ
    exact W.zret (v := x_3) hx hb hr (nar_z bx_3.1 bx_3.2) (fun t ht hW => ⟨⟨_, _, rfl, ⟨bx_3, trivial⟩, q3_of g hK ht hW⟩, g.2.2.1.F ht⟩) g.2.2.1.2.2 dX8_atBracket_36
set_option maxHeartbeats 4000000 in
set_option maxRecDepth 100000 in
theorem r_X2_findNamed (l : Launch) (dC : Nat → ClassId) (dI : Nat → Nat → Nat) (L : List Nat) (kd : Nat → Nat) (tys : List (ClassId × FieldType)) (f0 : Nat → va_E) (sz : Nat) (hWT : WT L kd tys f0) (a0_ : Nat) (ma0_ : a0_ ∈ L) (ka0_ : kd a0_ = 2) (q0_ : Nat) (mq0_ : q0_ ∈ L) (kq0_ : kd q0_ = 8) (q1_ : Nat) (mq1_ : q1_ ∈ L) (kq1_ : kd q1_ = 5) (q2_ : Nat) (mq2_ : q2_ ∈ L) (kq2_ : kd q2_ = 7) (q3_ : Nat) (mq3_ : q3_ ∈ L) (kq3_ : kd q3_ = 9) (q4_ : Nat) (mq4_ : q4_ ∈ L) (kq4_ : kd q4_ = 9) (y0_ : Int32) (by0_ : bd 1201 1201 y0_) (y1_ : Int32) (by1_ : bd 1 7 y1_) (hfx : Fs L kd f0 [(2, 0, a0_, .ref q0_), (2, 1, a0_, .ref q1_), (2, 3, a0_, .ref q2_), (2, 4, a0_, .ref q3_), (5, 1, q1_, .ref q4_), (8, 6, q0_, .int y0_), (8, 8, q0_, .int y1_)]) : Met l yX2_findNamed (.code yX2_findNamed cX2_findNamed 6 (some .boolean) :: lw_g) ({ frames := 2, cells := 0, slots := 0, locals := 46 }) (va_Pc [.ref a0_] (P3 (dC, dI) L tys f0 sz)) (va_Qi (fun (r : Int32) (f : Nat → va_E) => (bd 0 1 r ∧ ∃ z0_ : Int32, bd 1201 1201 z0_ ∧ Fs L kd f [(8, 6, q0_, .int z0_)])) (Q3 (dC, dI) L kd tys [(2, 12), (2, 13), (2, 14), (2, 15), (8, 6)] [] f0 sz) (pA L sz)) 0 0 (pA L sz) := by
  refine Met.ofW (cc := cX2_findNamed) (maxL := 6) (ret := (some .boolean)) (by decide) rfl ?_
  intro p e s m args below meth c s₁ B hml hv
  obtain ⟨rfl, hsz, hP, hK, hD0⟩ := hv
  have hx := B.exec
  have hb := B.bytes
  have hr := B.returns
  have hts := atoms_spec (ws := (.code yX2_findNamed cX2_findNamed 6 (some .boolean) :: lw_g)) B.pre
  have hown : s.vm.findClass RX2 = some m.cls := findClass_of_methodNamed B.named
  have hlocks := B.notSynchronized
  subst hsz
  have g : G3 (dC, dI) L kd tys s f0 [(2, 12), (2, 13), (2, 14), (2, 15), (8, 6)] [] f0 s.heap [] [(2, 0, a0_, .ref q0_), (2, 1, a0_, .ref q1_), (2, 3, a0_, .ref q2_), (2, 4, a0_, .ref q3_), (5, 1, q1_, .ref q4_), (8, 6, q0_, .int y0_), (8, 8, q0_, .int y1_)] := G3.start hP hD0 hWT hfx
  have hl := lv_entry ([.ref a0_]) (n := 6) (Nat.le_of_ble_eq_true rfl)
  rw [lg_entry_eq]
  generalize (lg_sl ([.ref a0_]) ++ List.replicate (6 - (lg_sl ([.ref a0_])).length) Slot.unset).toArray = ls at hl ⊢
  have hl : lv_has ls 6 [(0, .ref a0_)] := hl
  refine W_q (fun Q hQ => ?_)
  refine lv_aload_n hx hb dX2_findNamed_0 rfl (lv_at hl 0 rfl) ?_
  refine g_getk (C := RX2) (T := TX2) (N := 16) hx hb hts (mc_ inX2) hown hK g rfl 0 (by decide) rfl (hts _ (List.mem_cons_of_mem _ t_416)) (fun _ h9 => h9) 0 rfl dX2_findNamed_1 ?_
  refine g_calli (va_runV (As := []) (rest := []) ⟨hx, hb, hml, hown, hts⟩ (r_X8_place l dC dI L kd tys f0 s.heap.size g.2.2.2.1 q0_ mq0_ kq0_) (cwV 0 hts (gV_ t_1110 t_1111 t_1112 t_184 t_1113) rfl rfl rfl (by decide +kernel) ⟨(Nat.le_of_ble_eq_true rfl), (Nat.le_of_ble_eq_true rfl)⟩) (pre3V g hK mq0_ kq0_ (by decide) (q := (RX8, TX8, 10)) rfl) rfl rfl hl.1 rfl (lv_room (Nat.le_of_ble_eq_true rfl)) dX2_findNamed_4 ⟨(Nat.le_of_ble_eq_true rfl), (Nat.le_of_ble_eq_true rfl)⟩) g hK (by decide) (by decide) (fx' := [(2, 0, a0_, .ref q0_), (2, 1, a0_, .ref q1_), (2, 3, a0_, .ref q2_), (2, 4, a0_, .ref q3_), (5, 1, q1_, .ref q4_), (8, 6, q0_, .int y0_), (8, 8, q0_, .int y1_)]) rfl (fun r_1 fr_1 H locs hp hMr_1 g => ?_)
  refine lv_istore_n (lv' := [(1, .int r_1), (0, .ref a0_)]) hx hb dX2_findNamed_7 rfl hl (by decide) rfl (fun ls hl => ?_)
  refine lv_aload_n hx hb dX2_findNamed_8 rfl (lv_at hl 1 rfl) ?_
  refine g_getk (C := RX2) (T := TX2) (N := 16) hx hb hts (mc_ inX2) hown hK g rfl 0 (by decide) rfl (hts _ (List.mem_cons_of_mem _ t_416)) (fun _ h9 => h9) 0 rfl dX2_findNamed_9 ?_
  refine g_calll (va_runV (As := []) (rest := []) ⟨hx, hb, hml, hown, hts⟩ (r_X8_value l dC dI L kd tys fr_1 H.size g.2.2.2.1 q0_ mq0_ kq0_) (cwV 0 hts (gV_ t_1114 t_1115 t_1116 t_184 t_1117) rfl rfl rfl (by decide +kernel) ⟨(Nat.le_of_ble_eq_true rfl), (Nat.le_of_ble_eq_true rfl)⟩) (pre3V g hK mq0_ kq0_ (by decide) (q := (RX8, TX8, 10)) rfl) rfl rfl hl.1 rfl (lv_room (Nat.le_of_ble_eq_true rfl)) dX2_findNamed_12 ⟨(Nat.le_of_ble_eq_true rfl), (Nat.le_of_ble_eq_true rfl)⟩) g hK (by decide) (by decide) (fx' := [(2, 0, a0_, .ref q0_), (2, 1, a0_, .ref q1_), (2, 3, a0_, .ref q2_), (2, 4, a0_, .ref q3_), (5, 1, q1_, .ref q4_), (8, 6, q0_, .int y0_), (8, 8, q0_, .int y1_)]) rfl (fun r_2 fr_2 H locs hp hMr_2 g => ?_)
  refine lv_lstore_n (lv' := [(2, .long r_2), (1, .int r_1), (0, .ref a0_)]) hx hb dX2_findNamed_15 rfl hl (by decide) rfl (fun ls hl => ?_)
  refine lv_aload_n hx hb dX2_findNamed_16 rfl (lv_at hl 2 rfl) ?_
  refine g_getk (C := RX2) (T := TX2) (N := 16) hx hb hts (mc_ inX2) hown hK g rfl 0 (by decide) rfl (hts _ (List.mem_cons_of_mem _ t_416)) (fun _ h9 => h9) 0 rfl dX2_findNamed_17 ?_
  refine g_callv (va_runV (As := []) (rest := []) ⟨hx, hb, hml, hown, hts⟩ (r_X8_next_2 l dC dI L kd tys fr_2 H.size g.2.2.2.1 q0_ mq0_ kq0_ y0_ by0_ (g.fcts [5] rfl)) (cwV 0 hts (gV_ t_1131 t_1103 t_1104 t_184 t_1105) rfl rfl rfl (by decide +kernel) ⟨(Nat.le_of_ble_eq_true rfl), (Nat.le_of_ble_eq_true rfl)⟩) (pre3V g hK mq0_ kq0_ (by decide) (q := (RX8, TX8, 10)) rfl) rfl rfl hl.1 rfl (lv_room (Nat.le_of_ble_eq_true rfl)) dX2_findNamed_20 ⟨(Nat.le_of_ble_eq_true rfl), (Nat.le_of_ble_eq_true rfl)⟩) g hK (by decide) (by decide) (fx' := [(2, 0, a0_, .ref q0_), (2, 1, a0_, .ref q1_), (2, 3, a0_, .ref q2_), (2, 4, a0_, .ref q3_), (5, 1, q1_, .ref q4_), (8, 6, q0_, .int y0_), (8, 8, q0_, .int y1_)]) rfl (fun fr_3 H locs hp hMr_3 g => ?_)
  refine lv_aload_n hx hb dX2_findNamed_23 rfl (lv_at hl 2 rfl) ?_
  refine g_getk (C := RX2) (T := TX2) (N := 16) hx hb hts (mc_ inX2) hown hK g rfl 0 (by decide) rfl (hts _ (List.mem_cons_of_mem _ t_416)) (fun _ h9 => h9) 0 rfl dX2_findNamed_24 ?_
  refine g_calli (va_runV (As := []) (rest := []) ⟨hx, hb, hml, hown, hts⟩ (r_X8_atBracket_2 l dC dI L kd tys fr_3 H.size g.2.2.2.1 q0_ mq0_ kq0_ y0_ by0_ (g.fcts [5] rfl)) (cwV 0 hts (gV_ t_1358 t_1240 t_1241 t_184 t_1242) rfl rfl rfl (by decide +kernel) ⟨(Nat.le_of_ble_eq_true rfl), (Nat.le_of_ble_eq_true rfl)⟩) (pre3V g hK mq0_ kq0_ (by decide) (q := (RX8, TX8, 10)) rfl) rfl rfl hl.1 rfl (lv_room (Nat.le_of_ble_eq_true rfl)) dX2_findNamed_27 ⟨(Nat.le_of_ble_eq_true rfl), (Nat.le_of_ble_eq_true rfl)⟩) g hK (by decide) (by decide) (fx' := [(2, 0, a0_, .ref q0_), (2, 1, a0_, .ref q1_), (2, 3, a0_, .ref q2_), (2, 4, a0_, .ref q3_), (5, 1, q1_, .ref q4_), (8, 6, q0_, .int y0_), (8, 8, q0_, .int y1_)]) rfl (fun r_4 fr_4 H locs hp hMr_4 g => ?_)
  obtain ⟨h_5, -⟩ := hp
  refine lv_istore (lv' := [(4, .int r_4), (2, .long r_2), (1, .int r_1), (0, .ref a0_)]) hx hb dX2_findNamed_30 hl (by decide) rfl (fun ls hl => ?_)
  refine lv_iload hx hb dX2_findNamed_32 (lv_at hl 0 rfl) ?_
  have kb_0 : bd 0 0 (0 : Int32) := ⟨by decide, by decide⟩
  refine lv_if_eq (tgt := 52) hx hb dX2_findNamed_34 (by decide) (fun c_6 => ?_) (fun c_6 => ?_)
  · have fc_6 := eq_f c_6
    have b_7 : bd 0 0 r_4 := eqX fc_6 h_5 kb_0 (by decide)
    refine lv_aload_n hx hb dX2_findNamed_52 rfl (lv_at hl 3 rfl) ?_
    refine g_getk (C := RX2) (T := TX2) (N := 16) hx hb hts (mc_ inX2) hown hK g rfl 1 (by decide) rfl (hts _ (List.mem_cons_of_mem _ t_417)) (fun _ h9 => h9) 1 rfl dX2_findNamed_53 ?_
    refine lv_lload_n hx hb dX2_findNamed_56 rfl (lv_at hl 1 rfl) ?_
    refine g_calli (va_runV (As := [.long r_2]) (rest := []) ⟨hx, hb, hml, hown, hts⟩ (r_X5_placeNamed l dC dI L kd tys fr_4 H.size g.2.2.2.1 q1_ mq1_ kq1_ r_2 q4_ mq4_ kq4_ (g.fcts [4] rfl)) (cwV 1 hts (gV_ t_1317 t_1252 t_1253 t_189 t_1254) rfl rfl rfl (by decide +kernel) ⟨(Nat.le_of_ble_eq_true rfl), (Nat.le_of_ble_eq_true rfl)⟩) (pre3V g hK mq1_ kq1_ (by decide) (q := (RX5, TX5, 9)) rfl) rfl rfl hl.1 rfl (lv_room (Nat.le_of_ble_eq_true rfl)) dX2_findNamed_57 ⟨(Nat.le_of_ble_eq_true rfl), (Nat.le_of_ble_eq_true rfl)⟩) g hK (by decide) (by decide) (fx' := [(2, 0, a0_, .ref q0_), (2, 1, a0_, .ref q1_), (2, 3, a0_, .ref q2_), (2, 4, a0_, .ref q3_), (5, 1, q1_, .ref q4_), (8, 6, q0_, .int y0_), (8, 8, q0_, .int y1_)]) rfl (fun r_8 fr_8 H locs hp hMr_8 g => ?_)
    obtain ⟨h_9, -⟩ := hp
    refine lv_istore (lv' := [(5, .int r_8), (4, .int r_4), (2, .long r_2), (1, .int r_1), (0, .ref a0_)]) hx hb dX2_findNamed_60 hl (by decide) rfl (fun ls hl => ?_)
    refine lv_iload hx hb dX2_findNamed_62 (lv_at hl 0 rfl) ?_
    refine lv_iconst (v := (-1)) hx hb dX2_findNamed_64 (by decide) ?_
    have kb_m1 : bd (-1) (-1) ((-1) : Int32) := ⟨by decide, by decide⟩
    refine lv_icmp_ne (tgt := 80) hx hb dX2_findNamed_65 (by decide) (fun c_10 => ?_) (fun c_10 => ?_)
    · have fc_10 := neq_f c_10
      have b_11 : bd 0 26 r_8 := neX fc_10 h_9 kb_m1 (by decide)
      refine lv_iload hx hb dX2_findNamed_80 (lv_at hl 1 rfl) ?_
      refine lv_if_eq (tgt := 125) hx hb dX2_findNamed_82 (by decide) (fun c_12 => ?_) (fun c_12 => ?_)
      · have fc_12 := eq_f c_12
        refine lv_aload_n hx hb dX2_findNamed_125 rfl (lv_at hl 4 rfl) ?_
        refine g_getk (C := RX2) (T := TX2) (N := 16) hx hb hts (mc_ inX2) hown hK g rfl 4 (by decide) rfl (hts _ (List.mem_cons_of_mem _ t_420)) (fun _ h9 => h9) 3 rfl dX2_findNamed_126 ?_
        refine lv_iload hx hb dX2_findNamed_129 (lv_at hl 0 rfl) ?_
        refine g_calli (va_runV (As := [.int r_8]) (rest := []) ⟨hx, hb, hml, hown, hts⟩ (r_X9_isRow l dC dI L kd tys fr_8 H.size g.2.2.2.1 q3_ mq3_ kq3_ r_8) (cwV 1 hts (gV_ t_1392 t_1257 t_1258 t_192 t_1259) rfl rfl rfl (by decide +kernel) ⟨(Nat.le_of_ble_eq_true rfl), (Nat.le_of_ble_eq_true rfl)⟩) (pre3V g hK mq3_ kq3_ (by decide) (q := (RX9, TX9, 13)) rfl) rfl rfl hl.1 rfl (lv_room (Nat.le_of_ble_eq_true rfl)) dX2_findNamed_131 ⟨(Nat.le_of_ble_eq_true rfl), (Nat.le_of_ble_eq_true rfl)⟩) g hK (by decide) (by decide) (fx' := [(2, 0, a0_, .ref q0_), (2, 1, a0_, .ref q1_), (2, 3, a0_, .ref q2_), (2, 4, a0_, .ref q3_), (5, 1, q1_, .ref q4_), (8, 6, q0_, .int y0_), (8, 8, q0_, .int y1_)]) rfl (fun r_13 fr_13 H locs hp hMr_13 g => ?_)
        rcases hp with ⟨h_14, -⟩ | ⟨h_15, h_16, x_17, h_18, hF_19⟩
        · obtain rfl : r_13 = 0 := h_14
          refine lv_aload_n hx hb dX2_findNamed_134 rfl (lv_at hl 4 rfl) ?_
          refine g_getk (C := RX2) (T := TX2) (N := 16) hx hb hts (mc_ inX2) hown hK g rfl 0 (by decide) rfl (hts _ (List.mem_cons_of_mem _ t_416)) (fun _ h9 => h9) 0 rfl dX2_findNamed_135 ?_
          refine g_calli (va_runV (As := []) (rest := [.int 0]) ⟨hx, hb, hml, hown, hts⟩ (r_X8_kind_2 l dC dI L kd tys fr_13 H.size g.2.2.2.1 q0_ mq0_ kq0_ y0_ by0_ (g.fcts [5] rfl)) (cwV 0 hts (gV_ t_1118 t_1119 t_1120 t_184 t_1121) rfl rfl rfl (by decide +kernel) ⟨(Nat.le_of_ble_eq_true rfl), (Nat.le_of_ble_eq_true rfl)⟩) (pre3V g hK mq0_ kq0_ (by decide) (q := (RX8, TX8, 10)) rfl) rfl rfl hl.1 rfl (lv_room (Nat.le_of_ble_eq_true rfl)) dX2_findNamed_138 ⟨(Nat.le_of_ble_eq_true rfl), (Nat.le_of_ble_eq_true rfl)⟩) g hK (by decide) (by decide) (fx' := [(2, 0, a0_, .ref q0_), (2, 1, a0_, .ref q1_), (2, 3, a0_, .ref q2_), (2, 4, a0_, .ref q3_), (5, 1, q1_, .ref q4_), (8, 6, q0_, .int y0_), (8, 8, q0_, .int y1_)]) rfl (fun r_20 fr_20 H locs hp hMr_20 g => ?_)
          obtain ⟨h_21, -⟩ := hp
          obtain rfl : r_20 = 0 := h_21
          refine lv_bipush (v := 91) hx hb dX2_findNamed_141 (by decide) ?_
          refine lv_icmp_ne (tgt := 150) hx hb dX2_findNamed_143 (by decide) (fun c_ => ?_) (fun c_ => absurd c_ (by decide))
          refine lv_iconst (v := 0) hx hb dX2_findNamed_150 (by decide) ?_
          refine lv_icmp_eq (tgt := 163) hx hb dX2_findNamed_151 (by decide) (fun c_ => ?_) (fun c_ => absurd (by decide) c_)
          refine lv_aload_n hx hb dX2_findNamed_163 rfl (lv_at hl 4 rfl) ?_
          refine lv_iload hx hb dX2_findNamed_164 (lv_at hl 0 rfl) ?_
          refine g_put (C := RX2) (T := TX2) (N := 16) hx hb hts (mc_ inX2) tyX2 tyX2_ok nmX2 hown hK g ma0_ ka0_ (by decide) rfl 15 (by decide) (hts _ (List.mem_cons_of_mem _ t_431)) (fun _ h9 => h9) rfl rfl (okV_i (bd_sub b_11 (by decide))) rfl rfl (by decide) (Or.inr (Or.inl (by decide))) (fx' := [(2, 0, a0_, .ref q0_), (2, 1, a0_, .ref q1_), (2, 3, a0_, .ref q2_), (2, 4, a0_, .ref q3_), (5, 1, q1_, .ref q4_), (8, 6, q0_, .int y0_), (8, 8, q0_, .int y1_)]) rfl dX2_findNamed_166 (fun f H locs hM_22 g => ?_)
          refine lv_iload hx hb dX2_findNamed_169 (lv_at hl 1 rfl) ?_
          subst hQ
          exact W.zret (v := r_4) hx hb hr (nar_z (bd_sub b_7 (by decide) : bd 0 1 _).1 (bd_sub b_7 (by decide) : bd 0 1 _).2) (fun t ht hW => ⟨⟨_, _, rfl, ⟨(bd_sub b_7 (by decide)), y0_, by0_, (g.fcts [6] rfl)⟩, q3_of g hK ht hW⟩, g.2.2.1.F ht⟩) g.2.2.1.2.2 dX2_findNamed_171
        · obtain rfl : r_13 = 1 := h_15
          have b_23 : bd 0 9 r_8 := eqX rfl b_11 h_16 (by decide)
          have g := g.more hF_19
          refine lv_aload_n hx hb dX2_findNamed_134 rfl (lv_at hl 4 rfl) ?_
          refine g_getk (C := RX2) (T := TX2) (N := 16) hx hb hts (mc_ inX2) hown hK g rfl 0 (by decide) rfl (hts _ (List.mem_cons_of_mem _ t_416)) (fun _ h9 => h9) 1 rfl dX2_findNamed_135 ?_
          refine g_calli (va_runV (As := []) (rest := [.int 1]) ⟨hx, hb, hml, hown, hts⟩ (r_X8_kind_2 l dC dI L kd tys fr_13 H.size g.2.2.2.1 q0_ mq0_ kq0_ y0_ by0_ (g.fcts [6] rfl)) (cwV 0 hts (gV_ t_1118 t_1119 t_1120 t_184 t_1121) rfl rfl rfl (by decide +kernel) ⟨(Nat.le_of_ble_eq_true rfl), (Nat.le_of_ble_eq_true rfl)⟩) (pre3V g hK mq0_ kq0_ (by decide) (q := (RX8, TX8, 10)) rfl) rfl rfl hl.1 rfl (lv_room (Nat.le_of_ble_eq_true rfl)) dX2_findNamed_138 ⟨(Nat.le_of_ble_eq_true rfl), (Nat.le_of_ble_eq_true rfl)⟩) g hK (by decide) (by decide) (fx' := [(9, 2, q3_, .int x_17), (2, 0, a0_, .ref q0_), (2, 1, a0_, .ref q1_), (2, 3, a0_, .ref q2_), (2, 4, a0_, .ref q3_), (5, 1, q1_, .ref q4_), (8, 6, q0_, .int y0_), (8, 8, q0_, .int y1_)]) rfl (fun r_24 fr_24 H locs hp hMr_24 g => ?_)
          obtain ⟨h_25, -⟩ := hp
          obtain rfl : r_24 = 0 := h_25
          refine lv_bipush (v := 91) hx hb dX2_findNamed_141 (by decide) ?_
          refine lv_icmp_ne (tgt := 150) hx hb dX2_findNamed_143 (by decide) (fun c_ => ?_) (fun c_ => absurd c_ (by decide))
          refine lv_iconst (v := 0) hx hb dX2_findNamed_150 (by decide) ?_
          refine lv_icmp_eq (tgt := 163) hx hb dX2_findNamed_151 (by decide) (fun c_ => absurd c_ (by decide)) (fun c_ => ?_)
          refine lv_aload_n hx hb dX2_findNamed_154 rfl (lv_at hl 4 rfl) ?_
          refine g_getk (C := RX2) (T := TX2) (N := 16) hx hb hts (mc_ inX2) hown hK g rfl 0 (by decide) rfl (hts _ (List.mem_cons_of_mem _ t_416)) (fun _ h9 => h9) 1 rfl dX2_findNamed_155 ?_
          refine lv_iconst (v := 5) hx hb dX2_findNamed_158 (by decide) ?_
          refine lv_iload_n hx hb dX2_findNamed_159 rfl (lv_at hl 3 rfl) ?_
          have kb_5 : bd 5 5 (5 : Int32) := ⟨by decide, by decide⟩
          refine g_callv (va_runV (As := [.int 5, .int r_1]) (rest := []) ⟨hx, hb, hml, hown, hts⟩ (r_X8_fail_2 l dC dI L kd tys fr_24 H.size g.2.2.2.1 q0_ mq0_ kq0_ 5 (bd_sub kb_5 (by decide)) r_1 y1_ by1_ (g.fcts [7] rfl)) (cwV 2 hts (gV_ t_1122 t_1107 t_1108 t_184 t_1109) rfl rfl rfl (by decide +kernel) ⟨(Nat.le_of_ble_eq_true rfl), (Nat.le_of_ble_eq_true rfl)⟩) (pre3V g hK mq0_ kq0_ (by decide) (q := (RX8, TX8, 10)) rfl) rfl rfl hl.1 rfl (lv_room (Nat.le_of_ble_eq_true rfl)) dX2_findNamed_160 ⟨(Nat.le_of_ble_eq_true rfl), (Nat.le_of_ble_eq_true rfl)⟩) g hK (by decide) (by decide) (fx' := [(9, 2, q3_, .int x_17), (2, 0, a0_, .ref q0_), (2, 1, a0_, .ref q1_), (2, 3, a0_, .ref q2_), (2, 4, a0_, .ref q3_), (5, 1, q1_, .ref q4_), (8, 8, q0_, .int y1_)]) rfl (fun fr_26 H locs hp hMr_26 g => ?_)
          have hF_27 := hp
          have g := g.more hF_27
          refine lv_aload_n hx hb dX2_findNamed_163 rfl (lv_at hl 4 rfl) ?_
          refine lv_iload hx hb dX2_findNamed_164 (lv_at hl 0 rfl) ?_
          refine g_put (C := RX2) (T := TX2) (N := 16) hx hb hts (mc_ inX2) tyX2 tyX2_ok nmX2 hown hK g ma0_ ka0_ (by decide) rfl 15 (by decide) (hts _ (List.mem_cons_of_mem _ t_431)) (fun _ h9 => h9) rfl rfl (okV_i (bd_sub b_23 (by decide))) rfl rfl (by decide) (Or.inr (Or.inl (by decide))) (fx' := [(8, 6, q0_, .int 1201), (9, 2, q3_, .int x_17), (2, 0, a0_, .ref q0_), (2, 1, a0_, .ref q1_), (2, 3, a0_, .ref q2_), (2, 4, a0_, .ref q3_), (5, 1, q1_, .ref q4_), (8, 8, q0_, .int y1_)]) rfl dX2_findNamed_166 (fun f H locs hM_28 g => ?_)
          refine lv_iload hx hb dX2_findNamed_169 (lv_at hl 1 rfl) ?_
          have kb_1201 : bd 1201 1201 (1201 : Int32) := ⟨by decide, by decide⟩
          subst hQ
          exact W.zret (v := r_4) hx hb hr (nar_z (bd_sub b_7 (by decide) : bd 0 1 _).1 (bd_sub b_7 (by decide) : bd 0 1 _).2) (fun t ht hW => ⟨⟨_, _, rfl, ⟨(bd_sub b_7 (by decide)), 1201, kb_1201, (g.fcts [1] rfl)⟩, q3_of g hK ht hW⟩, g.2.2.1.F ht⟩) g.2.2.1.2.2 dX2_findNamed_171
      · have fc_12 := neq_f c_12
        have b_29 : bd 1 (-1) r_4 := neX fc_12 b_7 kb_0 (by decide)
        exact bd_no b_29 (by decide)
    · have fc_10 := eq_f c_10
      have b_30 : bd (-1) (-1) r_8 := eqX fc_10 h_9 kb_m1 (by decide)
      refine lv_aload_n hx hb dX2_findNamed_68 rfl (lv_at hl 4 rfl) ?_
      refine g_getk (C := RX2) (T := TX2) (N := 16) hx hb hts (mc_ inX2) hown hK g rfl 0 (by decide) rfl (hts _ (List.mem_cons_of_mem _ t_416)) (fun _ h9 => h9) 0 rfl dX2_findNamed_69 ?_
      refine lv_iconst (v := 2) hx hb dX2_findNamed_72 (by decide) ?_
      refine lv_iload_n hx hb dX2_findNamed_73 rfl (lv_at hl 3 rfl) ?_
      have kb_2 : bd 2 2 (2 : Int32) := ⟨by decide, by decide⟩
      refine g_callv (va_runV (As := [.int 2, .int r_1]) (rest := []) ⟨hx, hb, hml, hown, hts⟩ (r_X8_fail_2 l dC dI L kd tys fr_8 H.size g.2.2.2.1 q0_ mq0_ kq0_ 2 (bd_sub kb_2 (by decide)) r_1 y1_ by1_ (g.fcts [6] rfl)) (cwV 2 hts (gV_ t_1122 t_1107 t_1108 t_184 t_1109) rfl rfl rfl (by decide +kernel) ⟨(Nat.le_of_ble_eq_true rfl), (Nat.le_of_ble_eq_true rfl)⟩) (pre3V g hK mq0_ kq0_ (by decide) (q := (RX8, TX8, 10)) rfl) rfl rfl hl.1 rfl (lv_room (Nat.le_of_ble_eq_true rfl)) dX2_findNamed_74 ⟨(Nat.le_of_ble_eq_true rfl), (Nat.le_of_ble_eq_true rfl)⟩) g hK (by decide) (by decide) (fx' := [(2, 0, a0_, .ref q0_), (2, 1, a0_, .ref q1_), (2, 3, a0_, .ref q2_), (2, 4, a0_, .ref q3_), (5, 1, q1_, .ref q4_), (8, 8, q0_, .int y1_)]) rfl (fun fr_31 H locs hp hMr_31 g => ?_)
      have hF_32 := hp
      have g := g.more hF_32
      refine lv_goto (tgt := 163) hx hb dX2_findNamed_77 (by decide) ?_
      refine lv_aload_n hx hb dX2_findNamed_163 rfl (lv_at hl 4 rfl) ?_
      refine lv_iload hx hb dX2_findNamed_164 (lv_at hl 0 rfl) ?_
      refine g_put (C := RX2) (T := TX2) (N := 16) hx hb hts (mc_ inX2) tyX2 tyX2_ok nmX2 hown hK g ma0_ ka0_ (by decide) rfl 15 (by decide) (hts _ (List.mem_cons_of_mem _ t_431)) (fun _ h9 => h9) rfl rfl (okV_i (bd_sub b_30 (by decide))) rfl rfl (by decide) (Or.inr (Or.inl (by decide))) (fx' := [(8, 6, q0_, .int 1201), (2, 0, a0_, .ref q0_), (2, 1, a0_, .ref q1_), (2, 3, a0_, .ref q2_), (2, 4, a0_, .ref q3_), (5, 1, q1_, .ref q4_), (8, 8, q0_, .int y1_)]) rfl dX2_findNamed_166 (fun f H locs hM_33 g => ?_)
      refine lv_iload hx hb dX2_findNamed_169 (lv_at hl 1 rfl) ?_
      have kb_1201 : bd 1201 1201 (1201 : Int32) := ⟨by decide, by decide⟩
      subst hQ
      exact W.zret (v := r_4) hx hb hr (nar_z (bd_sub b_7 (by decide) : bd 0 1 _).1 (bd_sub b_7 (by decide) : bd 0 1 _).2) (fun t ht hW => ⟨⟨_, _, rfl, ⟨(bd_sub b_7 (by decide)), 1201, kb_1201, (g.fcts [1] rfl)⟩, q3_of g hK ht hW⟩, g.2.2.1.F ht⟩) g.2.2.1.2.2 dX2_findNamed_171
  · have fc_6 := neq_f c_6
    have b_34 : bd 1 1 r_4 := neX fc_6 h_5 kb_0 (by decide)
    refine lv_aload_n hx hb dX2_findNamed_37 rfl (lv_at hl 3 rfl) ?_
    refine g_getk (C := RX2) (T := TX2) (N := 16) hx hb hts (mc_ inX2) hown hK g rfl 3 (by decide) rfl (hts _ (List.mem_cons_of_mem _ t_419)) (fun _ h9 => h9) 2 rfl dX2_findNamed_38 ?_
    refine lv_aload_n hx hb dX2_findNamed_41 rfl (lv_at hl 3 rfl) ?_
    refine g_getk (C := RX2) (T := TX2) (N := 16) hx hb hts (mc_ inX2) hown hK g rfl 4 (by decide) rfl (hts _ (List.mem_cons_of_mem _ t_420)) (fun _ h9 => h9) 3 rfl dX2_findNamed_42 ?_
    refine lv_lload_n hx hb dX2_findNamed_45 rfl (lv_at hl 1 rfl) ?_
    refine g_calli (va_runV (As := [.ref q3_, .long r_2]) (rest := []) ⟨hx, hb, hml, hown, hts⟩ (r_X7_memberNamed l dC dI L kd tys fr_4 H.size g.2.2.2.1 q2_ mq2_ kq2_ q3_ mq3_ kq3_ r_2) (cwV 2 hts (gV_ t_1306 t_1244 t_1245 t_191 t_1246) rfl rfl rfl (by decide +kernel) ⟨(Nat.le_of_ble_eq_true rfl), (Nat.le_of_ble_eq_true rfl)⟩) (pre3V g hK mq2_ kq2_ (by decide) (q := (RX7, TX7, 19)) rfl) rfl rfl hl.1 rfl (lv_room (Nat.le_of_ble_eq_true rfl)) dX2_findNamed_46 ⟨(Nat.le_of_ble_eq_true rfl), (Nat.le_of_ble_eq_true rfl)⟩) g hK (by decide) (by decide) (fx' := [(2, 0, a0_, .ref q0_), (2, 1, a0_, .ref q1_), (2, 3, a0_, .ref q2_), (2, 4, a0_, .ref q3_), (5, 1, q1_, .ref q4_), (8, 6, q0_, .int y0_), (8, 8, q0_, .int y1_)]) rfl (fun r_35 fr_35 H locs hp hMr_35 g => ?_)
    obtain ⟨h_36, -⟩ := hp
    refine lv_goto (tgt := 60) hx hb dX2_findNamed_49 (by decide) ?_
    refine lv_istore (lv' := [(5, .int r_35), (4, .int r_4), (2, .long r_2), (1, .int r_1), (0, .ref a0_)]) hx hb dX2_findNamed_60 hl (by decide) rfl (fun ls hl => ?_)
    refine lv_iload hx hb dX2_findNamed_62 (lv_at hl 0 rfl) ?_
    refine lv_iconst (v := (-1)) hx hb dX2_findNamed_64 (by decide) ?_
    have kb_m1 : bd (-1) (-1) ((-1) : Int32) := ⟨by decide, by decide⟩
    refine lv_icmp_ne (tgt := 80) hx hb dX2_findNamed_65 (by decide) (fun c_37 => ?_) (fun c_37 => ?_)
    · have fc_37 := neq_f c_37
      have b_38 : bd 0 11 r_35 := neX fc_37 h_36 kb_m1 (by decide)
      refine lv_iload hx hb dX2_findNamed_80 (lv_at hl 1 rfl) ?_
      refine lv_if_eq (tgt := 125) hx hb dX2_findNamed_82 (by decide) (fun c_39 => ?_) (fun c_39 => ?_)
      · have fc_39 := eq_f c_39
        exact absurd fc_39 fc_6
      · have fc_39 := neq_f c_39
        refine lv_aload_n hx hb dX2_findNamed_85 rfl (lv_at hl 4 rfl) ?_
        refine lv_bipush (v := 17) hx hb dX2_findNamed_86 (by decide) ?_
        have kb_17 : bd 17 17 (17 : Int32) := ⟨by decide, by decide⟩
        refine g_put (C := RX2) (T := TX2) (N := 16) hx hb hts (mc_ inX2) tyX2 tyX2_ok nmX2 hown hK g ma0_ ka0_ (by decide) rfl 12 (by decide) (hts _ (List.mem_cons_of_mem _ t_428)) (fun _ h9 => h9) rfl rfl (okV_i (bd_sub kb_17 (by decide))) rfl rfl (by decide) (Or.inr (Or.inl (by decide))) (fx' := [(2, 0, a0_, .ref q0_), (2, 1, a0_, .ref q1_), (2, 3, a0_, .ref q2_), (2, 4, a0_, .ref q3_), (5, 1, q1_, .ref q4_), (8, 6, q0_, .int y0_), (8, 8, q0_, .int y1_)]) rfl dX2_findNamed_88 (fun f H locs hM_40 g => ?_)
        refine lv_aload_n hx hb dX2_findNamed_91 rfl (lv_at hl 4 rfl) ?_
        refine lv_iload hx hb dX2_findNamed_92 (lv_at hl 0 rfl) ?_
        refine g_put (C := RX2) (T := TX2) (N := 16) hx hb hts (mc_ inX2) tyX2 tyX2_ok nmX2 hown hK g ma0_ ka0_ (by decide) rfl 13 (by decide) (hts _ (List.mem_cons_of_mem _ t_429)) (fun _ h9 => h9) rfl rfl (okV_i (bd_sub b_38 (by decide))) rfl rfl (by decide) (Or.inr (Or.inl (by decide))) (fx' := [(2, 12, a0_, .int 17), (2, 0, a0_, .ref q0_), (2, 1, a0_, .ref q1_), (2, 3, a0_, .ref q2_), (2, 4, a0_, .ref q3_), (5, 1, q1_, .ref q4_), (8, 6, q0_, .int y0_), (8, 8, q0_, .int y1_)]) rfl dX2_findNamed_94 (fun f H locs hM_41 g => ?_)
        refine lv_aload_n hx hb dX2_findNamed_97 rfl (lv_at hl 4 rfl) ?_
        refine lv_aload_n hx hb dX2_findNamed_98 rfl (lv_at hl 4 rfl) ?_
        refine g_getk (C := RX2) (T := TX2) (N := 16) hx hb hts (mc_ inX2) hown hK g rfl 3 (by decide) rfl (hts _ (List.mem_cons_of_mem _ t_419)) (fun _ h9 => h9) 4 rfl dX2_findNamed_99 ?_
        refine g_getr (K := 137) (C := RX7) (T := TX7) (N := 19) hx hb hts (mc_ inX7) hown hK g mq2_ kq2_ (by decide) rfl 2 (by decide) rfl (hts _ (List.mem_cons_of_mem _ t_630)) (fun _ h9 => h9) rfl dX2_findNamed_102 (fun a_42 ma_42 ka_42 g => ?_)
        refine lv_aload_n hx hb dX2_findNamed_105 rfl (lv_at hl 4 rfl) ?_
        refine g_getk (C := RX2) (T := TX2) (N := 16) hx hb hts (mc_ inX2) hown hK g rfl 4 (by decide) rfl (hts _ (List.mem_cons_of_mem _ t_420)) (fun _ h9 => h9) 6 rfl dX2_findNamed_106 ?_
        refine g_getr (K := 156) (C := RX9) (T := TX9) (N := 13) hx hb hts (mc_ inX9) hown hK g mq3_ kq3_ (by decide) rfl 9 (by decide) rfl (hts _ (List.mem_cons_of_mem _ t_510)) (fun _ h9 => h9) rfl dX2_findNamed_109 (fun a_43 ma_43 ka_43 g => ?_)
        refine lv_iload hx hb dX2_findNamed_112 (lv_at hl 0 rfl) ?_
        refine g_iald hx hb hK g ma_43 ka_43 (by decide) rfl (in_bd b_38 (by decide)) dX2_findNamed_114 (fun x_44 bx_44 cx_44 => ?_)
        refine g_aald hx hb hK g ma_42 ka_42 (by decide) rfl (by decide) (in_bd bx_44 (by decide)) dX2_findNamed_115 (fun a_45 ma_45 ua_45 wa_45 => ?_)
        have ka_45 : kd a_45 = 6 := by omega
        refine g_geti (C := RX6) (T := TX6) (N := 13) hx hb hts (mc_ inX6) hown hK g ma_45 ka_45 (by decide) rfl 3 (by decide) rfl (hts _ (List.mem_cons_of_mem _ t_568)) (fun _ h9 => h9) rfl dX2_findNamed_116 (fun x_46 bx_46 g => ?_)
        refine g_put (C := RX2) (T := TX2) (N := 16) hx hb hts (mc_ inX2) tyX2 tyX2_ok nmX2 hown hK g ma0_ ka0_ (by decide) rfl 14 (by decide) (hts _ (List.mem_cons_of_mem _ t_430)) (fun _ h9 => h9) rfl rfl (okV_i (bd_sub bx_46 (by decide))) rfl rfl (by decide) (Or.inr (Or.inl (by decide))) (fx' := [(6, 3, a_45, .int x_46), (9, 9, q3_, .ref a_43), (7, 2, q2_, .ref a_42), (2, 13, a0_, .int r_35), (2, 12, a0_, .int 17), (2, 0, a0_, .ref q0_), (2, 1, a0_, .ref q1_), (2, 3, a0_, .ref q2_), (2, 4, a0_, .ref q3_), (5, 1, q1_, .ref q4_), (8, 6, q0_, .int y0_), (8, 8, q0_, .int y1_)]) rfl dX2_findNamed_119 (fun f H locs hM_47 g => ?_)
        refine lv_goto (tgt := 163) hx hb dX2_findNamed_122 (by decide) ?_
        refine lv_aload_n hx hb dX2_findNamed_163 rfl (lv_at hl 4 rfl) ?_
        refine lv_iload hx hb dX2_findNamed_164 (lv_at hl 0 rfl) ?_
        refine g_put (C := RX2) (T := TX2) (N := 16) hx hb hts (mc_ inX2) tyX2 tyX2_ok nmX2 hown hK g ma0_ ka0_ (by decide) rfl 15 (by decide) (hts _ (List.mem_cons_of_mem _ t_431)) (fun _ h9 => h9) rfl rfl (okV_i (bd_sub b_38 (by decide))) rfl rfl (by decide) (Or.inr (Or.inl (by decide))) (fx' := [(2, 14, a0_, .int x_46), (6, 3, a_45, .int x_46), (9, 9, q3_, .ref a_43), (7, 2, q2_, .ref a_42), (2, 13, a0_, .int r_35), (2, 12, a0_, .int 17), (2, 0, a0_, .ref q0_), (2, 1, a0_, .ref q1_), (2, 3, a0_, .ref q2_), (2, 4, a0_, .ref q3_), (5, 1, q1_, .ref q4_), (8, 6, q0_, .int y0_), (8, 8, q0_, .int y1_)]) rfl dX2_findNamed_166 (fun f H locs hM_48 g => ?_)
        refine lv_iload hx hb dX2_findNamed_169 (lv_at hl 1 rfl) ?_
        subst hQ
        exact W.zret (v := r_4) hx hb hr (nar_z (bd_sub b_34 (by decide) : bd 0 1 _).1 (bd_sub b_34 (by decide) : bd 0 1 _).2) (fun t ht hW => ⟨⟨_, _, rfl, ⟨(bd_sub b_34 (by decide)), y0_, by0_, (g.fcts [12] rfl)⟩, q3_of g hK ht hW⟩, g.2.2.1.F ht⟩) g.2.2.1.2.2 dX2_findNamed_171
    · have fc_37 := eq_f c_37
      have b_49 : bd (-1) (-1) r_35 := eqX fc_37 h_36 kb_m1 (by decide)
      refine lv_aload_n hx hb dX2_findNamed_68 rfl (lv_at hl 4 rfl) ?_
      refine g_getk (C := RX2) (T := TX2) (N := 16) hx hb hts (mc_ inX2) hown hK g rfl 0 (by decide) rfl (hts _ (List.mem_cons_of_mem _ t_416)) (fun _ h9 => h9) 0 rfl dX2_findNamed_69 ?_
      refine lv_iconst (v := 2) hx hb dX2_findNamed_72 (by decide) ?_
      refine lv_iload_n hx hb dX2_findNamed_73 rfl (lv_at hl 3 rfl) ?_
      have kb_2 : bd 2 2 (2 : Int32) := ⟨by decide, by decide⟩
      refine g_callv (va_runV (As := [.int 2, .int r_1]) (rest := []) ⟨hx, hb, hml, hown, hts⟩ (r_X8_fail_2 l dC dI L kd tys fr_35 H.size g.2.2.2.1 q0_ mq0_ kq0_ 2 (bd_sub kb_2 (by decide)) r_1 y1_ by1_ (g.fcts [6] rfl)) (cwV 2 hts (gV_ t_1122 t_1107 t_1108 t_184 t_1109) rfl rfl rfl (by decide +kernel) ⟨(Nat.le_of_ble_eq_true rfl), (Nat.le_of_ble_eq_true rfl)⟩) (pre3V g hK mq0_ kq0_ (by decide) (q := (RX8, TX8, 10)) rfl) rfl rfl hl.1 rfl (lv_room (Nat.le_of_ble_eq_true rfl)) dX2_findNamed_74 ⟨(Nat.le_of_ble_eq_true rfl), (Nat.le_of_ble_eq_true rfl)⟩) g hK (by decide) (by decide) (fx' := [(2, 0, a0_, .ref q0_), (2, 1, a0_, .ref q1_), (2, 3, a0_, .ref q2_), (2, 4, a0_, .ref q3_), (5, 1, q1_, .ref q4_), (8, 8, q0_, .int y1_)]) rfl (fun fr_50 H locs hp hMr_50 g => ?_)
      have hF_51 := hp
      have g := g.more hF_51
      refine lv_goto (tgt := 163) hx hb dX2_findNamed_77 (by decide) ?_
      refine lv_aload_n hx hb dX2_findNamed_163 rfl (lv_at hl 4 rfl) ?_
      refine lv_iload hx hb dX2_findNamed_164 (lv_at hl 0 rfl) ?_
      refine g_put (C := RX2) (T := TX2) (N := 16) hx hb hts (mc_ inX2) tyX2 tyX2_ok nmX2 hown hK g ma0_ ka0_ (by decide) rfl 15 (by decide) (hts _ (List.mem_cons_of_mem _ t_431)) (fun _ h9 => h9) rfl rfl (okV_i (bd_sub b_49 (by decide))) rfl rfl (by decide) (Or.inr (Or.inl (by decide))) (fx' := [(8, 6, q0_, .int 1201), (2, 0, a0_, .ref q0_), (2, 1, a0_, .ref q1_), (2, 3, a0_, .ref q2_), (2, 4, a0_, .ref q3_), (5, 1, q1_, .ref q4_), (8, 8, q0_, .int y1_)]) rfl dX2_findNamed_166 (fun f H locs hM_52 g => ?_)
      refine lv_iload hx hb dX2_findNamed_169 (lv_at hl 1 rfl) ?_
      have kb_1201 : bd 1201 1201 (1201 : Int32) := ⟨by decide, by decide⟩
      subst hQ
      exact W.zret (v := r_4) hx hb hr (nar_z (bd_sub b_34 (by decide) : bd 0 1 _).1 (bd_sub b_34 (by decide) : bd 0 1 _).2) (fun t ht hW => ⟨⟨_, _, rfl, ⟨(bd_sub b_34 (by decide)), 1201, kb_1201, (g.fcts [1] rfl)⟩, q3_of g hK ht hW⟩, g.2.2.1.F ht⟩) g.2.2.1.2.2 dX2_findNamed_171
