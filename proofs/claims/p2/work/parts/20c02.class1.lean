set_option maxHeartbeats 4000000 in
set_option maxRecDepth 100000 in
theorem r_X0_openCall (l : Launch) (dC : Nat → ClassId) (dI : Nat → Nat → Nat) (L : List Nat) (kd : Nat → Nat) (tys : List (ClassId × FieldType)) (f0 : Nat → va_E) (sz : Nat) (hWT : WT L kd tys f0) (a0_ : Nat) (ma0_ : a0_ ∈ L) (ka0_ : kd a0_ = 0) (x1_ : Int32) (x2_ : Int32) (x3_ : Int32) (x4_ : Int32) (q0_ : Nat) (mq0_ : q0_ ∈ L) (kq0_ : kd q0_ = 8) (q1_ : Nat) (mq1_ : q1_ ∈ L) (kq1_ : kd q1_ = 7) (hfx : Fs L kd f0 [(0, 0, a0_, .ref q0_), (0, 2, a0_, .ref q1_)]) : Met l yX0_openCall (.code yX0_openCall cX0_openCall 8 none :: lw_g) ({ frames := 1, cells := 0, slots := 0, locals := 23 }) (va_Pc [.ref a0_, .int x1_, .int x2_, .int x3_, .int x4_] (P3 (dC, dI) L tys f0 sz)) (va_Qv (fun (f : Nat → va_E) => (∃ z1_ : Int32, bd 1 7 z1_ ∧ Fs L kd f [(8, 6, q0_, .int 1201), (8, 8, q0_, .int z1_)]) ∨ (∃ z0_ : Int32, bd (-2147483648) 40 z0_ ∧ ∃ z1_ : Int32, bd 1 1201 z1_ ∧ Fs L kd f [(0, 11, a0_, .int z0_), (8, 6, q0_, .int z1_)])) (Q3 (dC, dI) L kd tys [(0, 8), (0, 10), (0, 11), (0, 12), (7, 6), (7, 18), (8, 6), (8, 8), (8, 9)] [110, 111, 112, 113, 114, 115, 138, 139] f0 sz) (pA L sz)) 0 0 (pA L sz) := by
  refine Met.ofW (cc := cX0_openCall) (maxL := 8) (ret := none) (by decide) rfl ?_
  intro p e s m args below meth c s₁ B hml hv
  obtain ⟨rfl, hsz, hP, hK, hD0⟩ := hv
  have hx := B.exec
  have hb := B.bytes
  have hr := B.returns
  have hts := atoms_spec (ws := (.code yX0_openCall cX0_openCall 8 none :: lw_g)) B.pre
  have hown : s.vm.findClass RX0 = some m.cls := findClass_of_methodNamed B.named
  have hlocks := B.notSynchronized
  subst hsz
  have g : G3 (dC, dI) L kd tys s f0 [(0, 8), (0, 10), (0, 11), (0, 12), (7, 6), (7, 18), (8, 6), (8, 8), (8, 9)] [110, 111, 112, 113, 114, 115, 138, 139] f0 s.heap [] [(0, 0, a0_, .ref q0_), (0, 2, a0_, .ref q1_)] := G3.start hP hD0 hWT hfx
  have hl := lv_entry ([.ref a0_, .int x1_, .int x2_, .int x3_, .int x4_]) (n := 8) (Nat.le_of_ble_eq_true rfl)
  rw [lg_entry_eq]
  generalize (lg_sl ([.ref a0_, .int x1_, .int x2_, .int x3_, .int x4_]) ++ List.replicate (8 - (lg_sl ([.ref a0_, .int x1_, .int x2_, .int x3_, .int x4_])).length) Slot.unset).toArray = ls at hl ⊢
  have hl : lv_has ls 8 [(0, .ref a0_), (1, .int x1_), (2, .int x2_), (3, .int x3_), (4, .int x4_)] := hl
  refine W_q (fun Q hQ => ?_)
  refine lv_aload_n hx hb dX0_openCall_0 rfl (lv_at hl 0 rfl) ?_
  refine g_getk (C := RX0) (T := TX0) (N := 14) hx hb hts (mc_ inX0) hown hK g rfl 0 (by decide) rfl (hts _ (List.mem_cons_of_mem _ t_373)) (fun _ h9 => h9) 0 rfl dX0_openCall_1 ?_
  refine g_calli (va_runV (As := []) (rest := []) ⟨hx, hb, hml, hown, hts⟩ (r_X8_place l dC dI L kd tys f0 s.heap.size g.2.2.2.1 q0_ mq0_ kq0_) (cwV 0 hts (gV_ t_1220 t_1111 t_1112 t_184 t_1113) rfl rfl rfl (by decide +kernel) ⟨(Nat.le_of_ble_eq_true rfl), (Nat.le_of_ble_eq_true rfl)⟩) (pre3V g hK mq0_ kq0_ (by decide) (q := (RX8, TX8, 10)) rfl) rfl rfl hl.1 rfl (lv_room (Nat.le_of_ble_eq_true rfl)) dX0_openCall_4 ⟨(Nat.le_of_ble_eq_true rfl), (Nat.le_of_ble_eq_true rfl)⟩) g hK (by decide) (by decide) (fx' := [(0, 0, a0_, .ref q0_), (0, 2, a0_, .ref q1_)]) rfl (fun r_1 fr_1 H locs hp hMr_1 g => ?_)
  refine lv_istore (lv' := [(5, .int r_1), (0, .ref a0_), (1, .int x1_), (2, .int x2_), (3, .int x3_), (4, .int x4_)]) hx hb dX0_openCall_7 hl (by decide) rfl (fun ls hl => ?_)
  refine lv_aload_n hx hb dX0_openCall_9 rfl (lv_at hl 1 rfl) ?_
  refine g_geti (C := RX0) (T := TX0) (N := 14) hx hb hts (mc_ inX0) hown hK g ma0_ ka0_ (by decide) rfl 11 (by decide) rfl (hts _ (List.mem_cons_of_mem _ t_384)) (fun _ h9 => h9) rfl dX0_openCall_10 (fun x_2 bx_2 g => ?_)
  refine lv_bipush (v := 40) hx hb dX0_openCall_13 (by decide) ?_
  have kb_40 : bd 40 40 (40 : Int32) := ⟨by decide, by decide⟩
  refine lv_icmp_lt (tgt := 28) hx hb dX0_openCall_15 (by decide) (fun c_3 => ?_) (fun c_3 => ?_)
  · have fc_3 := lt_f c_3
    have b_4 : bd (-2147483648) 39 x_2 := ltL fc_3 (bdT x_2) kb_40 (by decide)
    refine lv_aload_n hx hb dX0_openCall_28 rfl (lv_at hl 1 rfl) ?_
    refine g_getk (C := RX0) (T := TX0) (N := 14) hx hb hts (mc_ inX0) hown hK g rfl 2 (by decide) rfl (hts _ (List.mem_cons_of_mem _ t_375)) (fun _ h9 => h9) 2 rfl dX0_openCall_29 ?_
    refine lv_dup hx hb dX0_openCall_32 rfl ?_
    refine g_geti (C := RX7) (T := TX7) (N := 19) hx hb hts (mc_ inX7) hown hK g mq1_ kq1_ (by decide) rfl 18 (by decide) rfl (hts _ (List.mem_cons_of_mem _ t_681)) (fun _ h9 => h9) rfl dX0_openCall_33 (fun x_5 bx_5 g => ?_)
    refine lv_iconst (v := 1) hx hb dX0_openCall_36 (by decide) ?_
    have kb_1 : bd 1 1 (1 : Int32) := ⟨by decide, by decide⟩
    refine lv_iadd hx hb dX0_openCall_37 ?_
    refine lv_topi (fun y_6 ey_6 => ?_)
    refine g_put (C := RX7) (T := TX7) (N := 19) hx hb hts (mc_ inX7) tyX7 tyX7_ok nmX7 hown hK g mq1_ kq1_ (by decide) rfl 18 (by decide) (hts _ (List.mem_cons_of_mem _ t_681)) (fun _ h9 => h9) rfl rfl (okV_i (bdT y_6)) rfl rfl (by decide) (Or.inr (Or.inl (by decide))) (fx' := [(0, 11, a0_, .int x_2), (0, 0, a0_, .ref q0_), (0, 2, a0_, .ref q1_)]) rfl dX0_openCall_38 (fun f H locs hM_7 g => ?_)
    refine lv_aload_n hx hb dX0_openCall_41 rfl (lv_at hl 1 rfl) ?_
    refine g_getk (C := RX0) (T := TX0) (N := 14) hx hb hts (mc_ inX0) hown hK g rfl 0 (by decide) rfl (hts _ (List.mem_cons_of_mem _ t_373)) (fun _ h9 => h9) 2 rfl dX0_openCall_42 ?_
    refine g_callv (va_runV (As := []) (rest := []) ⟨hx, hb, hml, hown, hts⟩ (r_X8_next l dC dI L kd tys f H.size g.2.2.2.1 q0_ mq0_ kq0_) (cwV 0 hts (gV_ t_1225 t_1103 t_1104 t_184 t_1105) rfl rfl rfl (by decide +kernel) ⟨(Nat.le_of_ble_eq_true rfl), (Nat.le_of_ble_eq_true rfl)⟩) (pre3V g hK mq0_ kq0_ (by decide) (q := (RX8, TX8, 10)) rfl) rfl rfl hl.1 rfl (lv_room (Nat.le_of_ble_eq_true rfl)) dX0_openCall_45 ⟨(Nat.le_of_ble_eq_true rfl), (Nat.le_of_ble_eq_true rfl)⟩) g hK (by decide) (by decide) (fx' := [(7, 18, q1_, .int y_6), (0, 11, a0_, .int x_2), (0, 0, a0_, .ref q0_), (0, 2, a0_, .ref q1_)]) rfl (fun fr_8 H locs hp hMr_8 g => ?_)
    obtain ⟨x_9, h_10, hF_11⟩ := hp
    have g := g.more hF_11
    refine lv_aload_n hx hb dX0_openCall_48 rfl (lv_at hl 1 rfl) ?_
    refine g_getk (C := RX0) (T := TX0) (N := 14) hx hb hts (mc_ inX0) hown hK g rfl 0 (by decide) rfl (hts _ (List.mem_cons_of_mem _ t_373)) (fun _ h9 => h9) 3 rfl dX0_openCall_49 ?_
    refine g_calli (va_runV (As := []) (rest := []) ⟨hx, hb, hml, hown, hts⟩ (r_X8_place l dC dI L kd tys fr_8 H.size g.2.2.2.1 q0_ mq0_ kq0_) (cwV 0 hts (gV_ t_1220 t_1111 t_1112 t_184 t_1113) rfl rfl rfl (by decide +kernel) ⟨(Nat.le_of_ble_eq_true rfl), (Nat.le_of_ble_eq_true rfl)⟩) (pre3V g hK mq0_ kq0_ (by decide) (q := (RX8, TX8, 10)) rfl) rfl rfl hl.1 rfl (lv_room (Nat.le_of_ble_eq_true rfl)) dX0_openCall_52 ⟨(Nat.le_of_ble_eq_true rfl), (Nat.le_of_ble_eq_true rfl)⟩) g hK (by decide) (by decide) (fx' := [(8, 6, q0_, .int x_9), (7, 18, q1_, .int y_6), (0, 11, a0_, .int x_2), (0, 0, a0_, .ref q0_), (0, 2, a0_, .ref q1_)]) rfl (fun r_12 fr_12 H locs hp hMr_12 g => ?_)
    refine lv_istore (lv' := [(6, .int r_12), (5, .int r_1), (0, .ref a0_), (1, .int x1_), (2, .int x2_), (3, .int x3_), (4, .int x4_)]) hx hb dX0_openCall_55 hl (by decide) rfl (fun ls hl => ?_)
    refine lv_aload_n hx hb dX0_openCall_57 rfl (lv_at hl 2 rfl) ?_
    refine g_getk (C := RX0) (T := TX0) (N := 14) hx hb hts (mc_ inX0) hown hK g rfl 0 (by decide) rfl (hts _ (List.mem_cons_of_mem _ t_373)) (fun _ h9 => h9) 3 rfl dX0_openCall_58 ?_
    refine g_calli (va_runV (As := []) (rest := []) ⟨hx, hb, hml, hown, hts⟩ (r_X8_kind l dC dI L kd tys fr_12 H.size g.2.2.2.1 q0_ mq0_ kq0_) (cwV 0 hts (gV_ t_1186 t_1119 t_1120 t_184 t_1121) rfl rfl rfl (by decide +kernel) ⟨(Nat.le_of_ble_eq_true rfl), (Nat.le_of_ble_eq_true rfl)⟩) (pre3V g hK mq0_ kq0_ (by decide) (q := (RX8, TX8, 10)) rfl) rfl rfl hl.1 rfl (lv_room (Nat.le_of_ble_eq_true rfl)) dX0_openCall_61 ⟨(Nat.le_of_ble_eq_true rfl), (Nat.le_of_ble_eq_true rfl)⟩) g hK (by decide) (by decide) (fx' := [(8, 6, q0_, .int x_9), (7, 18, q1_, .int y_6), (0, 11, a0_, .int x_2), (0, 0, a0_, .ref q0_), (0, 2, a0_, .ref q1_)]) rfl (fun r_13 fr_13 H locs hp hMr_13 g => ?_)
    refine lv_bipush (v := 41) hx hb dX0_openCall_64 (by decide) ?_
    have kb_41 : bd 41 41 (41 : Int32) := ⟨by decide, by decide⟩
    refine lv_icmp_ne (tgt := 73) hx hb dX0_openCall_66 (by decide) (fun c_14 => ?_) (fun c_14 => ?_)
    · have fc_14 := neq_f c_14
      refine lv_iconst (v := 0) hx hb dX0_openCall_73 (by decide) ?_
      refine lv_istore (lv' := [(7, .int 0), (6, .int r_12), (5, .int r_1), (0, .ref a0_), (1, .int x1_), (2, .int x2_), (3, .int x3_), (4, .int x4_)]) hx hb dX0_openCall_74 hl (by decide) rfl (fun ls hl => ?_)
      refine lv_iload hx hb dX0_openCall_76 (lv_at hl 7 rfl) ?_
      have kb_0 : bd 0 0 (0 : Int32) := ⟨by decide, by decide⟩
      refine lv_if_ne (tgt := 97) hx hb dX0_openCall_78 (by decide) (fun c_15 => ?_) (fun c_15 => ?_)
      · have fc_15 := neq_f c_15
        refine lv_iload hx hb dX0_openCall_97 (lv_at hl 0 rfl) ?_
        refine lv_if_ne (tgt := 120) hx hb dX0_openCall_99 (by decide) (fun c_ => absurd c_ (by decide)) (fun c_ => ?_)
        refine lv_aload_n hx hb dX0_openCall_102 rfl (lv_at hl 3 rfl) ?_
        refine lv_iload_n hx hb dX0_openCall_103 rfl (lv_at hl 4 rfl) ?_
        refine lv_iload_n hx hb dX0_openCall_104 rfl (lv_at hl 5 rfl) ?_
        refine lv_iload_n hx hb dX0_openCall_105 rfl (lv_at hl 6 rfl) ?_
        refine g_callv (va_runV (As := [.int x1_, .int x2_, .int x3_]) (rest := []) ⟨hx, hb, hml, hown, hts⟩ (r_X0_push l dC dI L kd tys fr_13 H.size g.2.2.2.1 a0_ ma0_ ka0_ x1_ x2_ x3_) (cwV 3 hts (gV_ t_1221 t_1223 t_19 t_190 t_1224) rfl rfl rfl (by decide +kernel) ⟨(Nat.le_of_ble_eq_true rfl), (Nat.le_of_ble_eq_true rfl)⟩) (pre3V g hK ma0_ ka0_ (by decide) (q := (RX0, TX0, 14)) rfl) rfl rfl hl.1 rfl (lv_room (Nat.le_of_ble_eq_true rfl)) dX0_openCall_106 ⟨(Nat.le_of_ble_eq_true rfl), (Nat.le_of_ble_eq_true rfl)⟩) g hK (by decide) (by decide) (fx' := [(8, 6, q0_, .int x_9), (7, 18, q1_, .int y_6), (0, 11, a0_, .int x_2), (0, 0, a0_, .ref q0_), (0, 2, a0_, .ref q1_)]) rfl (fun fr_16 H locs hp hMr_16 g => ?_)
        obtain ⟨x_17, h_18, hF_19⟩ := hp
        have g := g.more hF_19
        refine lv_aload_n hx hb dX0_openCall_109 rfl (lv_at hl 3 rfl) ?_
        refine lv_dup hx hb dX0_openCall_110 rfl ?_
        refine g_getk (C := RX0) (T := TX0) (N := 14) hx hb hts (mc_ inX0) hown hK g rfl 11 (by decide) rfl (hts _ (List.mem_cons_of_mem _ t_384)) (fun _ h9 => h9) 3 rfl dX0_openCall_111 ?_
        refine lv_iconst (v := 1) hx hb dX0_openCall_114 (by decide) ?_
        refine lv_iadd hx hb dX0_openCall_115 ?_
        refine lv_topi (fun y_20 ey_20 => ?_)
        have ty_20 := add_bd ey_20 b_4 kb_1 (by decide)
        have b_21 : bd (-2147483647) 40 y_20 := add_rg ty_20 b_4 kb_1 (by decide)
        refine g_put (C := RX0) (T := TX0) (N := 14) hx hb hts (mc_ inX0) tyX0 tyX0_ok nmX0 hown hK g ma0_ ka0_ (by decide) rfl 11 (by decide) (hts _ (List.mem_cons_of_mem _ t_384)) (fun _ h9 => h9) rfl rfl (okV_i (bd_sub b_21 (by decide))) rfl rfl (by decide) (Or.inr (Or.inl (by decide))) (fx' := [(0, 8, a0_, .int x_17), (8, 6, q0_, .int x_9), (7, 18, q1_, .int y_6), (0, 0, a0_, .ref q0_), (0, 2, a0_, .ref q1_)]) rfl dX0_openCall_116 (fun f H locs hM_22 g => ?_)
        subst hQ
        exact W.vret hx hb hr (fun t ht hW => ⟨⟨_, rfl, Or.inr (⟨y_20, (bd_sub b_21 (by decide)), x_9, h_10, (g.fcts [0, 2] rfl)⟩), q3_of g hK ht hW⟩, g.2.2.1.F ht⟩) g.2.2.1.2.2 dX0_openCall_119
      · have fc_15 := eq_f c_15
        have b_23 : bd 0 0 x4_ := eqX fc_15 (bdT x4_) kb_0 (by decide)
        refine lv_iload hx hb dX0_openCall_81 (lv_at hl 0 rfl) ?_
        refine lv_if_ne (tgt := 97) hx hb dX0_openCall_83 (by decide) (fun c_ => absurd c_ (by decide)) (fun c_ => ?_)
        refine lv_aload_n hx hb dX0_openCall_86 rfl (lv_at hl 3 rfl) ?_
        refine g_getk (C := RX0) (T := TX0) (N := 14) hx hb hts (mc_ inX0) hown hK g rfl 0 (by decide) rfl (hts _ (List.mem_cons_of_mem _ t_373)) (fun _ h9 => h9) 3 rfl dX0_openCall_87 ?_
        refine lv_bipush (v := 6) hx hb dX0_openCall_90 (by decide) ?_
        refine lv_iload hx hb dX0_openCall_92 (lv_at hl 2 rfl) ?_
        have kb_6 : bd 6 6 (6 : Int32) := ⟨by decide, by decide⟩
        refine g_callv (va_runV (As := [.int 6, .int r_1]) (rest := []) ⟨hx, hb, hml, hown, hts⟩ (r_X8_fail_4 l dC dI L kd tys fr_13 H.size g.2.2.2.1 q0_ mq0_ kq0_ 6 kb_6 r_1) (cwV 2 hts (gV_ t_1215 t_1107 t_1108 t_184 t_1109) rfl rfl rfl (by decide +kernel) ⟨(Nat.le_of_ble_eq_true rfl), (Nat.le_of_ble_eq_true rfl)⟩) (pre3V g hK mq0_ kq0_ (by decide) (q := (RX8, TX8, 10)) rfl) rfl rfl hl.1 rfl (lv_room (Nat.le_of_ble_eq_true rfl)) dX0_openCall_94 ⟨(Nat.le_of_ble_eq_true rfl), (Nat.le_of_ble_eq_true rfl)⟩) g hK (by decide) (by decide) (fx' := [(7, 18, q1_, .int y_6), (0, 11, a0_, .int x_2), (0, 0, a0_, .ref q0_), (0, 2, a0_, .ref q1_)]) rfl (fun fr_24 H locs hp hMr_24 g => ?_)
        obtain ⟨x_25, h_26, hF_27⟩ := hp
        have g := g.more hF_27
        refine lv_iload hx hb dX0_openCall_97 (lv_at hl 0 rfl) ?_
        refine lv_if_ne (tgt := 120) hx hb dX0_openCall_99 (by decide) (fun c_ => absurd c_ (by decide)) (fun c_ => ?_)
        refine lv_aload_n hx hb dX0_openCall_102 rfl (lv_at hl 3 rfl) ?_
        refine lv_iload_n hx hb dX0_openCall_103 rfl (lv_at hl 4 rfl) ?_
        refine lv_iload_n hx hb dX0_openCall_104 rfl (lv_at hl 5 rfl) ?_
        refine lv_iload_n hx hb dX0_openCall_105 rfl (lv_at hl 6 rfl) ?_
        refine g_callv (va_runV (As := [.int x1_, .int x2_, .int x3_]) (rest := []) ⟨hx, hb, hml, hown, hts⟩ (r_X0_push l dC dI L kd tys fr_24 H.size g.2.2.2.1 a0_ ma0_ ka0_ x1_ x2_ x3_) (cwV 3 hts (gV_ t_1221 t_1223 t_19 t_190 t_1224) rfl rfl rfl (by decide +kernel) ⟨(Nat.le_of_ble_eq_true rfl), (Nat.le_of_ble_eq_true rfl)⟩) (pre3V g hK ma0_ ka0_ (by decide) (q := (RX0, TX0, 14)) rfl) rfl rfl hl.1 rfl (lv_room (Nat.le_of_ble_eq_true rfl)) dX0_openCall_106 ⟨(Nat.le_of_ble_eq_true rfl), (Nat.le_of_ble_eq_true rfl)⟩) g hK (by decide) (by decide) (fx' := [(8, 6, q0_, .int 1201), (8, 8, q0_, .int x_25), (7, 18, q1_, .int y_6), (0, 11, a0_, .int x_2), (0, 0, a0_, .ref q0_), (0, 2, a0_, .ref q1_)]) rfl (fun fr_28 H locs hp hMr_28 g => ?_)
        obtain ⟨x_29, h_30, hF_31⟩ := hp
        have g := g.more hF_31
        refine lv_aload_n hx hb dX0_openCall_109 rfl (lv_at hl 3 rfl) ?_
        refine lv_dup hx hb dX0_openCall_110 rfl ?_
        refine g_getk (C := RX0) (T := TX0) (N := 14) hx hb hts (mc_ inX0) hown hK g rfl 11 (by decide) rfl (hts _ (List.mem_cons_of_mem _ t_384)) (fun _ h9 => h9) 4 rfl dX0_openCall_111 ?_
        refine lv_iconst (v := 1) hx hb dX0_openCall_114 (by decide) ?_
        refine lv_iadd hx hb dX0_openCall_115 ?_
        refine lv_topi (fun y_32 ey_32 => ?_)
        have ty_32 := add_bd ey_32 b_4 kb_1 (by decide)
        have b_33 : bd (-2147483647) 40 y_32 := add_rg ty_32 b_4 kb_1 (by decide)
        refine g_put (C := RX0) (T := TX0) (N := 14) hx hb hts (mc_ inX0) tyX0 tyX0_ok nmX0 hown hK g ma0_ ka0_ (by decide) rfl 11 (by decide) (hts _ (List.mem_cons_of_mem _ t_384)) (fun _ h9 => h9) rfl rfl (okV_i (bd_sub b_33 (by decide))) rfl rfl (by decide) (Or.inr (Or.inl (by decide))) (fx' := [(0, 8, a0_, .int x_29), (8, 6, q0_, .int 1201), (8, 8, q0_, .int x_25), (7, 18, q1_, .int y_6), (0, 0, a0_, .ref q0_), (0, 2, a0_, .ref q1_)]) rfl dX0_openCall_116 (fun f H locs hM_34 g => ?_)
        subst hQ
        exact W.vret hx hb hr (fun t ht hW => ⟨⟨_, rfl, Or.inl ⟨x_25, h_26, (g.fcts [2, 3] rfl)⟩, q3_of g hK ht hW⟩, g.2.2.1.F ht⟩) g.2.2.1.2.2 dX0_openCall_119
    · have fc_14 := eq_f c_14
      have b_35 : bd 41 41 r_13 := eqX fc_14 (bdT r_13) kb_41 (by decide)
      refine lv_iconst (v := 1) hx hb dX0_openCall_69 (by decide) ?_
      refine lv_goto (tgt := 74) hx hb dX0_openCall_70 (by decide) ?_
      refine lv_istore (lv' := [(7, .int 1), (6, .int r_12), (5, .int r_1), (0, .ref a0_), (1, .int x1_), (2, .int x2_), (3, .int x3_), (4, .int x4_)]) hx hb dX0_openCall_74 hl (by decide) rfl (fun ls hl => ?_)
      refine lv_iload hx hb dX0_openCall_76 (lv_at hl 7 rfl) ?_
      have kb_0 : bd 0 0 (0 : Int32) := ⟨by decide, by decide⟩
      refine lv_if_ne (tgt := 97) hx hb dX0_openCall_78 (by decide) (fun c_36 => ?_) (fun c_36 => ?_)
      · have fc_36 := neq_f c_36
        refine lv_iload hx hb dX0_openCall_97 (lv_at hl 0 rfl) ?_
        refine lv_if_ne (tgt := 120) hx hb dX0_openCall_99 (by decide) (fun c_ => ?_) (fun c_ => absurd c_ (by decide))
        refine lv_aload_n hx hb dX0_openCall_120 rfl (lv_at hl 3 rfl) ?_
        refine g_getk (C := RX0) (T := TX0) (N := 14) hx hb hts (mc_ inX0) hown hK g rfl 0 (by decide) rfl (hts _ (List.mem_cons_of_mem _ t_373)) (fun _ h9 => h9) 3 rfl dX0_openCall_121 ?_
        refine g_callv (va_runV (As := []) (rest := []) ⟨hx, hb, hml, hown, hts⟩ (r_X8_next l dC dI L kd tys fr_13 H.size g.2.2.2.1 q0_ mq0_ kq0_) (cwV 0 hts (gV_ t_1225 t_1103 t_1104 t_184 t_1105) rfl rfl rfl (by decide +kernel) ⟨(Nat.le_of_ble_eq_true rfl), (Nat.le_of_ble_eq_true rfl)⟩) (pre3V g hK mq0_ kq0_ (by decide) (q := (RX8, TX8, 10)) rfl) rfl rfl hl.1 rfl (lv_room (Nat.le_of_ble_eq_true rfl)) dX0_openCall_124 ⟨(Nat.le_of_ble_eq_true rfl), (Nat.le_of_ble_eq_true rfl)⟩) g hK (by decide) (by decide) (fx' := [(7, 18, q1_, .int y_6), (0, 11, a0_, .int x_2), (0, 0, a0_, .ref q0_), (0, 2, a0_, .ref q1_)]) rfl (fun fr_37 H locs hp hMr_37 g => ?_)
        obtain ⟨x_38, h_39, hF_40⟩ := hp
        have g := g.more hF_40
        refine lv_iload hx hb dX0_openCall_127 (lv_at hl 7 rfl) ?_
        refine lv_if_le (tgt := 143) hx hb dX0_openCall_129 (by decide) (fun c_41 => ?_) (fun c_41 => ?_)
        · have fc_41 := le_f c_41
          have b_42 : bd (-2147483648) 0 x4_ := leL fc_41 (bdT x4_) kb_0 (by decide)
          refine lv_aload_n hx hb dX0_openCall_143 rfl (lv_at hl 3 rfl) ?_
          refine g_getk (C := RX0) (T := TX0) (N := 14) hx hb hts (mc_ inX0) hown hK g rfl 2 (by decide) rfl (hts _ (List.mem_cons_of_mem _ t_375)) (fun _ h9 => h9) 4 rfl dX0_openCall_144 ?_
          refine lv_bipush (v := 13) hx hb dX0_openCall_147 (by decide) ?_
          refine lv_iconst (v := 0) hx hb dX0_openCall_149 (by decide) ?_
          refine g_callv (va_runV (As := [.int 13, .int 0]) (rest := []) ⟨hx, hb, hml, hown, hts⟩ (r_X7_emit l dC dI L kd tys fr_37 H.size g.2.2.2.1 q1_ mq1_ kq1_ 13 0) (cwV 2 hts (gV_ t_1203 t_1204 t_1205 t_191 t_1206) rfl rfl rfl (by decide +kernel) ⟨(Nat.le_of_ble_eq_true rfl), (Nat.le_of_ble_eq_true rfl)⟩) (pre3V g hK mq1_ kq1_ (by decide) (q := (RX7, TX7, 19)) rfl) rfl rfl hl.1 rfl (lv_room (Nat.le_of_ble_eq_true rfl)) dX0_openCall_150 ⟨(Nat.le_of_ble_eq_true rfl), (Nat.le_of_ble_eq_true rfl)⟩) g hK (by decide) (by decide) (fx' := [(8, 6, q0_, .int x_38), (7, 18, q1_, .int y_6), (0, 11, a0_, .int x_2), (0, 0, a0_, .ref q0_), (0, 2, a0_, .ref q1_)]) rfl (fun fr_43 H locs hp hMr_43 g => ?_)
          obtain ⟨x_44, h_45, hF_46⟩ := hp
          have g := g.more hF_46
          refine lv_aload_n hx hb dX0_openCall_153 rfl (lv_at hl 3 rfl) ?_
          refine g_getk (C := RX0) (T := TX0) (N := 14) hx hb hts (mc_ inX0) hown hK g rfl 2 (by decide) rfl (hts _ (List.mem_cons_of_mem _ t_375)) (fun _ h9 => h9) 5 rfl dX0_openCall_154 ?_
          refine lv_iload_n hx hb dX0_openCall_157 rfl (lv_at hl 4 rfl) ?_
          refine lv_iconst (v := 2) hx hb dX0_openCall_158 (by decide) ?_
          have kb_2 : bd 2 2 (2 : Int32) := ⟨by decide, by decide⟩
          refine lv_icmp_ne (tgt := 167) hx hb dX0_openCall_159 (by decide) (fun c_47 => ?_) (fun c_47 => ?_)
          · have fc_47 := neq_f c_47
            refine lv_bipush (v := 18) hx hb dX0_openCall_167 (by decide) ?_
            refine lv_iload_n hx hb dX0_openCall_169 rfl (lv_at hl 6 rfl) ?_
            refine g_callv (va_runV (As := [.int 18, .int x3_]) (rest := []) ⟨hx, hb, hml, hown, hts⟩ (r_X7_emit l dC dI L kd tys fr_43 H.size g.2.2.2.1 q1_ mq1_ kq1_ 18 x3_) (cwV 2 hts (gV_ t_1203 t_1204 t_1205 t_191 t_1206) rfl rfl rfl (by decide +kernel) ⟨(Nat.le_of_ble_eq_true rfl), (Nat.le_of_ble_eq_true rfl)⟩) (pre3V g hK mq1_ kq1_ (by decide) (q := (RX7, TX7, 19)) rfl) rfl rfl hl.1 rfl (lv_room (Nat.le_of_ble_eq_true rfl)) dX0_openCall_170 ⟨(Nat.le_of_ble_eq_true rfl), (Nat.le_of_ble_eq_true rfl)⟩) g hK (by decide) (by decide) (fx' := [(8, 6, q0_, .int x_38), (7, 18, q1_, .int y_6), (0, 11, a0_, .int x_2), (0, 0, a0_, .ref q0_), (0, 2, a0_, .ref q1_)]) rfl (fun fr_48 H locs hp hMr_48 g => ?_)
            obtain ⟨x_49, h_50, hF_51⟩ := hp
            have g := g.more hF_51
            refine lv_aload_n hx hb dX0_openCall_173 rfl (lv_at hl 3 rfl) ?_
            refine lv_iconst (v := 1) hx hb dX0_openCall_174 (by decide) ?_
            refine g_callv (va_runV (As := [.int 1]) (rest := []) ⟨hx, hb, hml, hown, hts⟩ (r_X0_addWhole l dC dI L kd tys fr_48 H.size g.2.2.2.1 a0_ ma0_ ka0_ 1) (cwV 1 hts (gV_ t_1211 t_1213 t_17 t_190 t_1214) rfl rfl rfl (by decide +kernel) ⟨(Nat.le_of_ble_eq_true rfl), (Nat.le_of_ble_eq_true rfl)⟩) (pre3V g hK ma0_ ka0_ (by decide) (q := (RX0, TX0, 14)) rfl) rfl rfl hl.1 rfl (lv_room (Nat.le_of_ble_eq_true rfl)) dX0_openCall_175 ⟨(Nat.le_of_ble_eq_true rfl), (Nat.le_of_ble_eq_true rfl)⟩) g hK (by decide) (by decide) (fx' := [(7, 6, q1_, .int x_49), (8, 6, q0_, .int x_38), (7, 18, q1_, .int y_6), (0, 11, a0_, .int x_2), (0, 0, a0_, .ref q0_), (0, 2, a0_, .ref q1_)]) rfl (fun fr_52 H locs hp hMr_52 g => ?_)
            obtain ⟨x_53, h_54, hF_55⟩ := hp
            have g := g.more hF_55
            subst hQ
            exact W.vret hx hb hr (fun t ht hW => ⟨⟨_, rfl, Or.inr (⟨x_2, (bd_sub b_4 (by decide)), x_38, h_39, (g.fcts [5, 3] rfl)⟩), q3_of g hK ht hW⟩, g.2.2.1.F ht⟩) g.2.2.1.2.2 dX0_openCall_178
          · have fc_47 := eq_f c_47
            have b_56 : bd 2 2 x1_ := eqX fc_47 (bdT x1_) kb_2 (by decide)
            refine lv_bipush (v := 17) hx hb dX0_openCall_162 (by decide) ?_
            refine lv_goto (tgt := 169) hx hb dX0_openCall_164 (by decide) ?_
            refine lv_iload_n hx hb dX0_openCall_169 rfl (lv_at hl 6 rfl) ?_
            refine g_callv (va_runV (As := [.int 17, .int x3_]) (rest := []) ⟨hx, hb, hml, hown, hts⟩ (r_X7_emit l dC dI L kd tys fr_43 H.size g.2.2.2.1 q1_ mq1_ kq1_ 17 x3_) (cwV 2 hts (gV_ t_1203 t_1204 t_1205 t_191 t_1206) rfl rfl rfl (by decide +kernel) ⟨(Nat.le_of_ble_eq_true rfl), (Nat.le_of_ble_eq_true rfl)⟩) (pre3V g hK mq1_ kq1_ (by decide) (q := (RX7, TX7, 19)) rfl) rfl rfl hl.1 rfl (lv_room (Nat.le_of_ble_eq_true rfl)) dX0_openCall_170 ⟨(Nat.le_of_ble_eq_true rfl), (Nat.le_of_ble_eq_true rfl)⟩) g hK (by decide) (by decide) (fx' := [(8, 6, q0_, .int x_38), (7, 18, q1_, .int y_6), (0, 11, a0_, .int x_2), (0, 0, a0_, .ref q0_), (0, 2, a0_, .ref q1_)]) rfl (fun fr_57 H locs hp hMr_57 g => ?_)
            obtain ⟨x_58, h_59, hF_60⟩ := hp
            have g := g.more hF_60
            refine lv_aload_n hx hb dX0_openCall_173 rfl (lv_at hl 3 rfl) ?_
            refine lv_iconst (v := 1) hx hb dX0_openCall_174 (by decide) ?_
            refine g_callv (va_runV (As := [.int 1]) (rest := []) ⟨hx, hb, hml, hown, hts⟩ (r_X0_addWhole l dC dI L kd tys fr_57 H.size g.2.2.2.1 a0_ ma0_ ka0_ 1) (cwV 1 hts (gV_ t_1211 t_1213 t_17 t_190 t_1214) rfl rfl rfl (by decide +kernel) ⟨(Nat.le_of_ble_eq_true rfl), (Nat.le_of_ble_eq_true rfl)⟩) (pre3V g hK ma0_ ka0_ (by decide) (q := (RX0, TX0, 14)) rfl) rfl rfl hl.1 rfl (lv_room (Nat.le_of_ble_eq_true rfl)) dX0_openCall_175 ⟨(Nat.le_of_ble_eq_true rfl), (Nat.le_of_ble_eq_true rfl)⟩) g hK (by decide) (by decide) (fx' := [(7, 6, q1_, .int x_58), (8, 6, q0_, .int x_38), (7, 18, q1_, .int y_6), (0, 11, a0_, .int x_2), (0, 0, a0_, .ref q0_), (0, 2, a0_, .ref q1_)]) rfl (fun fr_61 H locs hp hMr_61 g => ?_)
            obtain ⟨x_62, h_63, hF_64⟩ := hp
            have g := g.more hF_64
            subst hQ
            exact W.vret hx hb hr (fun t ht hW => ⟨⟨_, rfl, Or.inr (⟨x_2, (bd_sub b_4 (by decide)), x_38, h_39, (g.fcts [5, 3] rfl)⟩), q3_of g hK ht hW⟩, g.2.2.1.F ht⟩) g.2.2.1.2.2 dX0_openCall_178
        · have fc_41 := nle_f c_41
          have b_65 : bd 1 2147483647 x4_ := ltR fc_41 kb_0 (bdT x4_) (by decide)
          refine lv_aload_n hx hb dX0_openCall_132 rfl (lv_at hl 3 rfl) ?_
          refine g_getk (C := RX0) (T := TX0) (N := 14) hx hb hts (mc_ inX0) hown hK g rfl 0 (by decide) rfl (hts _ (List.mem_cons_of_mem _ t_373)) (fun _ h9 => h9) 3 rfl dX0_openCall_133 ?_
          refine lv_bipush (v := 6) hx hb dX0_openCall_136 (by decide) ?_
          refine lv_iload hx hb dX0_openCall_138 (lv_at hl 1 rfl) ?_
          have kb_6 : bd 6 6 (6 : Int32) := ⟨by decide, by decide⟩
          refine g_callv (va_runV (As := [.int 6, .int r_12]) (rest := []) ⟨hx, hb, hml, hown, hts⟩ (r_X8_fail_4 l dC dI L kd tys fr_37 H.size g.2.2.2.1 q0_ mq0_ kq0_ 6 kb_6 r_12) (cwV 2 hts (gV_ t_1215 t_1107 t_1108 t_184 t_1109) rfl rfl rfl (by decide +kernel) ⟨(Nat.le_of_ble_eq_true rfl), (Nat.le_of_ble_eq_true rfl)⟩) (pre3V g hK mq0_ kq0_ (by decide) (q := (RX8, TX8, 10)) rfl) rfl rfl hl.1 rfl (lv_room (Nat.le_of_ble_eq_true rfl)) dX0_openCall_140 ⟨(Nat.le_of_ble_eq_true rfl), (Nat.le_of_ble_eq_true rfl)⟩) g hK (by decide) (by decide) (fx' := [(7, 18, q1_, .int y_6), (0, 11, a0_, .int x_2), (0, 0, a0_, .ref q0_), (0, 2, a0_, .ref q1_)]) rfl (fun fr_66 H locs hp hMr_66 g => ?_)
          obtain ⟨x_67, h_68, hF_69⟩ := hp
          have g := g.more hF_69
          refine lv_aload_n hx hb dX0_openCall_143 rfl (lv_at hl 3 rfl) ?_
          refine g_getk (C := RX0) (T := TX0) (N := 14) hx hb hts (mc_ inX0) hown hK g rfl 2 (by decide) rfl (hts _ (List.mem_cons_of_mem _ t_375)) (fun _ h9 => h9) 5 rfl dX0_openCall_144 ?_
          refine lv_bipush (v := 13) hx hb dX0_openCall_147 (by decide) ?_
          refine lv_iconst (v := 0) hx hb dX0_openCall_149 (by decide) ?_
          refine g_callv (va_runV (As := [.int 13, .int 0]) (rest := []) ⟨hx, hb, hml, hown, hts⟩ (r_X7_emit l dC dI L kd tys fr_66 H.size g.2.2.2.1 q1_ mq1_ kq1_ 13 0) (cwV 2 hts (gV_ t_1203 t_1204 t_1205 t_191 t_1206) rfl rfl rfl (by decide +kernel) ⟨(Nat.le_of_ble_eq_true rfl), (Nat.le_of_ble_eq_true rfl)⟩) (pre3V g hK mq1_ kq1_ (by decide) (q := (RX7, TX7, 19)) rfl) rfl rfl hl.1 rfl (lv_room (Nat.le_of_ble_eq_true rfl)) dX0_openCall_150 ⟨(Nat.le_of_ble_eq_true rfl), (Nat.le_of_ble_eq_true rfl)⟩) g hK (by decide) (by decide) (fx' := [(8, 6, q0_, .int 1201), (8, 8, q0_, .int x_67), (7, 18, q1_, .int y_6), (0, 11, a0_, .int x_2), (0, 0, a0_, .ref q0_), (0, 2, a0_, .ref q1_)]) rfl (fun fr_70 H locs hp hMr_70 g => ?_)
          obtain ⟨x_71, h_72, hF_73⟩ := hp
          have g := g.more hF_73
          refine lv_aload_n hx hb dX0_openCall_153 rfl (lv_at hl 3 rfl) ?_
          refine g_getk (C := RX0) (T := TX0) (N := 14) hx hb hts (mc_ inX0) hown hK g rfl 2 (by decide) rfl (hts _ (List.mem_cons_of_mem _ t_375)) (fun _ h9 => h9) 6 rfl dX0_openCall_154 ?_
          refine lv_iload_n hx hb dX0_openCall_157 rfl (lv_at hl 4 rfl) ?_
          refine lv_iconst (v := 2) hx hb dX0_openCall_158 (by decide) ?_
          have kb_2 : bd 2 2 (2 : Int32) := ⟨by decide, by decide⟩
          refine lv_icmp_ne (tgt := 167) hx hb dX0_openCall_159 (by decide) (fun c_74 => ?_) (fun c_74 => ?_)
          · have fc_74 := neq_f c_74
            refine lv_bipush (v := 18) hx hb dX0_openCall_167 (by decide) ?_
            refine lv_iload_n hx hb dX0_openCall_169 rfl (lv_at hl 6 rfl) ?_
            refine g_callv (va_runV (As := [.int 18, .int x3_]) (rest := []) ⟨hx, hb, hml, hown, hts⟩ (r_X7_emit l dC dI L kd tys fr_70 H.size g.2.2.2.1 q1_ mq1_ kq1_ 18 x3_) (cwV 2 hts (gV_ t_1203 t_1204 t_1205 t_191 t_1206) rfl rfl rfl (by decide +kernel) ⟨(Nat.le_of_ble_eq_true rfl), (Nat.le_of_ble_eq_true rfl)⟩) (pre3V g hK mq1_ kq1_ (by decide) (q := (RX7, TX7, 19)) rfl) rfl rfl hl.1 rfl (lv_room (Nat.le_of_ble_eq_true rfl)) dX0_openCall_170 ⟨(Nat.le_of_ble_eq_true rfl), (Nat.le_of_ble_eq_true rfl)⟩) g hK (by decide) (by decide) (fx' := [(8, 6, q0_, .int 1201), (8, 8, q0_, .int x_67), (7, 18, q1_, .int y_6), (0, 11, a0_, .int x_2), (0, 0, a0_, .ref q0_), (0, 2, a0_, .ref q1_)]) rfl (fun fr_75 H locs hp hMr_75 g => ?_)
            obtain ⟨x_76, h_77, hF_78⟩ := hp
            have g := g.more hF_78
            refine lv_aload_n hx hb dX0_openCall_173 rfl (lv_at hl 3 rfl) ?_
            refine lv_iconst (v := 1) hx hb dX0_openCall_174 (by decide) ?_
            refine g_callv (va_runV (As := [.int 1]) (rest := []) ⟨hx, hb, hml, hown, hts⟩ (r_X0_addWhole l dC dI L kd tys fr_75 H.size g.2.2.2.1 a0_ ma0_ ka0_ 1) (cwV 1 hts (gV_ t_1211 t_1213 t_17 t_190 t_1214) rfl rfl rfl (by decide +kernel) ⟨(Nat.le_of_ble_eq_true rfl), (Nat.le_of_ble_eq_true rfl)⟩) (pre3V g hK ma0_ ka0_ (by decide) (q := (RX0, TX0, 14)) rfl) rfl rfl hl.1 rfl (lv_room (Nat.le_of_ble_eq_true rfl)) dX0_openCall_175 ⟨(Nat.le_of_ble_eq_true rfl), (Nat.le_of_ble_eq_true rfl)⟩) g hK (by decide) (by decide) (fx' := [(7, 6, q1_, .int x_76), (8, 6, q0_, .int 1201), (8, 8, q0_, .int x_67), (7, 18, q1_, .int y_6), (0, 11, a0_, .int x_2), (0, 0, a0_, .ref q0_), (0, 2, a0_, .ref q1_)]) rfl (fun fr_79 H locs hp hMr_79 g => ?_)
            obtain ⟨x_80, h_81, hF_82⟩ := hp
            have g := g.more hF_82
            subst hQ
            exact W.vret hx hb hr (fun t ht hW => ⟨⟨_, rfl, Or.inl ⟨x_67, h_68, (g.fcts [3, 4] rfl)⟩, q3_of g hK ht hW⟩, g.2.2.1.F ht⟩) g.2.2.1.2.2 dX0_openCall_178
          · have fc_74 := eq_f c_74
            have b_83 : bd 2 2 x1_ := eqX fc_74 (bdT x1_) kb_2 (by decide)
            refine lv_bipush (v := 17) hx hb dX0_openCall_162 (by decide) ?_
            refine lv_goto (tgt := 169) hx hb dX0_openCall_164 (by decide) ?_
            refine lv_iload_n hx hb dX0_openCall_169 rfl (lv_at hl 6 rfl) ?_
            refine g_callv (va_runV (As := [.int 17, .int x3_]) (rest := []) ⟨hx, hb, hml, hown, hts⟩ (r_X7_emit l dC dI L kd tys fr_70 H.size g.2.2.2.1 q1_ mq1_ kq1_ 17 x3_) (cwV 2 hts (gV_ t_1203 t_1204 t_1205 t_191 t_1206) rfl rfl rfl (by decide +kernel) ⟨(Nat.le_of_ble_eq_true rfl), (Nat.le_of_ble_eq_true rfl)⟩) (pre3V g hK mq1_ kq1_ (by decide) (q := (RX7, TX7, 19)) rfl) rfl rfl hl.1 rfl (lv_room (Nat.le_of_ble_eq_true rfl)) dX0_openCall_170 ⟨(Nat.le_of_ble_eq_true rfl), (Nat.le_of_ble_eq_true rfl)⟩) g hK (by decide) (by decide) (fx' := [(8, 6, q0_, .int 1201), (8, 8, q0_, .int x_67), (7, 18, q1_, .int y_6), (0, 11, a0_, .int x_2), (0, 0, a0_, .ref q0_), (0, 2, a0_, .ref q1_)]) rfl (fun fr_84 H locs hp hMr_84 g => ?_)
            obtain ⟨x_85, h_86, hF_87⟩ := hp
            have g := g.more hF_87
            refine lv_aload_n hx hb dX0_openCall_173 rfl (lv_at hl 3 rfl) ?_
            refine lv_iconst (v := 1) hx hb dX0_openCall_174 (by decide) ?_
            refine g_callv (va_runV (As := [.int 1]) (rest := []) ⟨hx, hb, hml, hown, hts⟩ (r_X0_addWhole l dC dI L kd tys fr_84 H.size g.2.2.2.1 a0_ ma0_ ka0_ 1) (cwV 1 hts (gV_ t_1211 t_1213 t_17 t_190 t_1214) rfl rfl rfl (by decide +kernel) ⟨(Nat.le_of_ble_eq_true rfl), (Nat.le_of_ble_eq_true rfl)⟩) (pre3V g hK ma0_ ka0_ (by decide) (q := (RX0, TX0, 14)) rfl) rfl rfl hl.1 rfl (lv_room (Nat.le_of_ble_eq_true rfl)) dX0_openCall_175 ⟨(Nat.le_of_ble_eq_true rfl), (Nat.le_of_ble_eq_true rfl)⟩) g hK (by decide) (by decide) (fx' := [(7, 6, q1_, .int x_85), (8, 6, q0_, .int 1201), (8, 8, q0_, .int x_67), (7, 18, q1_, .int y_6), (0, 11, a0_, .int x_2), (0, 0, a0_, .ref q0_), (0, 2, a0_, .ref q1_)]) rfl (fun fr_88 H locs hp hMr_88 g => ?_)
            obtain ⟨x_89, h_90, hF_91⟩ := hp
            have g := g.more hF_91
            subst hQ
            exact W.vret hx hb hr (fun t ht hW => ⟨⟨_, rfl, Or.inl ⟨x_67, h_68, (g.fcts [3, 4] rfl)⟩, q3_of g hK ht hW⟩, g.2.2.1.F ht⟩) g.2.2.1.2.2 dX0_openCall_178
      · have fc_36 := eq_f c_36
        have b_92 : bd 0 0 x4_ := eqX fc_36 (bdT x4_) kb_0 (by decide)
        refine lv_iload hx hb dX0_openCall_81 (lv_at hl 0 rfl) ?_
        refine lv_if_ne (tgt := 97) hx hb dX0_openCall_83 (by decide) (fun c_ => ?_) (fun c_ => absurd c_ (by decide))
        refine lv_iload hx hb dX0_openCall_97 (lv_at hl 0 rfl) ?_
        refine lv_if_ne (tgt := 120) hx hb dX0_openCall_99 (by decide) (fun c_ => ?_) (fun c_ => absurd c_ (by decide))
        refine lv_aload_n hx hb dX0_openCall_120 rfl (lv_at hl 3 rfl) ?_
        refine g_getk (C := RX0) (T := TX0) (N := 14) hx hb hts (mc_ inX0) hown hK g rfl 0 (by decide) rfl (hts _ (List.mem_cons_of_mem _ t_373)) (fun _ h9 => h9) 3 rfl dX0_openCall_121 ?_
        refine g_callv (va_runV (As := []) (rest := []) ⟨hx, hb, hml, hown, hts⟩ (r_X8_next l dC dI L kd tys fr_13 H.size g.2.2.2.1 q0_ mq0_ kq0_) (cwV 0 hts (gV_ t_1225 t_1103 t_1104 t_184 t_1105) rfl rfl rfl (by decide +kernel) ⟨(Nat.le_of_ble_eq_true rfl), (Nat.le_of_ble_eq_true rfl)⟩) (pre3V g hK mq0_ kq0_ (by decide) (q := (RX8, TX8, 10)) rfl) rfl rfl hl.1 rfl (lv_room (Nat.le_of_ble_eq_true rfl)) dX0_openCall_124 ⟨(Nat.le_of_ble_eq_true rfl), (Nat.le_of_ble_eq_true rfl)⟩) g hK (by decide) (by decide) (fx' := [(7, 18, q1_, .int y_6), (0, 11, a0_, .int x_2), (0, 0, a0_, .ref q0_), (0, 2, a0_, .ref q1_)]) rfl (fun fr_93 H locs hp hMr_93 g => ?_)
        obtain ⟨x_94, h_95, hF_96⟩ := hp
        have g := g.more hF_96
        refine lv_iload hx hb dX0_openCall_127 (lv_at hl 7 rfl) ?_
        refine lv_if_le (tgt := 143) hx hb dX0_openCall_129 (by decide) (fun c_97 => ?_) (fun c_97 => ?_)
        · have fc_97 := le_f c_97
          refine lv_aload_n hx hb dX0_openCall_143 rfl (lv_at hl 3 rfl) ?_
          refine g_getk (C := RX0) (T := TX0) (N := 14) hx hb hts (mc_ inX0) hown hK g rfl 2 (by decide) rfl (hts _ (List.mem_cons_of_mem _ t_375)) (fun _ h9 => h9) 4 rfl dX0_openCall_144 ?_
          refine lv_bipush (v := 13) hx hb dX0_openCall_147 (by decide) ?_
          refine lv_iconst (v := 0) hx hb dX0_openCall_149 (by decide) ?_
          refine g_callv (va_runV (As := [.int 13, .int 0]) (rest := []) ⟨hx, hb, hml, hown, hts⟩ (r_X7_emit l dC dI L kd tys fr_93 H.size g.2.2.2.1 q1_ mq1_ kq1_ 13 0) (cwV 2 hts (gV_ t_1203 t_1204 t_1205 t_191 t_1206) rfl rfl rfl (by decide +kernel) ⟨(Nat.le_of_ble_eq_true rfl), (Nat.le_of_ble_eq_true rfl)⟩) (pre3V g hK mq1_ kq1_ (by decide) (q := (RX7, TX7, 19)) rfl) rfl rfl hl.1 rfl (lv_room (Nat.le_of_ble_eq_true rfl)) dX0_openCall_150 ⟨(Nat.le_of_ble_eq_true rfl), (Nat.le_of_ble_eq_true rfl)⟩) g hK (by decide) (by decide) (fx' := [(8, 6, q0_, .int x_94), (7, 18, q1_, .int y_6), (0, 11, a0_, .int x_2), (0, 0, a0_, .ref q0_), (0, 2, a0_, .ref q1_)]) rfl (fun fr_98 H locs hp hMr_98 g => ?_)
          obtain ⟨x_99, h_100, hF_101⟩ := hp
          have g := g.more hF_101
          refine lv_aload_n hx hb dX0_openCall_153 rfl (lv_at hl 3 rfl) ?_
          refine g_getk (C := RX0) (T := TX0) (N := 14) hx hb hts (mc_ inX0) hown hK g rfl 2 (by decide) rfl (hts _ (List.mem_cons_of_mem _ t_375)) (fun _ h9 => h9) 5 rfl dX0_openCall_154 ?_
          refine lv_iload_n hx hb dX0_openCall_157 rfl (lv_at hl 4 rfl) ?_
          refine lv_iconst (v := 2) hx hb dX0_openCall_158 (by decide) ?_
          have kb_2 : bd 2 2 (2 : Int32) := ⟨by decide, by decide⟩
          refine lv_icmp_ne (tgt := 167) hx hb dX0_openCall_159 (by decide) (fun c_102 => ?_) (fun c_102 => ?_)
          · have fc_102 := neq_f c_102
            refine lv_bipush (v := 18) hx hb dX0_openCall_167 (by decide) ?_
            refine lv_iload_n hx hb dX0_openCall_169 rfl (lv_at hl 6 rfl) ?_
            refine g_callv (va_runV (As := [.int 18, .int x3_]) (rest := []) ⟨hx, hb, hml, hown, hts⟩ (r_X7_emit l dC dI L kd tys fr_98 H.size g.2.2.2.1 q1_ mq1_ kq1_ 18 x3_) (cwV 2 hts (gV_ t_1203 t_1204 t_1205 t_191 t_1206) rfl rfl rfl (by decide +kernel) ⟨(Nat.le_of_ble_eq_true rfl), (Nat.le_of_ble_eq_true rfl)⟩) (pre3V g hK mq1_ kq1_ (by decide) (q := (RX7, TX7, 19)) rfl) rfl rfl hl.1 rfl (lv_room (Nat.le_of_ble_eq_true rfl)) dX0_openCall_170 ⟨(Nat.le_of_ble_eq_true rfl), (Nat.le_of_ble_eq_true rfl)⟩) g hK (by decide) (by decide) (fx' := [(8, 6, q0_, .int x_94), (7, 18, q1_, .int y_6), (0, 11, a0_, .int x_2), (0, 0, a0_, .ref q0_), (0, 2, a0_, .ref q1_)]) rfl (fun fr_103 H locs hp hMr_103 g => ?_)
            obtain ⟨x_104, h_105, hF_106⟩ := hp
            have g := g.more hF_106
            refine lv_aload_n hx hb dX0_openCall_173 rfl (lv_at hl 3 rfl) ?_
            refine lv_iconst (v := 1) hx hb dX0_openCall_174 (by decide) ?_
            refine g_callv (va_runV (As := [.int 1]) (rest := []) ⟨hx, hb, hml, hown, hts⟩ (r_X0_addWhole l dC dI L kd tys fr_103 H.size g.2.2.2.1 a0_ ma0_ ka0_ 1) (cwV 1 hts (gV_ t_1211 t_1213 t_17 t_190 t_1214) rfl rfl rfl (by decide +kernel) ⟨(Nat.le_of_ble_eq_true rfl), (Nat.le_of_ble_eq_true rfl)⟩) (pre3V g hK ma0_ ka0_ (by decide) (q := (RX0, TX0, 14)) rfl) rfl rfl hl.1 rfl (lv_room (Nat.le_of_ble_eq_true rfl)) dX0_openCall_175 ⟨(Nat.le_of_ble_eq_true rfl), (Nat.le_of_ble_eq_true rfl)⟩) g hK (by decide) (by decide) (fx' := [(7, 6, q1_, .int x_104), (8, 6, q0_, .int x_94), (7, 18, q1_, .int y_6), (0, 11, a0_, .int x_2), (0, 0, a0_, .ref q0_), (0, 2, a0_, .ref q1_)]) rfl (fun fr_107 H locs hp hMr_107 g => ?_)
            obtain ⟨x_108, h_109, hF_110⟩ := hp
            have g := g.more hF_110
            subst hQ
            exact W.vret hx hb hr (fun t ht hW => ⟨⟨_, rfl, Or.inr (⟨x_2, (bd_sub b_4 (by decide)), x_94, h_95, (g.fcts [5, 3] rfl)⟩), q3_of g hK ht hW⟩, g.2.2.1.F ht⟩) g.2.2.1.2.2 dX0_openCall_178
          · have fc_102 := eq_f c_102
            have b_111 : bd 2 2 x1_ := eqX fc_102 (bdT x1_) kb_2 (by decide)
            refine lv_bipush (v := 17) hx hb dX0_openCall_162 (by decide) ?_
            refine lv_goto (tgt := 169) hx hb dX0_openCall_164 (by decide) ?_
            refine lv_iload_n hx hb dX0_openCall_169 rfl (lv_at hl 6 rfl) ?_
            refine g_callv (va_runV (As := [.int 17, .int x3_]) (rest := []) ⟨hx, hb, hml, hown, hts⟩ (r_X7_emit l dC dI L kd tys fr_98 H.size g.2.2.2.1 q1_ mq1_ kq1_ 17 x3_) (cwV 2 hts (gV_ t_1203 t_1204 t_1205 t_191 t_1206) rfl rfl rfl (by decide +kernel) ⟨(Nat.le_of_ble_eq_true rfl), (Nat.le_of_ble_eq_true rfl)⟩) (pre3V g hK mq1_ kq1_ (by decide) (q := (RX7, TX7, 19)) rfl) rfl rfl hl.1 rfl (lv_room (Nat.le_of_ble_eq_true rfl)) dX0_openCall_170 ⟨(Nat.le_of_ble_eq_true rfl), (Nat.le_of_ble_eq_true rfl)⟩) g hK (by decide) (by decide) (fx' := [(8, 6, q0_, .int x_94), (7, 18, q1_, .int y_6), (0, 11, a0_, .int x_2), (0, 0, a0_, .ref q0_), (0, 2, a0_, .ref q1_)]) rfl (fun fr_112 H locs hp hMr_112 g => ?_)
            obtain ⟨x_113, h_114, hF_115⟩ := hp
            have g := g.more hF_115
            refine lv_aload_n hx hb dX0_openCall_173 rfl (lv_at hl 3 rfl) ?_
            refine lv_iconst (v := 1) hx hb dX0_openCall_174 (by decide) ?_
            refine g_callv (va_runV (As := [.int 1]) (rest := []) ⟨hx, hb, hml, hown, hts⟩ (r_X0_addWhole l dC dI L kd tys fr_112 H.size g.2.2.2.1 a0_ ma0_ ka0_ 1) (cwV 1 hts (gV_ t_1211 t_1213 t_17 t_190 t_1214) rfl rfl rfl (by decide +kernel) ⟨(Nat.le_of_ble_eq_true rfl), (Nat.le_of_ble_eq_true rfl)⟩) (pre3V g hK ma0_ ka0_ (by decide) (q := (RX0, TX0, 14)) rfl) rfl rfl hl.1 rfl (lv_room (Nat.le_of_ble_eq_true rfl)) dX0_openCall_175 ⟨(Nat.le_of_ble_eq_true rfl), (Nat.le_of_ble_eq_true rfl)⟩) g hK (by decide) (by decide) (fx' := [(7, 6, q1_, .int x_113), (8, 6, q0_, .int x_94), (7, 18, q1_, .int y_6), (0, 11, a0_, .int x_2), (0, 0, a0_, .ref q0_), (0, 2, a0_, .ref q1_)]) rfl (fun fr_116 H locs hp hMr_116 g => ?_)
            obtain ⟨x_117, h_118, hF_119⟩ := hp
            have g := g.more hF_119
            subst hQ
            exact W.vret hx hb hr (fun t ht hW => ⟨⟨_, rfl, Or.inr (⟨x_2, (bd_sub b_4 (by decide)), x_94, h_95, (g.fcts [5, 3] rfl)⟩), q3_of g hK ht hW⟩, g.2.2.1.F ht⟩) g.2.2.1.2.2 dX0_openCall_178
        · have fc_97 := nle_f c_97
          have b_120 : bd 0 (-1) (0 : Int32) := ltL fc_97 kb_0 b_92 (by decide)
          exact bd_no (eqX rfl b_120 kb_0 (lo := 0) (hi := (-1)) (by decide)) (by decide)
  · have fc_3 := nlt_f c_3
    have b_121 : bd 40 2147483647 x_2 := leR fc_3 kb_40 (bdT x_2) (by decide)
    refine lv_aload_n hx hb dX0_openCall_18 rfl (lv_at hl 1 rfl) ?_
    refine g_getk (C := RX0) (T := TX0) (N := 14) hx hb hts (mc_ inX0) hown hK g rfl 0 (by decide) rfl (hts _ (List.mem_cons_of_mem _ t_373)) (fun _ h9 => h9) 1 rfl dX0_openCall_19 ?_
    refine lv_iconst (v := 4) hx hb dX0_openCall_22 (by decide) ?_
    refine lv_iload hx hb dX0_openCall_23 (lv_at hl 0 rfl) ?_
    have kb_4 : bd 4 4 (4 : Int32) := ⟨by decide, by decide⟩
    refine g_callv (va_runV (As := [.int 4, .int r_1]) (rest := []) ⟨hx, hb, hml, hown, hts⟩ (r_X8_fail l dC dI L kd tys fr_1 H.size g.2.2.2.1 q0_ mq0_ kq0_ 4 kb_4 r_1) (cwV 2 hts (gV_ t_1215 t_1107 t_1108 t_184 t_1109) rfl rfl rfl (by decide +kernel) ⟨(Nat.le_of_ble_eq_true rfl), (Nat.le_of_ble_eq_true rfl)⟩) (pre3V g hK mq0_ kq0_ (by decide) (q := (RX8, TX8, 10)) rfl) rfl rfl hl.1 rfl (lv_room (Nat.le_of_ble_eq_true rfl)) dX0_openCall_25 ⟨(Nat.le_of_ble_eq_true rfl), (Nat.le_of_ble_eq_true rfl)⟩) g hK (by decide) (by decide) (fx' := [(0, 11, a0_, .int x_2), (0, 0, a0_, .ref q0_), (0, 2, a0_, .ref q1_)]) rfl (fun fr_122 H locs hp hMr_122 g => ?_)
    obtain ⟨x_123, h_124, hF_125⟩ := hp
    have g := g.more hF_125
    refine lv_aload_n hx hb dX0_openCall_28 rfl (lv_at hl 1 rfl) ?_
    refine g_getk (C := RX0) (T := TX0) (N := 14) hx hb hts (mc_ inX0) hown hK g rfl 2 (by decide) rfl (hts _ (List.mem_cons_of_mem _ t_375)) (fun _ h9 => h9) 4 rfl dX0_openCall_29 ?_
    refine lv_dup hx hb dX0_openCall_32 rfl ?_
    refine g_geti (C := RX7) (T := TX7) (N := 19) hx hb hts (mc_ inX7) hown hK g mq1_ kq1_ (by decide) rfl 18 (by decide) rfl (hts _ (List.mem_cons_of_mem _ t_681)) (fun _ h9 => h9) rfl dX0_openCall_33 (fun x_126 bx_126 g => ?_)
    refine lv_iconst (v := 1) hx hb dX0_openCall_36 (by decide) ?_
    have kb_1 : bd 1 1 (1 : Int32) := ⟨by decide, by decide⟩
    refine lv_iadd hx hb dX0_openCall_37 ?_
    refine lv_topi (fun y_127 ey_127 => ?_)
    refine g_put (C := RX7) (T := TX7) (N := 19) hx hb hts (mc_ inX7) tyX7 tyX7_ok nmX7 hown hK g mq1_ kq1_ (by decide) rfl 18 (by decide) (hts _ (List.mem_cons_of_mem _ t_681)) (fun _ h9 => h9) rfl rfl (okV_i (bdT y_127)) rfl rfl (by decide) (Or.inr (Or.inl (by decide))) (fx' := [(8, 6, q0_, .int 1201), (8, 8, q0_, .int x_123), (0, 11, a0_, .int x_2), (0, 0, a0_, .ref q0_), (0, 2, a0_, .ref q1_)]) rfl dX0_openCall_38 (fun f H locs hM_128 g => ?_)
    refine lv_aload_n hx hb dX0_openCall_41 rfl (lv_at hl 1 rfl) ?_
    refine g_getk (C := RX0) (T := TX0) (N := 14) hx hb hts (mc_ inX0) hown hK g rfl 0 (by decide) rfl (hts _ (List.mem_cons_of_mem _ t_373)) (fun _ h9 => h9) 4 rfl dX0_openCall_42 ?_
    have kb_1201 : bd 1201 1201 (1201 : Int32) := ⟨by decide, by decide⟩
    refine g_callv (va_runV (As := []) (rest := []) ⟨hx, hb, hml, hown, hts⟩ (r_X8_next_2 l dC dI L kd tys f H.size g.2.2.2.1 q0_ mq0_ kq0_ 1201 kb_1201 (g.fcts [1] rfl)) (cwV 0 hts (gV_ t_1225 t_1103 t_1104 t_184 t_1105) rfl rfl rfl (by decide +kernel) ⟨(Nat.le_of_ble_eq_true rfl), (Nat.le_of_ble_eq_true rfl)⟩) (pre3V g hK mq0_ kq0_ (by decide) (q := (RX8, TX8, 10)) rfl) rfl rfl hl.1 rfl (lv_room (Nat.le_of_ble_eq_true rfl)) dX0_openCall_45 ⟨(Nat.le_of_ble_eq_true rfl), (Nat.le_of_ble_eq_true rfl)⟩) g hK (by decide) (by decide) (fx' := [(7, 18, q1_, .int y_127), (8, 6, q0_, .int 1201), (8, 8, q0_, .int x_123), (0, 11, a0_, .int x_2), (0, 0, a0_, .ref q0_), (0, 2, a0_, .ref q1_)]) rfl (fun fr_129 H locs hp hMr_129 g => ?_)
    refine lv_aload_n hx hb dX0_openCall_48 rfl (lv_at hl 1 rfl) ?_
    refine g_getk (C := RX0) (T := TX0) (N := 14) hx hb hts (mc_ inX0) hown hK g rfl 0 (by decide) rfl (hts _ (List.mem_cons_of_mem _ t_373)) (fun _ h9 => h9) 4 rfl dX0_openCall_49 ?_
    refine g_calli (va_runV (As := []) (rest := []) ⟨hx, hb, hml, hown, hts⟩ (r_X8_place l dC dI L kd tys fr_129 H.size g.2.2.2.1 q0_ mq0_ kq0_) (cwV 0 hts (gV_ t_1220 t_1111 t_1112 t_184 t_1113) rfl rfl rfl (by decide +kernel) ⟨(Nat.le_of_ble_eq_true rfl), (Nat.le_of_ble_eq_true rfl)⟩) (pre3V g hK mq0_ kq0_ (by decide) (q := (RX8, TX8, 10)) rfl) rfl rfl hl.1 rfl (lv_room (Nat.le_of_ble_eq_true rfl)) dX0_openCall_52 ⟨(Nat.le_of_ble_eq_true rfl), (Nat.le_of_ble_eq_true rfl)⟩) g hK (by decide) (by decide) (fx' := [(7, 18, q1_, .int y_127), (8, 6, q0_, .int 1201), (8, 8, q0_, .int x_123), (0, 11, a0_, .int x_2), (0, 0, a0_, .ref q0_), (0, 2, a0_, .ref q1_)]) rfl (fun r_130 fr_130 H locs hp hMr_130 g => ?_)
    refine lv_istore (lv' := [(6, .int r_130), (5, .int r_1), (0, .ref a0_), (1, .int x1_), (2, .int x2_), (3, .int x3_), (4, .int x4_)]) hx hb dX0_openCall_55 hl (by decide) rfl (fun ls hl => ?_)
    refine lv_aload_n hx hb dX0_openCall_57 rfl (lv_at hl 2 rfl) ?_
    refine g_getk (C := RX0) (T := TX0) (N := 14) hx hb hts (mc_ inX0) hown hK g rfl 0 (by decide) rfl (hts _ (List.mem_cons_of_mem _ t_373)) (fun _ h9 => h9) 4 rfl dX0_openCall_58 ?_
    refine g_calli (va_runV (As := []) (rest := []) ⟨hx, hb, hml, hown, hts⟩ (r_X8_kind_2 l dC dI L kd tys fr_130 H.size g.2.2.2.1 q0_ mq0_ kq0_ 1201 kb_1201 (g.fcts [1] rfl)) (cwV 0 hts (gV_ t_1186 t_1119 t_1120 t_184 t_1121) rfl rfl rfl (by decide +kernel) ⟨(Nat.le_of_ble_eq_true rfl), (Nat.le_of_ble_eq_true rfl)⟩) (pre3V g hK mq0_ kq0_ (by decide) (q := (RX8, TX8, 10)) rfl) rfl rfl hl.1 rfl (lv_room (Nat.le_of_ble_eq_true rfl)) dX0_openCall_61 ⟨(Nat.le_of_ble_eq_true rfl), (Nat.le_of_ble_eq_true rfl)⟩) g hK (by decide) (by decide) (fx' := [(7, 18, q1_, .int y_127), (8, 6, q0_, .int 1201), (8, 8, q0_, .int x_123), (0, 11, a0_, .int x_2), (0, 0, a0_, .ref q0_), (0, 2, a0_, .ref q1_)]) rfl (fun r_131 fr_131 H locs hp hMr_131 g => ?_)
    obtain ⟨h_132, -⟩ := hp
    obtain rfl : r_131 = 0 := h_132
    refine lv_bipush (v := 41) hx hb dX0_openCall_64 (by decide) ?_
    refine lv_icmp_ne (tgt := 73) hx hb dX0_openCall_66 (by decide) (fun c_ => ?_) (fun c_ => absurd c_ (by decide))
    refine lv_iconst (v := 0) hx hb dX0_openCall_73 (by decide) ?_
    refine lv_istore (lv' := [(7, .int 0), (6, .int r_130), (5, .int r_1), (0, .ref a0_), (1, .int x1_), (2, .int x2_), (3, .int x3_), (4, .int x4_)]) hx hb dX0_openCall_74 hl (by decide) rfl (fun ls hl => ?_)
    refine lv_iload hx hb dX0_openCall_76 (lv_at hl 7 rfl) ?_
    have kb_0 : bd 0 0 (0 : Int32) := ⟨by decide, by decide⟩
    refine lv_if_ne (tgt := 97) hx hb dX0_openCall_78 (by decide) (fun c_133 => ?_) (fun c_133 => ?_)
    · have fc_133 := neq_f c_133
      refine lv_iload hx hb dX0_openCall_97 (lv_at hl 0 rfl) ?_
      refine lv_if_ne (tgt := 120) hx hb dX0_openCall_99 (by decide) (fun c_ => absurd c_ (by decide)) (fun c_ => ?_)
      refine lv_aload_n hx hb dX0_openCall_102 rfl (lv_at hl 3 rfl) ?_
      refine lv_iload_n hx hb dX0_openCall_103 rfl (lv_at hl 4 rfl) ?_
      refine lv_iload_n hx hb dX0_openCall_104 rfl (lv_at hl 5 rfl) ?_
      refine lv_iload_n hx hb dX0_openCall_105 rfl (lv_at hl 6 rfl) ?_
      refine g_callv (va_runV (As := [.int x1_, .int x2_, .int x3_]) (rest := []) ⟨hx, hb, hml, hown, hts⟩ (r_X0_push l dC dI L kd tys fr_131 H.size g.2.2.2.1 a0_ ma0_ ka0_ x1_ x2_ x3_) (cwV 3 hts (gV_ t_1221 t_1223 t_19 t_190 t_1224) rfl rfl rfl (by decide +kernel) ⟨(Nat.le_of_ble_eq_true rfl), (Nat.le_of_ble_eq_true rfl)⟩) (pre3V g hK ma0_ ka0_ (by decide) (q := (RX0, TX0, 14)) rfl) rfl rfl hl.1 rfl (lv_room (Nat.le_of_ble_eq_true rfl)) dX0_openCall_106 ⟨(Nat.le_of_ble_eq_true rfl), (Nat.le_of_ble_eq_true rfl)⟩) g hK (by decide) (by decide) (fx' := [(7, 18, q1_, .int y_127), (8, 6, q0_, .int 1201), (8, 8, q0_, .int x_123), (0, 11, a0_, .int x_2), (0, 0, a0_, .ref q0_), (0, 2, a0_, .ref q1_)]) rfl (fun fr_134 H locs hp hMr_134 g => ?_)
      obtain ⟨x_135, h_136, hF_137⟩ := hp
      have g := g.more hF_137
      refine lv_aload_n hx hb dX0_openCall_109 rfl (lv_at hl 3 rfl) ?_
      refine lv_dup hx hb dX0_openCall_110 rfl ?_
      refine g_getk (C := RX0) (T := TX0) (N := 14) hx hb hts (mc_ inX0) hown hK g rfl 11 (by decide) rfl (hts _ (List.mem_cons_of_mem _ t_384)) (fun _ h9 => h9) 4 rfl dX0_openCall_111 ?_
      refine lv_iconst (v := 1) hx hb dX0_openCall_114 (by decide) ?_
      refine lv_iadd hx hb dX0_openCall_115 ?_
      refine lv_topi (fun y_138 ey_138 => ?_)
      refine g_put (C := RX0) (T := TX0) (N := 14) hx hb hts (mc_ inX0) tyX0 tyX0_ok nmX0 hown hK g ma0_ ka0_ (by decide) rfl 11 (by decide) (hts _ (List.mem_cons_of_mem _ t_384)) (fun _ h9 => h9) rfl rfl (okV_i (bdT y_138)) rfl rfl (by decide) (Or.inr (Or.inl (by decide))) (fx' := [(0, 8, a0_, .int x_135), (7, 18, q1_, .int y_127), (8, 6, q0_, .int 1201), (8, 8, q0_, .int x_123), (0, 0, a0_, .ref q0_), (0, 2, a0_, .ref q1_)]) rfl dX0_openCall_116 (fun f H locs hM_139 g => ?_)
      subst hQ
      exact W.vret hx hb hr (fun t ht hW => ⟨⟨_, rfl, Or.inl ⟨x_123, h_124, (g.fcts [3, 4] rfl)⟩, q3_of g hK ht hW⟩, g.2.2.1.F ht⟩) g.2.2.1.2.2 dX0_openCall_119
    · have fc_133 := eq_f c_133
      have b_140 : bd 0 0 x4_ := eqX fc_133 (bdT x4_) kb_0 (by decide)
      refine lv_iload hx hb dX0_openCall_81 (lv_at hl 0 rfl) ?_
      refine lv_if_ne (tgt := 97) hx hb dX0_openCall_83 (by decide) (fun c_ => absurd c_ (by decide)) (fun c_ => ?_)
      refine lv_aload_n hx hb dX0_openCall_86 rfl (lv_at hl 3 rfl) ?_
      refine g_getk (C := RX0) (T := TX0) (N := 14) hx hb hts (mc_ inX0) hown hK g rfl 0 (by decide) rfl (hts _ (List.mem_cons_of_mem _ t_373)) (fun _ h9 => h9) 4 rfl dX0_openCall_87 ?_
      refine lv_bipush (v := 6) hx hb dX0_openCall_90 (by decide) ?_
      refine lv_iload hx hb dX0_openCall_92 (lv_at hl 2 rfl) ?_
      have kb_6 : bd 6 6 (6 : Int32) := ⟨by decide, by decide⟩
      refine g_callv (va_runV (As := [.int 6, .int r_1]) (rest := []) ⟨hx, hb, hml, hown, hts⟩ (r_X8_fail_5 l dC dI L kd tys fr_131 H.size g.2.2.2.1 q0_ mq0_ kq0_ 6 kb_6 r_1 x_123 h_124 (g.fcts [2] rfl)) (cwV 2 hts (gV_ t_1215 t_1107 t_1108 t_184 t_1109) rfl rfl rfl (by decide +kernel) ⟨(Nat.le_of_ble_eq_true rfl), (Nat.le_of_ble_eq_true rfl)⟩) (pre3V g hK mq0_ kq0_ (by decide) (q := (RX8, TX8, 10)) rfl) rfl rfl hl.1 rfl (lv_room (Nat.le_of_ble_eq_true rfl)) dX0_openCall_94 ⟨(Nat.le_of_ble_eq_true rfl), (Nat.le_of_ble_eq_true rfl)⟩) g hK (by decide) (by decide) (fx' := [(7, 18, q1_, .int y_127), (8, 8, q0_, .int x_123), (0, 11, a0_, .int x_2), (0, 0, a0_, .ref q0_), (0, 2, a0_, .ref q1_)]) rfl (fun fr_141 H locs hp hMr_141 g => ?_)
      have hF_142 := hp
      have g := g.more hF_142
      refine lv_iload hx hb dX0_openCall_97 (lv_at hl 0 rfl) ?_
      refine lv_if_ne (tgt := 120) hx hb dX0_openCall_99 (by decide) (fun c_ => absurd c_ (by decide)) (fun c_ => ?_)
      refine lv_aload_n hx hb dX0_openCall_102 rfl (lv_at hl 3 rfl) ?_
      refine lv_iload_n hx hb dX0_openCall_103 rfl (lv_at hl 4 rfl) ?_
      refine lv_iload_n hx hb dX0_openCall_104 rfl (lv_at hl 5 rfl) ?_
      refine lv_iload_n hx hb dX0_openCall_105 rfl (lv_at hl 6 rfl) ?_
      refine g_callv (va_runV (As := [.int x1_, .int x2_, .int x3_]) (rest := []) ⟨hx, hb, hml, hown, hts⟩ (r_X0_push l dC dI L kd tys fr_141 H.size g.2.2.2.1 a0_ ma0_ ka0_ x1_ x2_ x3_) (cwV 3 hts (gV_ t_1221 t_1223 t_19 t_190 t_1224) rfl rfl rfl (by decide +kernel) ⟨(Nat.le_of_ble_eq_true rfl), (Nat.le_of_ble_eq_true rfl)⟩) (pre3V g hK ma0_ ka0_ (by decide) (q := (RX0, TX0, 14)) rfl) rfl rfl hl.1 rfl (lv_room (Nat.le_of_ble_eq_true rfl)) dX0_openCall_106 ⟨(Nat.le_of_ble_eq_true rfl), (Nat.le_of_ble_eq_true rfl)⟩) g hK (by decide) (by decide) (fx' := [(8, 6, q0_, .int 1201), (7, 18, q1_, .int y_127), (8, 8, q0_, .int x_123), (0, 11, a0_, .int x_2), (0, 0, a0_, .ref q0_), (0, 2, a0_, .ref q1_)]) rfl (fun fr_143 H locs hp hMr_143 g => ?_)
      obtain ⟨x_144, h_145, hF_146⟩ := hp
      have g := g.more hF_146
      refine lv_aload_n hx hb dX0_openCall_109 rfl (lv_at hl 3 rfl) ?_
      refine lv_dup hx hb dX0_openCall_110 rfl ?_
      refine g_getk (C := RX0) (T := TX0) (N := 14) hx hb hts (mc_ inX0) hown hK g rfl 11 (by decide) rfl (hts _ (List.mem_cons_of_mem _ t_384)) (fun _ h9 => h9) 4 rfl dX0_openCall_111 ?_
      refine lv_iconst (v := 1) hx hb dX0_openCall_114 (by decide) ?_
      refine lv_iadd hx hb dX0_openCall_115 ?_
      refine lv_topi (fun y_147 ey_147 => ?_)
      refine g_put (C := RX0) (T := TX0) (N := 14) hx hb hts (mc_ inX0) tyX0 tyX0_ok nmX0 hown hK g ma0_ ka0_ (by decide) rfl 11 (by decide) (hts _ (List.mem_cons_of_mem _ t_384)) (fun _ h9 => h9) rfl rfl (okV_i (bdT y_147)) rfl rfl (by decide) (Or.inr (Or.inl (by decide))) (fx' := [(0, 8, a0_, .int x_144), (8, 6, q0_, .int 1201), (7, 18, q1_, .int y_127), (8, 8, q0_, .int x_123), (0, 0, a0_, .ref q0_), (0, 2, a0_, .ref q1_)]) rfl dX0_openCall_116 (fun f H locs hM_148 g => ?_)
      subst hQ
      exact W.vret hx hb hr (fun t ht hW => ⟨⟨_, rfl, Or.inl ⟨x_123, h_124, (g.fcts [2, 4] rfl)⟩, q3_of g hK ht hW⟩, g.2.2.1.F ht⟩) g.2.2.1.2.2 dX0_openCall_119
set_option maxHeartbeats 4000000 in
set_option maxRecDepth 100000 in
theorem r_X8_fail_6 (l : Launch) (dC : Nat → ClassId) (dI : Nat → Nat → Nat) (L : List Nat) (kd : Nat → Nat) (tys : List (ClassId × FieldType)) (f0 : Nat → va_E) (sz : Nat) (hWT : WT L kd tys f0) (a0_ : Nat) (ma0_ : a0_ ∈ L) (ka0_ : kd a0_ = 8) (x1_ : Int32) (bx1_ : bd 4 4 x1_) (x2_ : Int32) (y0_ : Int32) (by0_ : bd 1 7 y0_) (hfx : Fs L kd f0 [(8, 8, a0_, .int y0_)]) : Met l yX8_fail (.code yX8_fail cX8_fail 4 none :: lw_g) ({ frames := 0, cells := 0, slots := 0, locals := 0 }) (va_Pc [.ref a0_, .int x1_, .int x2_] (P3 (dC, dI) L tys f0 sz)) (va_Qv (fun (f : Nat → va_E) => (Fs L kd f [(8, 6, a0_, .int 1201)])) (Q3 (dC, dI) L kd tys [(8, 6)] [] f0 sz) (pA L sz)) 0 0 (pA L sz) := by
  refine Met.ofW (cc := cX8_fail) (maxL := 4) (ret := none) (by decide) rfl ?_
  intro p e s m args below meth c s₁ B hml hv
  obtain ⟨rfl, hsz, hP, hK, hD0⟩ := hv
  have hx := B.exec
  have hb := B.bytes
  have hr := B.returns
  have hts := atoms_spec (ws := (.code yX8_fail cX8_fail 4 none :: lw_g)) B.pre
  have hown : s.vm.findClass RX8 = some m.cls := findClass_of_methodNamed B.named
  have hlocks := B.notSynchronized
  subst hsz
  have g : G3 (dC, dI) L kd tys s f0 [(8, 6)] [] f0 s.heap [] [(8, 8, a0_, .int y0_)] := G3.start hP hD0 hWT hfx
  have hl := lv_entry ([.ref a0_, .int x1_, .int x2_]) (n := 4) (Nat.le_of_ble_eq_true rfl)
  rw [lg_entry_eq]
  generalize (lg_sl ([.ref a0_, .int x1_, .int x2_]) ++ List.replicate (4 - (lg_sl ([.ref a0_, .int x1_, .int x2_])).length) Slot.unset).toArray = ls at hl ⊢
  have hl : lv_has ls 4 [(0, .ref a0_), (1, .int x1_), (2, .int x2_)] := hl
  refine W_q (fun Q hQ => ?_)
  refine lv_aload_n hx hb dX8_fail_0 rfl (lv_at hl 0 rfl) ?_
  refine g_geti (C := RX8) (T := TX8) (N := 10) hx hb hts (mc_ inX8) hown hK g ma0_ ka0_ (by decide) rfl 6 (by decide) rfl (hts _ (List.mem_cons_of_mem _ t_291)) (fun _ h9 => h9) rfl dX8_fail_1 (fun x_1 bx_1 g => ?_)
  refine lv_sipush (v := 1200) hx hb dX8_fail_4 (by decide) ?_
  have kb_1200 : bd 1200 1200 (1200 : Int32) := ⟨by decide, by decide⟩
  refine lv_icmp_le (tgt := 31) hx hb dX8_fail_7 (by decide) (fun c_2 => ?_) (fun c_2 => ?_)
  · have fc_2 := le_f c_2
    have b_3 : bd 0 1200 x_1 := leL fc_2 bx_1 kb_1200 (by decide)
    refine lv_iconst (v := 0) hx hb dX8_fail_31 (by decide) ?_
    refine lv_istore_n (lv' := [(3, .int 0), (0, .ref a0_), (1, .int x1_), (2, .int x2_)]) hx hb dX8_fail_32 rfl hl (by decide) rfl (fun ls hl => ?_)
    refine lv_aload_n hx hb dX8_fail_33 rfl (lv_at hl 1 rfl) ?_
    refine g_getk (C := RX8) (T := TX8) (N := 10) hx hb hts (mc_ inX8) hown hK g rfl 8 (by decide) rfl (hts _ (List.mem_cons_of_mem _ t_295)) (fun _ h9 => h9) 1 rfl dX8_fail_34 ?_
    have kb_0 : bd 0 0 (0 : Int32) := ⟨by decide, by decide⟩
    refine lv_if_ne (tgt := 73) hx hb dX8_fail_37 (by decide) (fun c_4 => ?_) (fun c_4 => ?_)
    · have fc_4 := neq_f c_4
      refine lv_aload_n hx hb dX8_fail_73 rfl (lv_at hl 1 rfl) ?_
      refine lv_sipush (v := 1201) hx hb dX8_fail_74 (by decide) ?_
      have kb_1201 : bd 1201 1201 (1201 : Int32) := ⟨by decide, by decide⟩
      refine g_put (C := RX8) (T := TX8) (N := 10) hx hb hts (mc_ inX8) tyX8 tyX8_ok nmX8 hown hK g ma0_ ka0_ (by decide) rfl 6 (by decide) (hts _ (List.mem_cons_of_mem _ t_291)) (fun _ h9 => h9) rfl rfl (okV_i (bd_sub kb_1201 (by decide))) rfl rfl (by decide) (Or.inr (Or.inl (by decide))) (fx' := [(8, 8, a0_, .int y0_)]) rfl dX8_fail_77 (fun f H locs hM_5 g => ?_)
      subst hQ
      exact W.vret hx hb hr (fun t ht hW => ⟨⟨_, rfl, (g.fcts [0] rfl), q3_of g hK ht hW⟩, g.2.2.1.F ht⟩) g.2.2.1.2.2 dX8_fail_80
    · have fc_4 := eq_f c_4
      have b_6 : bd 1 0 y0_ := eqX fc_4 by0_ kb_0 (by decide)
      exact bd_no b_6 (by decide)
  · have fc_2 := nle_f c_2
    have b_7 : bd 1201 1201 x_1 := ltR fc_2 kb_1200 bx_1 (by decide)
    refine lv_iload_n hx hb dX8_fail_10 rfl (lv_at hl 1 rfl) ?_
    refine lv_iconst (v := 4) hx hb dX8_fail_11 (by decide) ?_
    have kb_4 : bd 4 4 (4 : Int32) := ⟨by decide, by decide⟩
    refine lv_icmp_gt (tgt := 27) hx hb dX8_fail_12 (by decide) (fun c_8 => ?_) (fun c_8 => ?_)
    · have fc_8 := lt_f c_8
      have b_9 : bd 4 3 (4 : Int32) := ltL fc_8 kb_4 bx1_ (by decide)
      exact bd_no (eqX rfl b_9 kb_4 (lo := 4) (hi := 3) (by decide)) (by decide)
    · have fc_8 := nlt_f c_8
      refine lv_iload_n hx hb dX8_fail_15 rfl (lv_at hl 2 rfl) ?_
      refine lv_aload_n hx hb dX8_fail_16 rfl (lv_at hl 0 rfl) ?_
      refine g_getr (K := 149) (C := RX8) (T := TX8) (N := 10) hx hb hts (mc_ inX8) hown hK g ma0_ ka0_ (by decide) rfl 1 (by decide) rfl (hts _ (List.mem_cons_of_mem _ t_286)) (fun _ h9 => h9) rfl dX8_fail_17 (fun a_10 ma_10 ka_10 g => ?_)
      refine lv_sipush (v := 1200) hx hb dX8_fail_20 (by decide) ?_
      refine g_iald hx hb hK g ma_10 ka_10 (by decide) rfl (by unfold vp_in; decide) dX8_fail_23 (fun x_11 bx_11 cx_11 => ?_)
      refine lv_icmp_eq (tgt := 31) hx hb dX8_fail_24 (by decide) (fun c_12 => ?_) (fun c_12 => ?_)
      · have fc_12 := eq_f c_12
        refine lv_iconst (v := 0) hx hb dX8_fail_31 (by decide) ?_
        refine lv_istore_n (lv' := [(3, .int 0), (0, .ref a0_), (1, .int x1_), (2, .int x2_)]) hx hb dX8_fail_32 rfl hl (by decide) rfl (fun ls hl => ?_)
        refine lv_aload_n hx hb dX8_fail_33 rfl (lv_at hl 1 rfl) ?_
        refine g_getk (C := RX8) (T := TX8) (N := 10) hx hb hts (mc_ inX8) hown hK g rfl 8 (by decide) rfl (hts _ (List.mem_cons_of_mem _ t_295)) (fun _ h9 => h9) 2 rfl dX8_fail_34 ?_
        have kb_0 : bd 0 0 (0 : Int32) := ⟨by decide, by decide⟩
        refine lv_if_ne (tgt := 73) hx hb dX8_fail_37 (by decide) (fun c_13 => ?_) (fun c_13 => ?_)
        · have fc_13 := neq_f c_13
          refine lv_aload_n hx hb dX8_fail_73 rfl (lv_at hl 1 rfl) ?_
          refine lv_sipush (v := 1201) hx hb dX8_fail_74 (by decide) ?_
          have kb_1201 : bd 1201 1201 (1201 : Int32) := ⟨by decide, by decide⟩
          refine g_put (C := RX8) (T := TX8) (N := 10) hx hb hts (mc_ inX8) tyX8 tyX8_ok nmX8 hown hK g ma0_ ka0_ (by decide) rfl 6 (by decide) (hts _ (List.mem_cons_of_mem _ t_291)) (fun _ h9 => h9) rfl rfl (okV_i (bd_sub kb_1201 (by decide))) rfl rfl (by decide) (Or.inr (Or.inl (by decide))) (fx' := [(8, 1, a0_, .ref a_10), (8, 8, a0_, .int y0_)]) rfl dX8_fail_77 (fun f H locs hM_14 g => ?_)
          subst hQ
          exact W.vret hx hb hr (fun t ht hW => ⟨⟨_, rfl, (g.fcts [0] rfl), q3_of g hK ht hW⟩, g.2.2.1.F ht⟩) g.2.2.1.2.2 dX8_fail_80
        · have fc_13 := eq_f c_13
          have b_15 : bd 1 0 y0_ := eqX fc_13 by0_ kb_0 (by decide)
          exact bd_no b_15 (by decide)
      · have fc_12 := neq_f c_12
        refine lv_iconst (v := 1) hx hb dX8_fail_27 (by decide) ?_
        refine lv_goto (tgt := 32) hx hb dX8_fail_28 (by decide) ?_
        refine lv_istore_n (lv' := [(3, .int 1), (0, .ref a0_), (1, .int x1_), (2, .int x2_)]) hx hb dX8_fail_32 rfl hl (by decide) rfl (fun ls hl => ?_)
        refine lv_aload_n hx hb dX8_fail_33 rfl (lv_at hl 1 rfl) ?_
        refine g_getk (C := RX8) (T := TX8) (N := 10) hx hb hts (mc_ inX8) hown hK g rfl 8 (by decide) rfl (hts _ (List.mem_cons_of_mem _ t_295)) (fun _ h9 => h9) 2 rfl dX8_fail_34 ?_
        have kb_0 : bd 0 0 (0 : Int32) := ⟨by decide, by decide⟩
        refine lv_if_ne (tgt := 73) hx hb dX8_fail_37 (by decide) (fun c_16 => ?_) (fun c_16 => ?_)
        · have fc_16 := neq_f c_16
          refine lv_aload_n hx hb dX8_fail_73 rfl (lv_at hl 1 rfl) ?_
          refine lv_sipush (v := 1201) hx hb dX8_fail_74 (by decide) ?_
          have kb_1201 : bd 1201 1201 (1201 : Int32) := ⟨by decide, by decide⟩
          refine g_put (C := RX8) (T := TX8) (N := 10) hx hb hts (mc_ inX8) tyX8 tyX8_ok nmX8 hown hK g ma0_ ka0_ (by decide) rfl 6 (by decide) (hts _ (List.mem_cons_of_mem _ t_291)) (fun _ h9 => h9) rfl rfl (okV_i (bd_sub kb_1201 (by decide))) rfl rfl (by decide) (Or.inr (Or.inl (by decide))) (fx' := [(8, 1, a0_, .ref a_10), (8, 8, a0_, .int y0_)]) rfl dX8_fail_77 (fun f H locs hM_17 g => ?_)
          subst hQ
          exact W.vret hx hb hr (fun t ht hW => ⟨⟨_, rfl, (g.fcts [0] rfl), q3_of g hK ht hW⟩, g.2.2.1.F ht⟩) g.2.2.1.2.2 dX8_fail_80
        · have fc_16 := eq_f c_16
          have b_18 : bd 1 0 y0_ := eqX fc_16 by0_ kb_0 (by decide)
          exact bd_no b_18 (by decide)
set_option maxHeartbeats 4000000 in
set_option maxRecDepth 100000 in
theorem r_X0_openCall_2 (l : Launch) (dC : Nat → ClassId) (dI : Nat → Nat → Nat) (L : List Nat) (kd : Nat → Nat) (tys : List (ClassId × FieldType)) (f0 : Nat → va_E) (sz : Nat) (hWT : WT L kd tys f0) (a0_ : Nat) (ma0_ : a0_ ∈ L) (ka0_ : kd a0_ = 0) (x1_ : Int32) (x2_ : Int32) (x3_ : Int32) (x4_ : Int32) (q0_ : Nat) (mq0_ : q0_ ∈ L) (kq0_ : kd q0_ = 8) (q1_ : Nat) (mq1_ : q1_ ∈ L) (kq1_ : kd q1_ = 7) (y0_ : Int32) (by0_ : bd 1201 1201 y0_) (y1_ : Int32) (by1_ : bd 1 7 y1_) (hfx : Fs L kd f0 [(0, 0, a0_, .ref q0_), (0, 2, a0_, .ref q1_), (8, 6, q0_, .int y0_), (8, 8, q0_, .int y1_)]) : Met l yX0_openCall (.code yX0_openCall cX0_openCall 8 none :: lw_g) ({ frames := 1, cells := 0, slots := 0, locals := 23 }) (va_Pc [.ref a0_, .int x1_, .int x2_, .int x3_, .int x4_] (P3 (dC, dI) L tys f0 sz)) (va_Qv (fun (f : Nat → va_E) => (∃ z0_ : Int32, bd 1 300 z0_ ∧ ∃ z1_ : Int32, bd 1201 1201 z1_ ∧ Fs L kd f [(0, 8, a0_, .int z0_), (8, 6, q0_, .int z1_)])) (Q3 (dC, dI) L kd tys [(0, 8), (0, 11), (7, 18), (8, 6)] [110, 111, 112, 113, 114] f0 sz) (pA L sz)) 0 0 (pA L sz) := by
  refine Met.ofW (cc := cX0_openCall) (maxL := 8) (ret := none) (by decide) rfl ?_
  intro p e s m args below meth c s₁ B hml hv
  obtain ⟨rfl, hsz, hP, hK, hD0⟩ := hv
  have hx := B.exec
  have hb := B.bytes
  have hr := B.returns
  have hts := atoms_spec (ws := (.code yX0_openCall cX0_openCall 8 none :: lw_g)) B.pre
  have hown : s.vm.findClass RX0 = some m.cls := findClass_of_methodNamed B.named
  have hlocks := B.notSynchronized
  subst hsz
  have g : G3 (dC, dI) L kd tys s f0 [(0, 8), (0, 11), (7, 18), (8, 6)] [110, 111, 112, 113, 114] f0 s.heap [] [(0, 0, a0_, .ref q0_), (0, 2, a0_, .ref q1_), (8, 6, q0_, .int y0_), (8, 8, q0_, .int y1_)] := G3.start hP hD0 hWT hfx
  have hl := lv_entry ([.ref a0_, .int x1_, .int x2_, .int x3_, .int x4_]) (n := 8) (Nat.le_of_ble_eq_true rfl)
  rw [lg_entry_eq]
  generalize (lg_sl ([.ref a0_, .int x1_, .int x2_, .int x3_, .int x4_]) ++ List.replicate (8 - (lg_sl ([.ref a0_, .int x1_, .int x2_, .int x3_, .int x4_])).length) Slot.unset).toArray = ls at hl ⊢
  have hl : lv_has ls 8 [(0, .ref a0_), (1, .int x1_), (2, .int x2_), (3, .int x3_), (4, .int x4_)] := hl
  refine W_q (fun Q hQ => ?_)
  refine lv_aload_n hx hb dX0_openCall_0 rfl (lv_at hl 0 rfl) ?_
  refine g_getk (C := RX0) (T := TX0) (N := 14) hx hb hts (mc_ inX0) hown hK g rfl 0 (by decide) rfl (hts _ (List.mem_cons_of_mem _ t_373)) (fun _ h9 => h9) 0 rfl dX0_openCall_1 ?_
  refine g_calli (va_runV (As := []) (rest := []) ⟨hx, hb, hml, hown, hts⟩ (r_X8_place l dC dI L kd tys f0 s.heap.size g.2.2.2.1 q0_ mq0_ kq0_) (cwV 0 hts (gV_ t_1220 t_1111 t_1112 t_184 t_1113) rfl rfl rfl (by decide +kernel) ⟨(Nat.le_of_ble_eq_true rfl), (Nat.le_of_ble_eq_true rfl)⟩) (pre3V g hK mq0_ kq0_ (by decide) (q := (RX8, TX8, 10)) rfl) rfl rfl hl.1 rfl (lv_room (Nat.le_of_ble_eq_true rfl)) dX0_openCall_4 ⟨(Nat.le_of_ble_eq_true rfl), (Nat.le_of_ble_eq_true rfl)⟩) g hK (by decide) (by decide) (fx' := [(0, 0, a0_, .ref q0_), (0, 2, a0_, .ref q1_), (8, 6, q0_, .int y0_), (8, 8, q0_, .int y1_)]) rfl (fun r_1 fr_1 H locs hp hMr_1 g => ?_)
  refine lv_istore (lv' := [(5, .int r_1), (0, .ref a0_), (1, .int x1_), (2, .int x2_), (3, .int x3_), (4, .int x4_)]) hx hb dX0_openCall_7 hl (by decide) rfl (fun ls hl => ?_)
  refine lv_aload_n hx hb dX0_openCall_9 rfl (lv_at hl 1 rfl) ?_
  refine g_geti (C := RX0) (T := TX0) (N := 14) hx hb hts (mc_ inX0) hown hK g ma0_ ka0_ (by decide) rfl 11 (by decide) rfl (hts _ (List.mem_cons_of_mem _ t_384)) (fun _ h9 => h9) rfl dX0_openCall_10 (fun x_2 bx_2 g => ?_)
  refine lv_bipush (v := 40) hx hb dX0_openCall_13 (by decide) ?_
  have kb_40 : bd 40 40 (40 : Int32) := ⟨by decide, by decide⟩
  refine lv_icmp_lt (tgt := 28) hx hb dX0_openCall_15 (by decide) (fun c_3 => ?_) (fun c_3 => ?_)
  · have fc_3 := lt_f c_3
    have b_4 : bd (-2147483648) 39 x_2 := ltL fc_3 (bdT x_2) kb_40 (by decide)
    refine lv_aload_n hx hb dX0_openCall_28 rfl (lv_at hl 1 rfl) ?_
    refine g_getk (C := RX0) (T := TX0) (N := 14) hx hb hts (mc_ inX0) hown hK g rfl 2 (by decide) rfl (hts _ (List.mem_cons_of_mem _ t_375)) (fun _ h9 => h9) 2 rfl dX0_openCall_29 ?_
    refine lv_dup hx hb dX0_openCall_32 rfl ?_
    refine g_geti (C := RX7) (T := TX7) (N := 19) hx hb hts (mc_ inX7) hown hK g mq1_ kq1_ (by decide) rfl 18 (by decide) rfl (hts _ (List.mem_cons_of_mem _ t_681)) (fun _ h9 => h9) rfl dX0_openCall_33 (fun x_5 bx_5 g => ?_)
    refine lv_iconst (v := 1) hx hb dX0_openCall_36 (by decide) ?_
    have kb_1 : bd 1 1 (1 : Int32) := ⟨by decide, by decide⟩
    refine lv_iadd hx hb dX0_openCall_37 ?_
    refine lv_topi (fun y_6 ey_6 => ?_)
    refine g_put (C := RX7) (T := TX7) (N := 19) hx hb hts (mc_ inX7) tyX7 tyX7_ok nmX7 hown hK g mq1_ kq1_ (by decide) rfl 18 (by decide) (hts _ (List.mem_cons_of_mem _ t_681)) (fun _ h9 => h9) rfl rfl (okV_i (bdT y_6)) rfl rfl (by decide) (Or.inr (Or.inl (by decide))) (fx' := [(0, 11, a0_, .int x_2), (0, 0, a0_, .ref q0_), (0, 2, a0_, .ref q1_), (8, 6, q0_, .int y0_), (8, 8, q0_, .int y1_)]) rfl dX0_openCall_38 (fun f H locs hM_7 g => ?_)
    refine lv_aload_n hx hb dX0_openCall_41 rfl (lv_at hl 1 rfl) ?_
    refine g_getk (C := RX0) (T := TX0) (N := 14) hx hb hts (mc_ inX0) hown hK g rfl 0 (by decide) rfl (hts _ (List.mem_cons_of_mem _ t_373)) (fun _ h9 => h9) 2 rfl dX0_openCall_42 ?_
    refine g_callv (va_runV (As := []) (rest := []) ⟨hx, hb, hml, hown, hts⟩ (r_X8_next_2 l dC dI L kd tys f H.size g.2.2.2.1 q0_ mq0_ kq0_ y0_ by0_ (g.fcts [4] rfl)) (cwV 0 hts (gV_ t_1225 t_1103 t_1104 t_184 t_1105) rfl rfl rfl (by decide +kernel) ⟨(Nat.le_of_ble_eq_true rfl), (Nat.le_of_ble_eq_true rfl)⟩) (pre3V g hK mq0_ kq0_ (by decide) (q := (RX8, TX8, 10)) rfl) rfl rfl hl.1 rfl (lv_room (Nat.le_of_ble_eq_true rfl)) dX0_openCall_45 ⟨(Nat.le_of_ble_eq_true rfl), (Nat.le_of_ble_eq_true rfl)⟩) g hK (by decide) (by decide) (fx' := [(7, 18, q1_, .int y_6), (0, 11, a0_, .int x_2), (0, 0, a0_, .ref q0_), (0, 2, a0_, .ref q1_), (8, 6, q0_, .int y0_), (8, 8, q0_, .int y1_)]) rfl (fun fr_8 H locs hp hMr_8 g => ?_)
    refine lv_aload_n hx hb dX0_openCall_48 rfl (lv_at hl 1 rfl) ?_
    refine g_getk (C := RX0) (T := TX0) (N := 14) hx hb hts (mc_ inX0) hown hK g rfl 0 (by decide) rfl (hts _ (List.mem_cons_of_mem _ t_373)) (fun _ h9 => h9) 2 rfl dX0_openCall_49 ?_
    refine g_calli (va_runV (As := []) (rest := []) ⟨hx, hb, hml, hown, hts⟩ (r_X8_place l dC dI L kd tys fr_8 H.size g.2.2.2.1 q0_ mq0_ kq0_) (cwV 0 hts (gV_ t_1220 t_1111 t_1112 t_184 t_1113) rfl rfl rfl (by decide +kernel) ⟨(Nat.le_of_ble_eq_true rfl), (Nat.le_of_ble_eq_true rfl)⟩) (pre3V g hK mq0_ kq0_ (by decide) (q := (RX8, TX8, 10)) rfl) rfl rfl hl.1 rfl (lv_room (Nat.le_of_ble_eq_true rfl)) dX0_openCall_52 ⟨(Nat.le_of_ble_eq_true rfl), (Nat.le_of_ble_eq_true rfl)⟩) g hK (by decide) (by decide) (fx' := [(7, 18, q1_, .int y_6), (0, 11, a0_, .int x_2), (0, 0, a0_, .ref q0_), (0, 2, a0_, .ref q1_), (8, 6, q0_, .int y0_), (8, 8, q0_, .int y1_)]) rfl (fun r_9 fr_9 H locs hp hMr_9 g => ?_)
    refine lv_istore (lv' := [(6, .int r_9), (5, .int r_1), (0, .ref a0_), (1, .int x1_), (2, .int x2_), (3, .int x3_), (4, .int x4_)]) hx hb dX0_openCall_55 hl (by decide) rfl (fun ls hl => ?_)
    refine lv_aload_n hx hb dX0_openCall_57 rfl (lv_at hl 2 rfl) ?_
    refine g_getk (C := RX0) (T := TX0) (N := 14) hx hb hts (mc_ inX0) hown hK g rfl 0 (by decide) rfl (hts _ (List.mem_cons_of_mem _ t_373)) (fun _ h9 => h9) 2 rfl dX0_openCall_58 ?_
    refine g_calli (va_runV (As := []) (rest := []) ⟨hx, hb, hml, hown, hts⟩ (r_X8_kind_2 l dC dI L kd tys fr_9 H.size g.2.2.2.1 q0_ mq0_ kq0_ y0_ by0_ (g.fcts [4] rfl)) (cwV 0 hts (gV_ t_1186 t_1119 t_1120 t_184 t_1121) rfl rfl rfl (by decide +kernel) ⟨(Nat.le_of_ble_eq_true rfl), (Nat.le_of_ble_eq_true rfl)⟩) (pre3V g hK mq0_ kq0_ (by decide) (q := (RX8, TX8, 10)) rfl) rfl rfl hl.1 rfl (lv_room (Nat.le_of_ble_eq_true rfl)) dX0_openCall_61 ⟨(Nat.le_of_ble_eq_true rfl), (Nat.le_of_ble_eq_true rfl)⟩) g hK (by decide) (by decide) (fx' := [(7, 18, q1_, .int y_6), (0, 11, a0_, .int x_2), (0, 0, a0_, .ref q0_), (0, 2, a0_, .ref q1_), (8, 6, q0_, .int y0_), (8, 8, q0_, .int y1_)]) rfl (fun r_10 fr_10 H locs hp hMr_10 g => ?_)
    obtain ⟨h_11, -⟩ := hp
    obtain rfl : r_10 = 0 := h_11
    refine lv_bipush (v := 41) hx hb dX0_openCall_64 (by decide) ?_
    refine lv_icmp_ne (tgt := 73) hx hb dX0_openCall_66 (by decide) (fun c_ => ?_) (fun c_ => absurd c_ (by decide))
    refine lv_iconst (v := 0) hx hb dX0_openCall_73 (by decide) ?_
    refine lv_istore (lv' := [(7, .int 0), (6, .int r_9), (5, .int r_1), (0, .ref a0_), (1, .int x1_), (2, .int x2_), (3, .int x3_), (4, .int x4_)]) hx hb dX0_openCall_74 hl (by decide) rfl (fun ls hl => ?_)
    refine lv_iload hx hb dX0_openCall_76 (lv_at hl 7 rfl) ?_
    have kb_0 : bd 0 0 (0 : Int32) := ⟨by decide, by decide⟩
    refine lv_if_ne (tgt := 97) hx hb dX0_openCall_78 (by decide) (fun c_12 => ?_) (fun c_12 => ?_)
    · have fc_12 := neq_f c_12
      refine lv_iload hx hb dX0_openCall_97 (lv_at hl 0 rfl) ?_
      refine lv_if_ne (tgt := 120) hx hb dX0_openCall_99 (by decide) (fun c_ => absurd c_ (by decide)) (fun c_ => ?_)
      refine lv_aload_n hx hb dX0_openCall_102 rfl (lv_at hl 3 rfl) ?_
      refine lv_iload_n hx hb dX0_openCall_103 rfl (lv_at hl 4 rfl) ?_
      refine lv_iload_n hx hb dX0_openCall_104 rfl (lv_at hl 5 rfl) ?_
      refine lv_iload_n hx hb dX0_openCall_105 rfl (lv_at hl 6 rfl) ?_
      refine g_callv (va_runV (As := [.int x1_, .int x2_, .int x3_]) (rest := []) ⟨hx, hb, hml, hown, hts⟩ (r_X0_push l dC dI L kd tys fr_10 H.size g.2.2.2.1 a0_ ma0_ ka0_ x1_ x2_ x3_) (cwV 3 hts (gV_ t_1221 t_1223 t_19 t_190 t_1224) rfl rfl rfl (by decide +kernel) ⟨(Nat.le_of_ble_eq_true rfl), (Nat.le_of_ble_eq_true rfl)⟩) (pre3V g hK ma0_ ka0_ (by decide) (q := (RX0, TX0, 14)) rfl) rfl rfl hl.1 rfl (lv_room (Nat.le_of_ble_eq_true rfl)) dX0_openCall_106 ⟨(Nat.le_of_ble_eq_true rfl), (Nat.le_of_ble_eq_true rfl)⟩) g hK (by decide) (by decide) (fx' := [(7, 18, q1_, .int y_6), (0, 11, a0_, .int x_2), (0, 0, a0_, .ref q0_), (0, 2, a0_, .ref q1_), (8, 6, q0_, .int y0_), (8, 8, q0_, .int y1_)]) rfl (fun fr_13 H locs hp hMr_13 g => ?_)
      obtain ⟨x_14, h_15, hF_16⟩ := hp
      have g := g.more hF_16
      refine lv_aload_n hx hb dX0_openCall_109 rfl (lv_at hl 3 rfl) ?_
      refine lv_dup hx hb dX0_openCall_110 rfl ?_
      refine g_getk (C := RX0) (T := TX0) (N := 14) hx hb hts (mc_ inX0) hown hK g rfl 11 (by decide) rfl (hts _ (List.mem_cons_of_mem _ t_384)) (fun _ h9 => h9) 2 rfl dX0_openCall_111 ?_
      refine lv_iconst (v := 1) hx hb dX0_openCall_114 (by decide) ?_
      refine lv_iadd hx hb dX0_openCall_115 ?_
      refine lv_topi (fun y_17 ey_17 => ?_)
      have ty_17 := add_bd ey_17 b_4 kb_1 (by decide)
      have b_18 : bd (-2147483647) 40 y_17 := add_rg ty_17 b_4 kb_1 (by decide)
      refine g_put (C := RX0) (T := TX0) (N := 14) hx hb hts (mc_ inX0) tyX0 tyX0_ok nmX0 hown hK g ma0_ ka0_ (by decide) rfl 11 (by decide) (hts _ (List.mem_cons_of_mem _ t_384)) (fun _ h9 => h9) rfl rfl (okV_i (bd_sub b_18 (by decide))) rfl rfl (by decide) (Or.inr (Or.inl (by decide))) (fx' := [(0, 8, a0_, .int x_14), (7, 18, q1_, .int y_6), (0, 0, a0_, .ref q0_), (0, 2, a0_, .ref q1_), (8, 6, q0_, .int y0_), (8, 8, q0_, .int y1_)]) rfl dX0_openCall_116 (fun f H locs hM_19 g => ?_)
      subst hQ
      exact W.vret hx hb hr (fun t ht hW => ⟨⟨_, rfl, ⟨x_14, h_15, y0_, by0_, (g.fcts [1, 5] rfl)⟩, q3_of g hK ht hW⟩, g.2.2.1.F ht⟩) g.2.2.1.2.2 dX0_openCall_119
    · have fc_12 := eq_f c_12
      have b_20 : bd 0 0 x4_ := eqX fc_12 (bdT x4_) kb_0 (by decide)
      refine lv_iload hx hb dX0_openCall_81 (lv_at hl 0 rfl) ?_
      refine lv_if_ne (tgt := 97) hx hb dX0_openCall_83 (by decide) (fun c_ => absurd c_ (by decide)) (fun c_ => ?_)
      refine lv_aload_n hx hb dX0_openCall_86 rfl (lv_at hl 3 rfl) ?_
      refine g_getk (C := RX0) (T := TX0) (N := 14) hx hb hts (mc_ inX0) hown hK g rfl 0 (by decide) rfl (hts _ (List.mem_cons_of_mem _ t_373)) (fun _ h9 => h9) 2 rfl dX0_openCall_87 ?_
      refine lv_bipush (v := 6) hx hb dX0_openCall_90 (by decide) ?_
      refine lv_iload hx hb dX0_openCall_92 (lv_at hl 2 rfl) ?_
      have kb_6 : bd 6 6 (6 : Int32) := ⟨by decide, by decide⟩
      refine g_callv (va_runV (As := [.int 6, .int r_1]) (rest := []) ⟨hx, hb, hml, hown, hts⟩ (r_X8_fail_5 l dC dI L kd tys fr_10 H.size g.2.2.2.1 q0_ mq0_ kq0_ 6 kb_6 r_1 y1_ by1_ (g.fcts [5] rfl)) (cwV 2 hts (gV_ t_1215 t_1107 t_1108 t_184 t_1109) rfl rfl rfl (by decide +kernel) ⟨(Nat.le_of_ble_eq_true rfl), (Nat.le_of_ble_eq_true rfl)⟩) (pre3V g hK mq0_ kq0_ (by decide) (q := (RX8, TX8, 10)) rfl) rfl rfl hl.1 rfl (lv_room (Nat.le_of_ble_eq_true rfl)) dX0_openCall_94 ⟨(Nat.le_of_ble_eq_true rfl), (Nat.le_of_ble_eq_true rfl)⟩) g hK (by decide) (by decide) (fx' := [(7, 18, q1_, .int y_6), (0, 11, a0_, .int x_2), (0, 0, a0_, .ref q0_), (0, 2, a0_, .ref q1_), (8, 8, q0_, .int y1_)]) rfl (fun fr_21 H locs hp hMr_21 g => ?_)
      have hF_22 := hp
      have g := g.more hF_22
      refine lv_iload hx hb dX0_openCall_97 (lv_at hl 0 rfl) ?_
      refine lv_if_ne (tgt := 120) hx hb dX0_openCall_99 (by decide) (fun c_ => absurd c_ (by decide)) (fun c_ => ?_)
      refine lv_aload_n hx hb dX0_openCall_102 rfl (lv_at hl 3 rfl) ?_
      refine lv_iload_n hx hb dX0_openCall_103 rfl (lv_at hl 4 rfl) ?_
      refine lv_iload_n hx hb dX0_openCall_104 rfl (lv_at hl 5 rfl) ?_
      refine lv_iload_n hx hb dX0_openCall_105 rfl (lv_at hl 6 rfl) ?_
      refine g_callv (va_runV (As := [.int x1_, .int x2_, .int x3_]) (rest := []) ⟨hx, hb, hml, hown, hts⟩ (r_X0_push l dC dI L kd tys fr_21 H.size g.2.2.2.1 a0_ ma0_ ka0_ x1_ x2_ x3_) (cwV 3 hts (gV_ t_1221 t_1223 t_19 t_190 t_1224) rfl rfl rfl (by decide +kernel) ⟨(Nat.le_of_ble_eq_true rfl), (Nat.le_of_ble_eq_true rfl)⟩) (pre3V g hK ma0_ ka0_ (by decide) (q := (RX0, TX0, 14)) rfl) rfl rfl hl.1 rfl (lv_room (Nat.le_of_ble_eq_true rfl)) dX0_openCall_106 ⟨(Nat.le_of_ble_eq_true rfl), (Nat.le_of_ble_eq_true rfl)⟩) g hK (by decide) (by decide) (fx' := [(8, 6, q0_, .int 1201), (7, 18, q1_, .int y_6), (0, 11, a0_, .int x_2), (0, 0, a0_, .ref q0_), (0, 2, a0_, .ref q1_), (8, 8, q0_, .int y1_)]) rfl (fun fr_23 H locs hp hMr_23 g => ?_)
      obtain ⟨x_24, h_25, hF_26⟩ := hp
      have g := g.more hF_26
      refine lv_aload_n hx hb dX0_openCall_109 rfl (lv_at hl 3 rfl) ?_
      refine lv_dup hx hb dX0_openCall_110 rfl ?_
      refine g_getk (C := RX0) (T := TX0) (N := 14) hx hb hts (mc_ inX0) hown hK g rfl 11 (by decide) rfl (hts _ (List.mem_cons_of_mem _ t_384)) (fun _ h9 => h9) 3 rfl dX0_openCall_111 ?_
      refine lv_iconst (v := 1) hx hb dX0_openCall_114 (by decide) ?_
      refine lv_iadd hx hb dX0_openCall_115 ?_
      refine lv_topi (fun y_27 ey_27 => ?_)
      have ty_27 := add_bd ey_27 b_4 kb_1 (by decide)
      have b_28 : bd (-2147483647) 40 y_27 := add_rg ty_27 b_4 kb_1 (by decide)
      refine g_put (C := RX0) (T := TX0) (N := 14) hx hb hts (mc_ inX0) tyX0 tyX0_ok nmX0 hown hK g ma0_ ka0_ (by decide) rfl 11 (by decide) (hts _ (List.mem_cons_of_mem _ t_384)) (fun _ h9 => h9) rfl rfl (okV_i (bd_sub b_28 (by decide))) rfl rfl (by decide) (Or.inr (Or.inl (by decide))) (fx' := [(0, 8, a0_, .int x_24), (8, 6, q0_, .int 1201), (7, 18, q1_, .int y_6), (0, 0, a0_, .ref q0_), (0, 2, a0_, .ref q1_), (8, 8, q0_, .int y1_)]) rfl dX0_openCall_116 (fun f H locs hM_29 g => ?_)
      have kb_1201 : bd 1201 1201 (1201 : Int32) := ⟨by decide, by decide⟩
      subst hQ
      exact W.vret hx hb hr (fun t ht hW => ⟨⟨_, rfl, ⟨x_24, h_25, 1201, kb_1201, (g.fcts [1, 2] rfl)⟩, q3_of g hK ht hW⟩, g.2.2.1.F ht⟩) g.2.2.1.2.2 dX0_openCall_119
  · have fc_3 := nlt_f c_3
    have b_30 : bd 40 2147483647 x_2 := leR fc_3 kb_40 (bdT x_2) (by decide)
    refine lv_aload_n hx hb dX0_openCall_18 rfl (lv_at hl 1 rfl) ?_
    refine g_getk (C := RX0) (T := TX0) (N := 14) hx hb hts (mc_ inX0) hown hK g rfl 0 (by decide) rfl (hts _ (List.mem_cons_of_mem _ t_373)) (fun _ h9 => h9) 1 rfl dX0_openCall_19 ?_
    refine lv_iconst (v := 4) hx hb dX0_openCall_22 (by decide) ?_
    refine lv_iload hx hb dX0_openCall_23 (lv_at hl 0 rfl) ?_
    have kb_4 : bd 4 4 (4 : Int32) := ⟨by decide, by decide⟩
    refine g_callv (va_runV (As := [.int 4, .int r_1]) (rest := []) ⟨hx, hb, hml, hown, hts⟩ (r_X8_fail_6 l dC dI L kd tys fr_1 H.size g.2.2.2.1 q0_ mq0_ kq0_ 4 kb_4 r_1 y1_ by1_ (g.fcts [4] rfl)) (cwV 2 hts (gV_ t_1215 t_1107 t_1108 t_184 t_1109) rfl rfl rfl (by decide +kernel) ⟨(Nat.le_of_ble_eq_true rfl), (Nat.le_of_ble_eq_true rfl)⟩) (pre3V g hK mq0_ kq0_ (by decide) (q := (RX8, TX8, 10)) rfl) rfl rfl hl.1 rfl (lv_room (Nat.le_of_ble_eq_true rfl)) dX0_openCall_25 ⟨(Nat.le_of_ble_eq_true rfl), (Nat.le_of_ble_eq_true rfl)⟩) g hK (by decide) (by decide) (fx' := [(0, 11, a0_, .int x_2), (0, 0, a0_, .ref q0_), (0, 2, a0_, .ref q1_), (8, 8, q0_, .int y1_)]) rfl (fun fr_31 H locs hp hMr_31 g => ?_)
    have hF_32 := hp
    have g := g.more hF_32
    refine lv_aload_n hx hb dX0_openCall_28 rfl (lv_at hl 1 rfl) ?_
    refine g_getk (C := RX0) (T := TX0) (N := 14) hx hb hts (mc_ inX0) hown hK g rfl 2 (by decide) rfl (hts _ (List.mem_cons_of_mem _ t_375)) (fun _ h9 => h9) 3 rfl dX0_openCall_29 ?_
    refine lv_dup hx hb dX0_openCall_32 rfl ?_
    refine g_geti (C := RX7) (T := TX7) (N := 19) hx hb hts (mc_ inX7) hown hK g mq1_ kq1_ (by decide) rfl 18 (by decide) rfl (hts _ (List.mem_cons_of_mem _ t_681)) (fun _ h9 => h9) rfl dX0_openCall_33 (fun x_33 bx_33 g => ?_)
    refine lv_iconst (v := 1) hx hb dX0_openCall_36 (by decide) ?_
    have kb_1 : bd 1 1 (1 : Int32) := ⟨by decide, by decide⟩
    refine lv_iadd hx hb dX0_openCall_37 ?_
    refine lv_topi (fun y_34 ey_34 => ?_)
    refine g_put (C := RX7) (T := TX7) (N := 19) hx hb hts (mc_ inX7) tyX7 tyX7_ok nmX7 hown hK g mq1_ kq1_ (by decide) rfl 18 (by decide) (hts _ (List.mem_cons_of_mem _ t_681)) (fun _ h9 => h9) rfl rfl (okV_i (bdT y_34)) rfl rfl (by decide) (Or.inr (Or.inl (by decide))) (fx' := [(8, 6, q0_, .int 1201), (0, 11, a0_, .int x_2), (0, 0, a0_, .ref q0_), (0, 2, a0_, .ref q1_), (8, 8, q0_, .int y1_)]) rfl dX0_openCall_38 (fun f H locs hM_35 g => ?_)
    refine lv_aload_n hx hb dX0_openCall_41 rfl (lv_at hl 1 rfl) ?_
    refine g_getk (C := RX0) (T := TX0) (N := 14) hx hb hts (mc_ inX0) hown hK g rfl 0 (by decide) rfl (hts _ (List.mem_cons_of_mem _ t_373)) (fun _ h9 => h9) 3 rfl dX0_openCall_42 ?_
    have kb_1201 : bd 1201 1201 (1201 : Int32) := ⟨by decide, by decide⟩
    refine g_callv (va_runV (As := []) (rest := []) ⟨hx, hb, hml, hown, hts⟩ (r_X8_next_2 l dC dI L kd tys f H.size g.2.2.2.1 q0_ mq0_ kq0_ 1201 kb_1201 (g.fcts [1] rfl)) (cwV 0 hts (gV_ t_1225 t_1103 t_1104 t_184 t_1105) rfl rfl rfl (by decide +kernel) ⟨(Nat.le_of_ble_eq_true rfl), (Nat.le_of_ble_eq_true rfl)⟩) (pre3V g hK mq0_ kq0_ (by decide) (q := (RX8, TX8, 10)) rfl) rfl rfl hl.1 rfl (lv_room (Nat.le_of_ble_eq_true rfl)) dX0_openCall_45 ⟨(Nat.le_of_ble_eq_true rfl), (Nat.le_of_ble_eq_true rfl)⟩) g hK (by decide) (by decide) (fx' := [(7, 18, q1_, .int y_34), (8, 6, q0_, .int 1201), (0, 11, a0_, .int x_2), (0, 0, a0_, .ref q0_), (0, 2, a0_, .ref q1_), (8, 8, q0_, .int y1_)]) rfl (fun fr_36 H locs hp hMr_36 g => ?_)
    refine lv_aload_n hx hb dX0_openCall_48 rfl (lv_at hl 1 rfl) ?_
    refine g_getk (C := RX0) (T := TX0) (N := 14) hx hb hts (mc_ inX0) hown hK g rfl 0 (by decide) rfl (hts _ (List.mem_cons_of_mem _ t_373)) (fun _ h9 => h9) 3 rfl dX0_openCall_49 ?_
    refine g_calli (va_runV (As := []) (rest := []) ⟨hx, hb, hml, hown, hts⟩ (r_X8_place l dC dI L kd tys fr_36 H.size g.2.2.2.1 q0_ mq0_ kq0_) (cwV 0 hts (gV_ t_1220 t_1111 t_1112 t_184 t_1113) rfl rfl rfl (by decide +kernel) ⟨(Nat.le_of_ble_eq_true rfl), (Nat.le_of_ble_eq_true rfl)⟩) (pre3V g hK mq0_ kq0_ (by decide) (q := (RX8, TX8, 10)) rfl) rfl rfl hl.1 rfl (lv_room (Nat.le_of_ble_eq_true rfl)) dX0_openCall_52 ⟨(Nat.le_of_ble_eq_true rfl), (Nat.le_of_ble_eq_true rfl)⟩) g hK (by decide) (by decide) (fx' := [(7, 18, q1_, .int y_34), (8, 6, q0_, .int 1201), (0, 11, a0_, .int x_2), (0, 0, a0_, .ref q0_), (0, 2, a0_, .ref q1_), (8, 8, q0_, .int y1_)]) rfl (fun r_37 fr_37 H locs hp hMr_37 g => ?_)
    refine lv_istore (lv' := [(6, .int r_37), (5, .int r_1), (0, .ref a0_), (1, .int x1_), (2, .int x2_), (3, .int x3_), (4, .int x4_)]) hx hb dX0_openCall_55 hl (by decide) rfl (fun ls hl => ?_)
    refine lv_aload_n hx hb dX0_openCall_57 rfl (lv_at hl 2 rfl) ?_
    refine g_getk (C := RX0) (T := TX0) (N := 14) hx hb hts (mc_ inX0) hown hK g rfl 0 (by decide) rfl (hts _ (List.mem_cons_of_mem _ t_373)) (fun _ h9 => h9) 3 rfl dX0_openCall_58 ?_
    refine g_calli (va_runV (As := []) (rest := []) ⟨hx, hb, hml, hown, hts⟩ (r_X8_kind_2 l dC dI L kd tys fr_37 H.size g.2.2.2.1 q0_ mq0_ kq0_ 1201 kb_1201 (g.fcts [1] rfl)) (cwV 0 hts (gV_ t_1186 t_1119 t_1120 t_184 t_1121) rfl rfl rfl (by decide +kernel) ⟨(Nat.le_of_ble_eq_true rfl), (Nat.le_of_ble_eq_true rfl)⟩) (pre3V g hK mq0_ kq0_ (by decide) (q := (RX8, TX8, 10)) rfl) rfl rfl hl.1 rfl (lv_room (Nat.le_of_ble_eq_true rfl)) dX0_openCall_61 ⟨(Nat.le_of_ble_eq_true rfl), (Nat.le_of_ble_eq_true rfl)⟩) g hK (by decide) (by decide) (fx' := [(7, 18, q1_, .int y_34), (8, 6, q0_, .int 1201), (0, 11, a0_, .int x_2), (0, 0, a0_, .ref q0_), (0, 2, a0_, .ref q1_), (8, 8, q0_, .int y1_)]) rfl (fun r_38 fr_38 H locs hp hMr_38 g => ?_)
    obtain ⟨h_39, -⟩ := hp
    obtain rfl : r_38 = 0 := h_39
    refine lv_bipush (v := 41) hx hb dX0_openCall_64 (by decide) ?_
    refine lv_icmp_ne (tgt := 73) hx hb dX0_openCall_66 (by decide) (fun c_ => ?_) (fun c_ => absurd c_ (by decide))
    refine lv_iconst (v := 0) hx hb dX0_openCall_73 (by decide) ?_
    refine lv_istore (lv' := [(7, .int 0), (6, .int r_37), (5, .int r_1), (0, .ref a0_), (1, .int x1_), (2, .int x2_), (3, .int x3_), (4, .int x4_)]) hx hb dX0_openCall_74 hl (by decide) rfl (fun ls hl => ?_)
    refine lv_iload hx hb dX0_openCall_76 (lv_at hl 7 rfl) ?_
    have kb_0 : bd 0 0 (0 : Int32) := ⟨by decide, by decide⟩
    refine lv_if_ne (tgt := 97) hx hb dX0_openCall_78 (by decide) (fun c_40 => ?_) (fun c_40 => ?_)
    · have fc_40 := neq_f c_40
      refine lv_iload hx hb dX0_openCall_97 (lv_at hl 0 rfl) ?_
      refine lv_if_ne (tgt := 120) hx hb dX0_openCall_99 (by decide) (fun c_ => absurd c_ (by decide)) (fun c_ => ?_)
      refine lv_aload_n hx hb dX0_openCall_102 rfl (lv_at hl 3 rfl) ?_
      refine lv_iload_n hx hb dX0_openCall_103 rfl (lv_at hl 4 rfl) ?_
      refine lv_iload_n hx hb dX0_openCall_104 rfl (lv_at hl 5 rfl) ?_
      refine lv_iload_n hx hb dX0_openCall_105 rfl (lv_at hl 6 rfl) ?_
      refine g_callv (va_runV (As := [.int x1_, .int x2_, .int x3_]) (rest := []) ⟨hx, hb, hml, hown, hts⟩ (r_X0_push l dC dI L kd tys fr_38 H.size g.2.2.2.1 a0_ ma0_ ka0_ x1_ x2_ x3_) (cwV 3 hts (gV_ t_1221 t_1223 t_19 t_190 t_1224) rfl rfl rfl (by decide +kernel) ⟨(Nat.le_of_ble_eq_true rfl), (Nat.le_of_ble_eq_true rfl)⟩) (pre3V g hK ma0_ ka0_ (by decide) (q := (RX0, TX0, 14)) rfl) rfl rfl hl.1 rfl (lv_room (Nat.le_of_ble_eq_true rfl)) dX0_openCall_106 ⟨(Nat.le_of_ble_eq_true rfl), (Nat.le_of_ble_eq_true rfl)⟩) g hK (by decide) (by decide) (fx' := [(7, 18, q1_, .int y_34), (8, 6, q0_, .int 1201), (0, 11, a0_, .int x_2), (0, 0, a0_, .ref q0_), (0, 2, a0_, .ref q1_), (8, 8, q0_, .int y1_)]) rfl (fun fr_41 H locs hp hMr_41 g => ?_)
      obtain ⟨x_42, h_43, hF_44⟩ := hp
      have g := g.more hF_44
      refine lv_aload_n hx hb dX0_openCall_109 rfl (lv_at hl 3 rfl) ?_
      refine lv_dup hx hb dX0_openCall_110 rfl ?_
      refine g_getk (C := RX0) (T := TX0) (N := 14) hx hb hts (mc_ inX0) hown hK g rfl 11 (by decide) rfl (hts _ (List.mem_cons_of_mem _ t_384)) (fun _ h9 => h9) 3 rfl dX0_openCall_111 ?_
      refine lv_iconst (v := 1) hx hb dX0_openCall_114 (by decide) ?_
      refine lv_iadd hx hb dX0_openCall_115 ?_
      refine lv_topi (fun y_45 ey_45 => ?_)
      refine g_put (C := RX0) (T := TX0) (N := 14) hx hb hts (mc_ inX0) tyX0 tyX0_ok nmX0 hown hK g ma0_ ka0_ (by decide) rfl 11 (by decide) (hts _ (List.mem_cons_of_mem _ t_384)) (fun _ h9 => h9) rfl rfl (okV_i (bdT y_45)) rfl rfl (by decide) (Or.inr (Or.inl (by decide))) (fx' := [(0, 8, a0_, .int x_42), (7, 18, q1_, .int y_34), (8, 6, q0_, .int 1201), (0, 0, a0_, .ref q0_), (0, 2, a0_, .ref q1_), (8, 8, q0_, .int y1_)]) rfl dX0_openCall_116 (fun f H locs hM_46 g => ?_)
      subst hQ
      exact W.vret hx hb hr (fun t ht hW => ⟨⟨_, rfl, ⟨x_42, h_43, 1201, kb_1201, (g.fcts [1, 3] rfl)⟩, q3_of g hK ht hW⟩, g.2.2.1.F ht⟩) g.2.2.1.2.2 dX0_openCall_119
    · have fc_40 := eq_f c_40
      have b_47 : bd 0 0 x4_ := eqX fc_40 (bdT x4_) kb_0 (by decide)
      refine lv_iload hx hb dX0_openCall_81 (lv_at hl 0 rfl) ?_
      refine lv_if_ne (tgt := 97) hx hb dX0_openCall_83 (by decide) (fun c_ => absurd c_ (by decide)) (fun c_ => ?_)
      refine lv_aload_n hx hb dX0_openCall_86 rfl (lv_at hl 3 rfl) ?_
      refine g_getk (C := RX0) (T := TX0) (N := 14) hx hb hts (mc_ inX0) hown hK g rfl 0 (by decide) rfl (hts _ (List.mem_cons_of_mem _ t_373)) (fun _ h9 => h9) 3 rfl dX0_openCall_87 ?_
      refine lv_bipush (v := 6) hx hb dX0_openCall_90 (by decide) ?_
      refine lv_iload hx hb dX0_openCall_92 (lv_at hl 2 rfl) ?_
      have kb_6 : bd 6 6 (6 : Int32) := ⟨by decide, by decide⟩
      refine g_callv (va_runV (As := [.int 6, .int r_1]) (rest := []) ⟨hx, hb, hml, hown, hts⟩ (r_X8_fail_5 l dC dI L kd tys fr_38 H.size g.2.2.2.1 q0_ mq0_ kq0_ 6 kb_6 r_1 y1_ by1_ (g.fcts [5] rfl)) (cwV 2 hts (gV_ t_1215 t_1107 t_1108 t_184 t_1109) rfl rfl rfl (by decide +kernel) ⟨(Nat.le_of_ble_eq_true rfl), (Nat.le_of_ble_eq_true rfl)⟩) (pre3V g hK mq0_ kq0_ (by decide) (q := (RX8, TX8, 10)) rfl) rfl rfl hl.1 rfl (lv_room (Nat.le_of_ble_eq_true rfl)) dX0_openCall_94 ⟨(Nat.le_of_ble_eq_true rfl), (Nat.le_of_ble_eq_true rfl)⟩) g hK (by decide) (by decide) (fx' := [(7, 18, q1_, .int y_34), (0, 11, a0_, .int x_2), (0, 0, a0_, .ref q0_), (0, 2, a0_, .ref q1_), (8, 8, q0_, .int y1_)]) rfl (fun fr_48 H locs hp hMr_48 g => ?_)
      have hF_49 := hp
      have g := g.more hF_49
      refine lv_iload hx hb dX0_openCall_97 (lv_at hl 0 rfl) ?_
      refine lv_if_ne (tgt := 120) hx hb dX0_openCall_99 (by decide) (fun c_ => absurd c_ (by decide)) (fun c_ => ?_)
      refine lv_aload_n hx hb dX0_openCall_102 rfl (lv_at hl 3 rfl) ?_
      refine lv_iload_n hx hb dX0_openCall_103 rfl (lv_at hl 4 rfl) ?_
      refine lv_iload_n hx hb dX0_openCall_104 rfl (lv_at hl 5 rfl) ?_
      refine lv_iload_n hx hb dX0_openCall_105 rfl (lv_at hl 6 rfl) ?_
      refine g_callv (va_runV (As := [.int x1_, .int x2_, .int x3_]) (rest := []) ⟨hx, hb, hml, hown, hts⟩ (r_X0_push l dC dI L kd tys fr_48 H.size g.2.2.2.1 a0_ ma0_ ka0_ x1_ x2_ x3_) (cwV 3 hts (gV_ t_1221 t_1223 t_19 t_190 t_1224) rfl rfl rfl (by decide +kernel) ⟨(Nat.le_of_ble_eq_true rfl), (Nat.le_of_ble_eq_true rfl)⟩) (pre3V g hK ma0_ ka0_ (by decide) (q := (RX0, TX0, 14)) rfl) rfl rfl hl.1 rfl (lv_room (Nat.le_of_ble_eq_true rfl)) dX0_openCall_106 ⟨(Nat.le_of_ble_eq_true rfl), (Nat.le_of_ble_eq_true rfl)⟩) g hK (by decide) (by decide) (fx' := [(8, 6, q0_, .int 1201), (7, 18, q1_, .int y_34), (0, 11, a0_, .int x_2), (0, 0, a0_, .ref q0_), (0, 2, a0_, .ref q1_), (8, 8, q0_, .int y1_)]) rfl (fun fr_50 H locs hp hMr_50 g => ?_)
      obtain ⟨x_51, h_52, hF_53⟩ := hp
      have g := g.more hF_53
      refine lv_aload_n hx hb dX0_openCall_109 rfl (lv_at hl 3 rfl) ?_
      refine lv_dup hx hb dX0_openCall_110 rfl ?_
      refine g_getk (C := RX0) (T := TX0) (N := 14) hx hb hts (mc_ inX0) hown hK g rfl 11 (by decide) rfl (hts _ (List.mem_cons_of_mem _ t_384)) (fun _ h9 => h9) 3 rfl dX0_openCall_111 ?_
      refine lv_iconst (v := 1) hx hb dX0_openCall_114 (by decide) ?_
      refine lv_iadd hx hb dX0_openCall_115 ?_
      refine lv_topi (fun y_54 ey_54 => ?_)
      refine g_put (C := RX0) (T := TX0) (N := 14) hx hb hts (mc_ inX0) tyX0 tyX0_ok nmX0 hown hK g ma0_ ka0_ (by decide) rfl 11 (by decide) (hts _ (List.mem_cons_of_mem _ t_384)) (fun _ h9 => h9) rfl rfl (okV_i (bdT y_54)) rfl rfl (by decide) (Or.inr (Or.inl (by decide))) (fx' := [(0, 8, a0_, .int x_51), (8, 6, q0_, .int 1201), (7, 18, q1_, .int y_34), (0, 0, a0_, .ref q0_), (0, 2, a0_, .ref q1_), (8, 8, q0_, .int y1_)]) rfl dX0_openCall_116 (fun f H locs hM_55 g => ?_)
      subst hQ
      exact W.vret hx hb hr (fun t ht hW => ⟨⟨_, rfl, ⟨x_51, h_52, 1201, kb_1201, (g.fcts [1, 2] rfl)⟩, q3_of g hK ht hW⟩, g.2.2.1.F ht⟩) g.2.2.1.2.2 dX0_openCall_119
