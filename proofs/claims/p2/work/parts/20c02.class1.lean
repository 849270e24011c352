set_option maxHeartbeats 4000000 in
set_option maxRecDepth 100000 in
theorem r_X0_openCall (l : Launch) (dC : Nat → ClassId) (dI : Nat → Nat → Nat) (L : List Nat) (kd : Nat → Nat) (tys : List (ClassId × FieldType)) (f0 : Nat → va_E) (sz : Nat) (hWT : WT L kd tys f0) (a0_ : Nat) (ma0_ : a0_ ∈ L) (ka0_ : kd a0_ = 0) (x1_ : Int32) (x2_ : Int32) (x3_ : Int32) (x4_ : Int32) (q0_ : Nat) (mq0_ : q0_ ∈ L) (kq0_ : kd q0_ = 8) (q1_ : Nat) (mq1_ : q1_ ∈ L) (kq1_ : kd q1_ = 7) (hfx : Fs L kd f0 [(0, 0, a0_, .ref q0_), (0, 2, a0_, .ref q1_)]) : Met l yX0_openCall (.code yX0_openCall cX0_openCall 8 none :: lw_g) ({ frames := 1, cells := 0, slots := 0, locals := 23 }) (va_Pc [.ref a0_, .int x1_, .int x2_, .int x3_, .int x4_] (P3 (dC, dI) L tys f0 sz)) (va_Qv (fun (f : Nat → va_E) => (∃ z0_ : Int32, bd 1 1201 z0_ ∧ Fs L kd f [(8, 6, q0_, .int z0_)])) (Q3 (dC, dI) L kd tys [(0, 8), (0, 10), (0, 11), (0, 12), (7, 6), (7, 18), (8, 6), (8, 8), (8, 9)] [110, 111, 112, 113, 114, 115, 138, 139] f0 sz) (pA L sz)) 0 0 (pA L sz) := by
  refine Met.ofW (cc := cX0_openCall) (maxL := 8) (ret := none) (by decide) rfl ?_
  intro p e s m args below meth c s₁ B hml hv
  obtain ⟨rfl, hsz, hP, hK, hD0⟩ := hv
  have hx := B.exec
  have hb := B.bytes
  have hr := B.returns
  have hts := atoms_spec (ws := (.code yX0_openCall cX0_openCall 8 none :: lw_g)) B.pre
  have hown : s.vm.findClass RX0 = some m.cls := findClass_of_methodNamed B.named
  have hlocks := B.notSynchronized
  subst hsz
  have g : G3 (dC, dI) L kd tys s f0 [(0, 8), (0, 10), (0, 11), (0, 12), (7, 6), (7, 18), (8, 6), (8, 8), (8, 9)] [110, 111, 112, 113, 114, 115, 138, 139] f0 s.heap [] [(0, 0, a0_, .ref q0_), (0, 2, a0_, .ref q1_)] := G3.start hP hD0 hWT hfx
  have hl := lv_entry ([.ref a0_, .int x1_, .int x2_, .int x3_, .int x4_]) (n := 8) (Nat.le_of_ble_eq_true rfl)
  rw [lg_entry_eq]
  generalize (lg_sl ([.ref a0_, .int x1_, .int x2_, .int x3_, .int x4_]) ++ List.replicate (8 - (lg_sl ([.ref a0_, .int x1_, .int x2_, .int x3_, .int x4_])).length) Slot.unset).toArray = ls at hl ⊢
  have hl : lv_has ls 8 [(0, .ref a0_), (1, .int x1_), (2, .int x2_), (3, .int x3_), (4, .int x4_)] := hl
  refine W_q (fun Q hQ => ?_)
  refine lv_aload_n hx hb dX0_openCall_0 rfl (lv_at hl 0 rfl) ?_
  refine g_getk (C := RX0) (T := TX0) (N := 14) hx hb hts (mc_ inX0) hown hK g rfl 0 (by decide) rfl (hts _ (List.mem_cons_of_mem _ t_373)) (fun _ h9 => h9) 0 rfl dX0_openCall_1 ?_
  refine g_calli (va_runV (As := []) (rest := []) ⟨hx, hb, hml, hown, hts⟩ (r_X8_place l dC dI L kd tys f0 s.heap.size g.2.2.2.1 q0_ mq0_ kq0_) (cwV 0 hts (gV_ t_1220 t_1111 t_1112 t_184 t_1113) rfl rfl rfl (by decide +kernel) ⟨(Nat.le_of_ble_eq_true rfl), (Nat.le_of_ble_eq_true rfl)⟩) (pre3V g hK mq0_ kq0_ (by decide) (q := (RX8, TX8, 10)) rfl) rfl rfl hl.1 rfl (lv_room (Nat.le_of_ble_eq_true rfl)) dX0_openCall_4 ⟨(Nat.le_of_ble_eq_true rfl), (Nat.le_of_ble_eq_true rfl)⟩) g hK (by decide) (by decide) (fx' := [(0, 0, a0_, .ref q0_), (0, 2, a0_, .ref q1_)]) rfl (fun r_1 fr_1 H locs hp hMr_1 g => ?_)
  refine lv_istore (lv' := [(5, .int r_1), (0, .ref a0_), (1, .int x1_), (2, .int x2_), (3, .int x3_), (4, .int x4_)]) hx hb dX0_openCall_7 hl (by decide) rfl (fun ls hl => ?_)
  refine lv_aload_n hx hb dX0_openCall_9 rfl (lv_at hl 1 rfl) ?_
  refine g_geti (C := RX0) (T := TX0) (N := 14) hx hb hts (mc_ inX0) hown hK g ma0_ ka0_ (by decide) rfl 11 (by decide) rfl (hts _ (List.mem_cons_of_mem _ t_384)) (fun _ h9 => h9) rfl dX0_openCall_10 (fun x_2 bx_2 g => ?_)
  refine lv_bipush (v := 40) hx hb dX0_openCall_13 (by decide) ?_
  have kb_40 : bd 40 40 (40 : Int32) := ⟨by decide, by decide⟩
  refine lv_icmp_lt (tgt := 28) hx hb dX0_openCall_15 (by decide) (fun c_3 => ?_) (fun c_3 => ?_)
  · have fc_3 := lt_f c_3
    have b_4 : bd (-2147483648) 39 x_2 := ltL fc_3 (bdT x_2) kb_40 (by decide)
    refine lv_aload_n hx hb dX0_openCall_28 rfl (lv_at hl 1 rfl) ?_
    refine g_getk (C := RX0) (T := TX0) (N := 14) hx hb hts (mc_ inX0) hown hK g rfl 2 (by decide) rfl (hts _ (List.mem_cons_of_mem _ t_375)) (fun _ h9 => h9) 2 rfl dX0_openCall_29 ?_
    refine lv_dup hx hb dX0_openCall_32 rfl ?_
    refine g_geti (C := RX7) (T := TX7) (N := 19) hx hb hts (mc_ inX7) hown hK g mq1_ kq1_ (by decide) rfl 18 (by decide) rfl (hts _ (List.mem_cons_of_mem _ t_681)) (fun _ h9 => h9) rfl dX0_openCall_33 (fun x_5 bx_5 g => ?_)
    refine lv_iconst (v := 1) hx hb dX0_openCall_36 (by decide) ?_
    have kb_1 : bd 1 1 (1 : Int32) := ⟨by decide, by decide⟩
    refine lv_iadd hx hb dX0_openCall_37 ?_
    refine lv_topi (fun y_6 ey_6 => ?_)
    refine g_put (C := RX7) (T := TX7) (N := 19) hx hb hts (mc_ inX7) tyX7 tyX7_ok nmX7 hown hK g mq1_ kq1_ (by decide) rfl 18 (by decide) (hts _ (List.mem_cons_of_mem _ t_681)) (fun _ h9 => h9) rfl rfl (okV_i (bdT y_6)) rfl rfl (by decide) (Or.inr (Or.inl (by decide))) (fx' := [(0, 11, a0_, .int x_2), (0, 0, a0_, .ref q0_), (0, 2, a0_, .ref q1_)]) rfl dX0_openCall_38 (fun f H locs hM_7 g => ?_)
    refine lv_aload_n hx hb dX0_openCall_41 rfl (lv_at hl 1 rfl) ?_
    refine g_getk (C := RX0) (T := TX0) (N := 14) hx hb hts (mc_ inX0) hown hK g rfl 0 (by decide) rfl (hts _ (List.mem_cons_of_mem _ t_373)) (fun _ h9 => h9) 2 rfl dX0_openCall_42 ?_
    refine g_callv (va_runV (As := []) (rest := []) ⟨hx, hb, hml, hown, hts⟩ (r_X8_next l dC dI L kd tys f H.size g.2.2.2.1 q0_ mq0_ kq0_) (cwV 0 hts (gV_ t_1225 t_1103 t_1104 t_184 t_1105) rfl rfl rfl (by decide +kernel) ⟨(Nat.le_of_ble_eq_true rfl), (Nat.le_of_ble_eq_true rfl)⟩) (pre3V g hK mq0_ kq0_ (by decide) (q := (RX8, TX8, 10)) rfl) rfl rfl hl.1 rfl (lv_room (Nat.le_of_ble_eq_true rfl)) dX0_openCall_45 ⟨(Nat.le_of_ble_eq_true rfl), (Nat.le_of_ble_eq_true rfl)⟩) g hK (by decide) (by decide) (fx' := [(7, 18, q1_, .int y_6), (0, 11, a0_, .int x_2), (0, 0, a0_, .ref q0_), (0, 2, a0_, .ref q1_)]) rfl (fun fr_8 H locs hp hMr_8 g => ?_)
    obtain ⟨x_9, h_10, hF_11⟩ := hp
    have g := g.more hF_11
    refine lv_aload_n hx hb dX0_openCall_48 rfl (lv_at hl 1 rfl) ?_
    refine g_getk (C := RX0) (T := TX0) (N := 14) hx hb hts (mc_ inX0) hown hK g rfl 0 (by decide) rfl (hts _ (List.mem_cons_of_mem _ t_373)) (fun _ h9 => h9) 3 rfl dX0_openCall_49 ?_
    refine g_calli (va_runV (As := []) (rest := []) ⟨hx, hb, hml, hown, hts⟩ (r_X8_place l dC dI L kd tys fr_8 H.size g.2.2.2.1 q0_ mq0_ kq0_) (cwV 0 hts (gV_ t_1220 t_1111 t_1112 t_184 t_1113) rfl rfl rfl (by decide +kernel) ⟨(Nat.le_of_ble_eq_true rfl), (Nat.le_of_ble_eq_true rfl)⟩) (pre3V g hK mq0_ kq0_ (by decide) (q := (RX8, TX8, 10)) rfl) rfl rfl hl.1 rfl (lv_room (Nat.le_of_ble_eq_true rfl)) dX0_openCall_52 ⟨(Nat.le_of_ble_eq_true rfl), (Nat.le_of_ble_eq_true rfl)⟩) g hK (by decide) (by decide) (fx' := [(8, 6, q0_, .int x_9), (7, 18, q1_, .int y_6), (0, 11, a0_, .int x_2), (0, 0, a0_, .ref q0_), (0, 2, a0_, .ref q1_)]) rfl (fun r_12 fr_12 H locs hp hMr_12 g => ?_)
    refine lv_istore (lv' := [(6, .int r_12), (5, .int r_1), (0, .ref a0_), (1, .int x1_), (2, .int x2_), (3, .int x3_), (4, .int x4_)]) hx hb dX0_openCall_55 hl (by decide) rfl (fun ls hl => ?_)
    refine lv_aload_n hx hb dX0_openCall_57 rfl (lv_at hl 2 rfl) ?_
    refine g_getk (C := RX0) (T := TX0) (N := 14) hx hb hts (mc_ inX0) hown hK g rfl 0 (by decide) rfl (hts _ (List.mem_cons_of_mem _ t_373)) (fun _ h9 => h9) 3 rfl dX0_openCall_58 ?_
    refine g_calli (va_runV (As := []) (rest := []) ⟨hx, hb, hml, hown, hts⟩ (r_X8_kind l dC dI L kd tys fr_12 H.size g.2.2.2.1 q0_ mq0_ kq0_) (cwV 0 hts (gV_ t_1186 t_1119 t_1120 t_184 t_1121) rfl rfl rfl (by decide +kernel) ⟨(Nat.le_of_ble_eq_true rfl), (Nat.le_of_ble_eq_true rfl)⟩) (pre3V g hK mq0_ kq0_ (by decide) (q := (RX8, TX8, 10)) rfl) rfl rfl hl.1 rfl (lv_room (Nat.le_of_ble_eq_true rfl)) dX0_openCall_61 ⟨(Nat.le_of_ble_eq_true rfl), (Nat.le_of_ble_eq_true rfl)⟩) g hK (by decide) (by decide) (fx' := [(8, 6, q0_, .int x_9), (7, 18, q1_, .int y_6), (0, 11, a0_, .int x_2), (0, 0, a0_, .ref q0_), (0, 2, a0_, .ref q1_)]) rfl (fun r_13 fr_13 H locs hp hMr_13 g => ?_)
    refine lv_bipush (v := 41) hx hb dX0_openCall_64 (by decide) ?_
    have kb_41 : bd 41 41 (41 : Int32) := ⟨by decide, by decide⟩
    refine lv_icmp_ne (tgt := 73) hx hb dX0_openCall_66 (by decide) (fun c_14 => ?_) (fun c_14 => ?_)
    · have fc_14 := neq_f c_14
      refine lv_iconst (v := 0) hx hb dX0_openCall_73 (by decide) ?_
      refine lv_istore (lv' := [(7, .int 0), (6, .int r_12), (5, .int r_1), (0, .ref a0_), (1, .int x1_), (2, .int x2_), (3, .int x3_), (4, .int x4_)]) hx hb dX0_openCall_74 hl (by decide) rfl (fun ls hl => ?_)
      refine lv_iload hx hb dX0_openCall_76 (lv_at hl 7 rfl) ?_
      have kb_0 : bd 0 0 (0 : Int32) := ⟨by decide, by decide⟩
      refine lv_if_ne (tgt := 97) hx hb dX0_openCall_78 (by decide) (fun c_15 => ?_) (fun c_15 => ?_)
      · have fc_15 := neq_f c_15
        refine lv_iload hx hb dX0_openCall_97 (lv_at hl 0 rfl) ?_
        refine lv_if_ne (tgt := 120) hx hb dX0_openCall_99 (by decide) (fun c_ => absurd c_ (by decide)) (fun c_ => ?_)
        refine lv_aload_n hx hb dX0_openCall_102 rfl (lv_at hl 3 rfl) ?_
        refine lv_iload_n hx hb dX0_openCall_103 rfl (lv_at hl 4 rfl) ?_
        refine lv_iload_n hx hb dX0_openCall_104 rfl (lv_at hl 5 rfl) ?_
        refine lv_iload_n hx hb dX0_openCall_105 rfl (lv_at hl 6 rfl) ?_
        refine g_callv (va_runV (As := [.int x1_, .int x2_, .int x3_]) (rest := []) ⟨hx, hb, hml, hown, hts⟩ (r_X0_push l dC dI L kd tys fr_13 H.size g.2.2.2.1 a0_ ma0_ ka0_ x1_ x2_ x3_) (cwV 3 hts (gV_ t_1221 t_1223 t_19 t_190 t_1224) rfl rfl rfl (by decide +kernel) ⟨(Nat.le_of_ble_eq_true rfl), (Nat.le_of_ble_eq_true rfl)⟩) (pre3V g hK ma0_ ka0_ (by decide) (q := (RX0, TX0, 14)) rfl) rfl rfl hl.1 rfl (lv_room (Nat.le_of_ble_eq_true rfl)) dX0_openCall_106 ⟨(Nat.le_of_ble_eq_true rfl), (Nat.le_of_ble_eq_true rfl)⟩) g hK (by decide) (by decide) (fx' := [(8, 6, q0_, .int x_9), (7, 18, q1_, .int y_6), (0, 11, a0_, .int x_2), (0, 0, a0_, .ref q0_), (0, 2, a0_, .ref q1_)]) rfl (fun fr_16 H locs hp hMr_16 g => ?_)
        obtain ⟨x_17, h_18, hF_19⟩ := hp
        have g := g.more hF_19
        refine lv_aload_n hx hb dX0_openCall_109 rfl (lv_at hl 3 rfl) ?_
        refine lv_dup hx hb dX0_openCall_110 rfl ?_
        refine g_getk (C := RX0) (T := TX0) (N := 14) hx hb hts (mc_ inX0) hown hK g rfl 11 (by decide) rfl (hts _ (List.mem_cons_of_mem _ t_384)) (fun _ h9 => h9) 3 rfl dX0_openCall_111 ?_
        refine lv_iconst (v := 1) hx hb dX0_openCall_114 (by decide) ?_
        refine lv_iadd hx hb dX0_openCall_115 ?_
        refine lv_topi (fun y_20 ey_20 => ?_)
        have ty_20 := add_bd ey_20 b_4 kb_1 (by decide)
        have b_21 : bd (-2147483647) 40 y_20 := add_rg ty_20 b_4 kb_1 (by decide)
        refine g_put (C := RX0) (T := TX0) (N := 14) hx hb hts (mc_ inX0) tyX0 tyX0_ok nmX0 hown hK g ma0_ ka0_ (by decide) rfl 11 (by decide) (hts _ (List.mem_cons_of_mem _ t_384)) (fun _ h9 => h9) rfl rfl (okV_i (bd_sub b_21 (by decide))) rfl rfl (by decide) (Or.inr (Or.inl (by decide))) (fx' := [(0, 8, a0_, .int x_17), (8, 6, q0_, .int x_9), (7, 18, q1_, .int y_6), (0, 0, a0_, .ref q0_), (0, 2, a0_, .ref q1_)]) rfl dX0_openCall_116 (fun f H locs hM_22 g => ?_)
        subst hQ
        exact W.vret hx hb hr (fun t ht hW => ⟨⟨_, rfl, ⟨x_9, h_10, (g.fcts [2] rfl)⟩, q3_of g hK ht hW⟩, g.2.2.1.F ht⟩) g.2.2.1.2.2 dX0_openCall_119
      · have fc_15 := eq_f c_15
        have b_23 : bd 0 0 x4_ := eqX fc_15 (bdT x4_) kb_0 (by decide)
        refine lv_iload hx hb dX0_openCall_81 (lv_at hl 0 rfl) ?_
        refine lv_if_ne (tgt := 97) hx hb dX0_openCall_83 (by decide) (fun c_ => absurd c_ (by decide)) (fun c_ => ?_)
        refine lv_aload_n hx hb dX0_openCall_86 rfl (lv_at hl 3 rfl) ?_
        refine g_getk (C := RX0) (T := TX0) (N := 14) hx hb hts (mc_ inX0) hown hK g rfl 0 (by decide) rfl (hts _ (List.mem_cons_of_mem _ t_373)) (fun _ h9 => h9) 3 rfl dX0_openCall_87 ?_
        refine lv_bipush (v := 6) hx hb dX0_openCall_90 (by decide) ?_
        refine lv_iload hx hb dX0_openCall_92 (lv_at hl 2 rfl) ?_
        have kb_6 : bd 6 6 (6 : Int32) := ⟨by decide, by decide⟩
        refine g_callv (va_runV (As := [.int 6, .int r_1]) (rest := []) ⟨hx, hb, hml, hown, hts⟩ (r_X8_fail_4 l dC dI L kd tys fr_13 H.size g.2.2.2.1 q0_ mq0_ kq0_ 6 kb_6 r_1 x_9 h_10 (g.fcts [0] rfl)) (cwV 2 hts (gV_ t_1215 t_1107 t_1108 t_184 t_1109) rfl rfl rfl (by decide +kernel) ⟨(Nat.le_of_ble_eq_true rfl), (Nat.le_of_ble_eq_true rfl)⟩) (pre3V g hK mq0_ kq0_ (by decide) (q := (RX8, TX8, 10)) rfl) rfl rfl hl.1 rfl (lv_room (Nat.le_of_ble_eq_true rfl)) dX0_openCall_94 ⟨(Nat.le_of_ble_eq_true rfl), (Nat.le_of_ble_eq_true rfl)⟩) g hK (by decide) (by decide) (fx' := [(7, 18, q1_, .int y_6), (0, 11, a0_, .int x_2), (0, 0, a0_, .ref q0_), (0, 2, a0_, .ref q1_)]) rfl (fun fr_24 H locs hp hMr_24 g => ?_)
        obtain ⟨x_25, h_26, hF_27⟩ := hp
        have g := g.more hF_27
        refine lv_iload hx hb dX0_openCall_97 (lv_at hl 0 rfl) ?_
        refine lv_if_ne (tgt := 120) hx hb dX0_openCall_99 (by decide) (fun c_ => absurd c_ (by decide)) (fun c_ => ?_)
        refine lv_aload_n hx hb dX0_openCall_102 rfl (lv_at hl 3 rfl) ?_
        refine lv_iload_n hx hb dX0_openCall_103 rfl (lv_at hl 4 rfl) ?_
        refine lv_iload_n hx hb dX0_openCall_104 rfl (lv_at hl 5 rfl) ?_
        refine lv_iload_n hx hb dX0_openCall_105 rfl (lv_at hl 6 rfl) ?_
        refine g_callv (va_runV (As := [.int x1_, .int x2_, .int x3_]) (rest := []) ⟨hx, hb, hml, hown, hts⟩ (r_X0_push l dC dI L kd tys fr_24 H.size g.2.2.2.1 a0_ ma0_ ka0_ x1_ x2_ x3_) (cwV 3 hts (gV_ t_1221 t_1223 t_19 t_190 t_1224) rfl rfl rfl (by decide +kernel) ⟨(Nat.le_of_ble_eq_true rfl), (Nat.le_of_ble_eq_true rfl)⟩) (pre3V g hK ma0_ ka0_ (by decide) (q := (RX0, TX0, 14)) rfl) rfl rfl hl.1 rfl (lv_room (Nat.le_of_ble_eq_true rfl)) dX0_openCall_106 ⟨(Nat.le_of_ble_eq_true rfl), (Nat.le_of_ble_eq_true rfl)⟩) g hK (by decide) (by decide) (fx' := [(8, 6, q0_, .int 1201), (8, 8, q0_, .int x_25), (7, 18, q1_, .int y_6), (0, 11, a0_, .int x_2), (0, 0, a0_, .ref q0_), (0, 2, a0_, .ref q1_)]) rfl (fun fr_28 H locs hp hMr_28 g => ?_)
        obtain ⟨x_29, h_30, hF_31⟩ := hp
        have g := g.more hF_31
        refine lv_aload_n hx hb dX0_openCall_109 rfl (lv_at hl 3 rfl) ?_
        refine lv_dup hx hb dX0_openCall_110 rfl ?_
        refine g_getk (C := RX0) (T := TX0) (N := 14) hx hb hts (mc_ inX0) hown hK g rfl 11 (by decide) rfl (hts _ (List.mem_cons_of_mem _ t_384)) (fun _ h9 => h9) 4 rfl dX0_openCall_111 ?_
        refine lv_iconst (v := 1) hx hb dX0_openCall_114 (by decide) ?_
        refine lv_iadd hx hb dX0_openCall_115 ?_
        refine lv_topi (fun y_32 ey_32 => ?_)
        have ty_32 := add_bd ey_32 b_4 kb_1 (by decide)
        have b_33 : bd (-2147483647) 40 y_32 := add_rg ty_32 b_4 kb_1 (by decide)
        refine g_put (C := RX0) (T := TX0) (N := 14) hx hb hts (mc_ inX0) tyX0 tyX0_ok nmX0 hown hK g ma0_ ka0_ (by decide) rfl 11 (by decide) (hts _ (List.mem_cons_of_mem _ t_384)) (fun _ h9 => h9) rfl rfl (okV_i (bd_sub b_33 (by decide))) rfl rfl (by decide) (Or.inr (Or.inl (by decide))) (fx' := [(0, 8, a0_, .int x_29), (8, 6, q0_, .int 1201), (8, 8, q0_, .int x_25), (7, 18, q1_, .int y_6), (0, 0, a0_, .ref q0_), (0, 2, a0_, .ref q1_)]) rfl dX0_openCall_116 (fun f H locs hM_34 g => ?_)
        have kb_1201 : bd 1201 1201 (1201 : Int32) := ⟨by decide, by decide⟩
        subst hQ
        exact W.vret hx hb hr (fun t ht hW => ⟨⟨_, rfl, ⟨1201, (bd_sub kb_1201 (by decide)), (g.fcts [2] rfl)⟩, q3_of g hK ht hW⟩, g.2.2.1.F ht⟩) g.2.2.1.2.2 dX0_openCall_119
    · have fc_14 := eq_f c_14
      have b_35 : bd 41 41 r_13 := eqX fc_14 (bdT r_13) kb_41 (by decide)
      refine lv_iconst (v := 1) hx hb dX0_openCall_69 (by decide) ?_
      refine lv_goto (tgt := 74) hx hb dX0_openCall_70 (by decide) ?_
      refine lv_istore (lv' := [(7, .int 1), (6, .int r_12), (5, .int r_1), (0, .ref a0_), (1, .int x1_), (2, .int x2_), (3, .int x3_), (4, .int x4_)]) hx hb dX0_openCall_74 hl (by decide) rfl (fun ls hl => ?_)
      refine lv_iload hx hb dX0_openCall_76 (lv_at hl 7 rfl) ?_
      have kb_0 : bd 0 0 (0 : Int32) := ⟨by decide, by decide⟩
      refine lv_if_ne (tgt := 97) hx hb dX0_openCall_78 (by decide) (fun c_36 => ?_) (fun c_36 => ?_)
      · have fc_36 := neq_f c_36
        refine lv_iload hx hb dX0_openCall_97 (lv_at hl 0 rfl) ?_
        refine lv_if_ne (tgt := 120) hx hb dX0_openCall_99 (by decide) (fun c_ => ?_) (fun c_ => absurd c_ (by decide))
        refine lv_aload_n hx hb dX0_openCall_120 rfl (lv_at hl 3 rfl) ?_
        refine g_getk (C := RX0) (T := TX0) (N := 14) hx hb hts (mc_ inX0) hown hK g rfl 0 (by decide) rfl (hts _ (List.mem_cons_of_mem _ t_373)) (fun _ h9 => h9) 3 rfl dX0_openCall_121 ?_
        refine g_callv (va_runV (As := []) (rest := []) ⟨hx, hb, hml, hown, hts⟩ (r_X8_next l dC dI L kd tys fr_13 H.size g.2.2.2.1 q0_ mq0_ kq0_) (cwV 0 hts (gV_ t_1225 t_1103 t_1104 t_184 t_1105) rfl rfl rfl (by decide +kernel) ⟨(Nat.le_of_ble_eq_true rfl), (Nat.le_of_ble_eq_true rfl)⟩) (pre3V g hK mq0_ kq0_ (by decide) (q := (RX8, TX8, 10)) rfl) rfl rfl hl.1 rfl (lv_room (Nat.le_of_ble_eq_true rfl)) dX0_openCall_124 ⟨(Nat.le_of_ble_eq_true rfl), (Nat.le_of_ble_eq_true rfl)⟩) g hK (by decide) (by decide) (fx' := [(7, 18, q1_, .int y_6), (0, 11, a0_, .int x_2), (0, 0, a0_, .ref q0_), (0, 2, a0_, .ref q1_)]) rfl (fun fr_37 H locs hp hMr_37 g => ?_)
        obtain ⟨x_38, h_39, hF_40⟩ := hp
        have g := g.more hF_40
        refine lv_iload hx hb dX0_openCall_127 (lv_at hl 7 rfl) ?_
        refine lv_if_le (tgt := 143) hx hb dX0_openCall_129 (by decide) (fun c_41 => ?_) (fun c_41 => ?_)
        · have fc_41 := le_f c_41
          have b_42 : bd (-2147483648) 0 x4_ := leL fc_41 (bdT x4_) kb_0 (by decide)
          refine lv_aload_n hx hb dX0_openCall_143 rfl (lv_at hl 3 rfl) ?_
          refine g_getk (C := RX0) (T := TX0) (N := 14) hx hb hts (mc_ inX0) hown hK g rfl 2 (by decide) rfl (hts _ (List.mem_cons_of_mem _ t_375)) (fun _ h9 => h9) 4 rfl dX0_openCall_144 ?_
          refine lv_bipush (v := 13) hx hb dX0_openCall_147 (by decide) ?_
          refine lv_iconst (v := 0) hx hb dX0_openCall_149 (by decide) ?_
          refine g_callv (va_runV (As := [.int 13, .int 0]) (rest := []) ⟨hx, hb, hml, hown, hts⟩ (r_X7_emit l dC dI L kd tys fr_37 H.size g.2.2.2.1 q1_ mq1_ kq1_ 13 0) (cwV 2 hts (gV_ t_1203 t_1204 t_1205 t_191 t_1206) rfl rfl rfl (by decide +kernel) ⟨(Nat.le_of_ble_eq_true rfl), (Nat.le_of_ble_eq_true rfl)⟩) (pre3V g hK mq1_ kq1_ (by decide) (q := (RX7, TX7, 19)) rfl) rfl rfl hl.1 rfl (lv_room (Nat.le_of_ble_eq_true rfl)) dX0_openCall_150 ⟨(Nat.le_of_ble_eq_true rfl), (Nat.le_of_ble_eq_true rfl)⟩) g hK (by decide) (by decide) (fx' := [(8, 6, q0_, .int x_38), (7, 18, q1_, .int y_6), (0, 11, a0_, .int x_2), (0, 0, a0_, .ref q0_), (0, 2, a0_, .ref q1_)]) rfl (fun fr_43 H locs hp hMr_43 g => ?_)
          obtain ⟨x_44, h_45, hF_46⟩ := hp
          have g := g.more hF_46
          refine lv_aload_n hx hb dX0_openCall_153 rfl (lv_at hl 3 rfl) ?_
          refine g_getk (C := RX0) (T := TX0) (N := 14) hx hb hts (mc_ inX0) hown hK g rfl 2 (by decide) rfl (hts _ (List.mem_cons_of_mem _ t_375)) (fun _ h9 => h9) 5 rfl dX0_openCall_154 ?_
          refine lv_iload_n hx hb dX0_openCall_157 rfl (lv_at hl 4 rfl) ?_
          refine lv_iconst (v := 2) hx hb dX0_openCall_158 (by decide) ?_
          have kb_2 : bd 2 2 (2 : Int32) := ⟨by decide, by decide⟩
          refine lv_icmp_ne (tgt := 167) hx hb dX0_openCall_159 (by decide) (fun c_47 => ?_) (fun c_47 => ?_)
          · have fc_47 := neq_f c_47
            refine lv_bipush (v := 18) hx hb dX0_openCall_167 (by decide) ?_
            refine lv_iload_n hx hb dX0_openCall_169 rfl (lv_at hl 6 rfl) ?_
            refine g_callv (va_runV (As := [.int 18, .int x3_]) (rest := []) ⟨hx, hb, hml, hown, hts⟩ (r_X7_emit l dC dI L kd tys fr_43 H.size g.2.2.2.1 q1_ mq1_ kq1_ 18 x3_) (cwV 2 hts (gV_ t_1203 t_1204 t_1205 t_191 t_1206) rfl rfl rfl (by decide +kernel) ⟨(Nat.le_of_ble_eq_true rfl), (Nat.le_of_ble_eq_true rfl)⟩) (pre3V g hK mq1_ kq1_ (by decide) (q := (RX7, TX7, 19)) rfl) rfl rfl hl.1 rfl (lv_room (Nat.le_of_ble_eq_true rfl)) dX0_openCall_170 ⟨(Nat.le_of_ble_eq_true rfl), (Nat.le_of_ble_eq_true rfl)⟩) g hK (by decide) (by decide) (fx' := [(8, 6, q0_, .int x_38), (7, 18, q1_, .int y_6), (0, 11, a0_, .int x_2), (0, 0, a0_, .ref q0_), (0, 2, a0_, .ref q1_)]) rfl (fun fr_48 H locs hp hMr_48 g => ?_)
            obtain ⟨x_49, h_50, hF_51⟩ := hp
            have g := g.more hF_51
            refine lv_aload_n hx hb dX0_openCall_173 rfl (lv_at hl 3 rfl) ?_
            refine lv_iconst (v := 1) hx hb dX0_openCall_174 (by decide) ?_
            refine g_callv (va_runV (As := [.int 1]) (rest := []) ⟨hx, hb, hml, hown, hts⟩ (r_X0_addWhole l dC dI L kd tys fr_48 H.size g.2.2.2.1 a0_ ma0_ ka0_ 1) (cwV 1 hts (gV_ t_1211 t_1213 t_17 t_190 t_1214) rfl rfl rfl (by decide +kernel) ⟨(Nat.le_of_ble_eq_true rfl), (Nat.le_of_ble_eq_true rfl)⟩) (pre3V g hK ma0_ ka0_ (by decide) (q := (RX0, TX0, 14)) rfl) rfl rfl hl.1 rfl (lv_room (Nat.le_of_ble_eq_true rfl)) dX0_openCall_175 ⟨(Nat.le_of_ble_eq_true rfl), (Nat.le_of_ble_eq_true rfl)⟩) g hK (by decide) (by decide) (fx' := [(7, 6, q1_, .int x_49), (8, 6, q0_, .int x_38), (7, 18, q1_, .int y_6), (0, 11, a0_, .int x_2), (0, 0, a0_, .ref q0_), (0, 2, a0_, .ref q1_)]) rfl (fun fr_52 H locs hp hMr_52 g => ?_)
            obtain ⟨x_53, h_54, hF_55⟩ := hp
            have g := g.more hF_55
            subst hQ
            exact W.vret hx hb hr (fun t ht hW => ⟨⟨_, rfl, ⟨x_38, h_39, (g.fcts [3] rfl)⟩, q3_of g hK ht hW⟩, g.2.2.1.F ht⟩) g.2.2.1.2.2 dX0_openCall_178
          · have fc_47 := eq_f c_47
            have b_56 : bd 2 2 x1_ := eqX fc_47 (bdT x1_) kb_2 (by decide)
            refine lv_bipush (v := 17) hx hb dX0_openCall_162 (by decide) ?_
            refine lv_goto (tgt := 169) hx hb dX0_openCall_164 (by decide) ?_
            refine lv_iload_n hx hb dX0_openCall_169 rfl (lv_at hl 6 rfl) ?_
            refine g_callv (va_runV (As := [.int 17, .int x3_]) (rest := []) ⟨hx, hb, hml, hown, hts⟩ (r_X7_emit l dC dI L kd tys fr_43 H.size g.2.2.2.1 q1_ mq1_ kq1_ 17 x3_) (cwV 2 hts (gV_ t_1203 t_1204 t_1205 t_191 t_1206) rfl rfl rfl (by decide +kernel) ⟨(Nat.le_of_ble_eq_true rfl), (Nat.le_of_ble_eq_true rfl)⟩) (pre3V g hK mq1_ kq1_ (by decide) (q := (RX7, TX7, 19)) rfl) rfl rfl hl.1 rfl (lv_room (Nat.le_of_ble_eq_true rfl)) dX0_openCall_170 ⟨(Nat.le_of_ble_eq_true rfl), (Nat.le_of_ble_eq_true rfl)⟩) g hK (by decide) (by decide) (fx' := [(8, 6, q0_, .int x_38), (7, 18, q1_, .int y_6), (0, 11, a0_, .int x_2), (0, 0, a0_, .ref q0_), (0, 2, a0_, .ref q1_)]) rfl (fun fr_57 H locs hp hMr_57 g => ?_)
            obtain ⟨x_58, h_59, hF_60⟩ := hp
            have g := g.more hF_60
            refine lv_aload_n hx hb dX0_openCall_173 rfl (lv_at hl 3 rfl) ?_
            refine lv_iconst (v := 1) hx hb dX0_openCall_174 (by decide) ?_
            refine g_callv (va_runV (As := [.int 1]) (rest := []) ⟨hx, hb, hml, hown, hts⟩ (r_X0_addWhole l dC dI L kd tys fr_57 H.size g.2.2.2.1 a0_ ma0_ ka0_ 1) (cwV 1 hts (gV_ t_1211 t_1213 t_17 t_190 t_1214) rfl rfl rfl (by decide +kernel) ⟨(Nat.le_of_ble_eq_true rfl), (Nat.le_of_ble_eq_true rfl)⟩) (pre3V g hK ma0_ ka0_ (by decide) (q := (RX0, TX0, 14)) rfl) rfl rfl hl.1 rfl (lv_room (Nat.le_of_ble_eq_true rfl)) dX0_openCall_175 ⟨(Nat.le_of_ble_eq_true rfl), (Nat.le_of_ble_eq_true rfl)⟩) g hK (by decide) (by decide) (fx' := [(7, 6, q1_, .int x_58), (8, 6, q0_, .int x_38), (7, 18, q1_, .int y_6), (0, 11, a0_, .int x_2), (0, 0, a0_, .ref q0_), (0, 2, a0_, .ref q1_)]) rfl (fun fr_61 H locs hp hMr_61 g => ?_)
            obtain ⟨x_62, h_63, hF_64⟩ := hp
            have g := g.more hF_64
            subst hQ
            exact W.vret hx hb hr (fun t ht hW => ⟨⟨_, rfl, ⟨x_38, h_39, (g.fcts [3] rfl)⟩, q3_of g hK ht hW⟩, g.2.2.1.F ht⟩) g.2.2.1.2.2 dX0_openCall_178
        · have fc_41 := nle_f c_41
          have b_65 : bd 1 2147483647 x4_ := ltR fc_41 kb_0 (bdT x4_) (by decide)
          refine lv_aload_n hx hb dX0_openCall_132 rfl (lv_at hl 3 rfl) ?_
          refine g_getk (C := RX0) (T := TX0) (N := 14) hx hb hts (mc_ inX0) hown hK g rfl 0 (by decide) rfl (hts _ (List.mem_cons_of_mem _ t_373)) (fun _ h9 => h9) 3 rfl dX0_openCall_133 ?_
          refine lv_bipush (v := 6) hx hb dX0_openCall_136 (by decide) ?_
          refine lv_iload hx hb dX0_openCall_138 (lv_at hl 1 rfl) ?_
          have kb_6 : bd 6 6 (6 : Int32) := ⟨by decide, by decide⟩
          refine g_callv (va_runV (As := [.int 6, .int r_12]) (rest := []) ⟨hx, hb, hml, hown, hts⟩ (r_X8_fail_4 l dC dI L kd tys fr_37 H.size g.2.2.2.1 q0_ mq0_ kq0_ 6 kb_6 r_12 x_38 h_39 (g.fcts [0] rfl)) (cwV 2 hts (gV_ t_1215 t_1107 t_1108 t_184 t_1109) rfl rfl rfl (by decide +kernel) ⟨(Nat.le_of_ble_eq_true rfl), (Nat.le_of_ble_eq_true rfl)⟩) (pre3V g hK mq0_ kq0_ (by decide) (q := (RX8, TX8, 10)) rfl) rfl rfl hl.1 rfl (lv_room (Nat.le_of_ble_eq_true rfl)) dX0_openCall_140 ⟨(Nat.le_of_ble_eq_true rfl), (Nat.le_of_ble_eq_true rfl)⟩) g hK (by decide) (by decide) (fx' := [(7, 18, q1_, .int y_6), (0, 11, a0_, .int x_2), (0, 0, a0_, .ref q0_), (0, 2, a0_, .ref q1_)]) rfl (fun fr_66 H locs hp hMr_66 g => ?_)
          obtain ⟨x_67, h_68, hF_69⟩ := hp
          have g := g.more hF_69
          refine lv_aload_n hx hb dX0_openCall_143 rfl (lv_at hl 3 rfl) ?_
          refine g_getk (C := RX0) (T := TX0) (N := 14) hx hb hts (mc_ inX0) hown hK g rfl 2 (by decide) rfl (hts _ (List.mem_cons_of_mem _ t_375)) (fun _ h9 => h9) 5 rfl dX0_openCall_144 ?_
          refine lv_bipush (v := 13) hx hb dX0_openCall_147 (by decide) ?_
          refine lv_iconst (v := 0) hx hb dX0_openCall_149 (by decide) ?_
          refine g_callv (va_runV (As := [.int 13, .int 0]) (rest := []) ⟨hx, hb, hml, hown, hts⟩ (r_X7_emit l dC dI L kd tys fr_66 H.size g.2.2.2.1 q1_ mq1_ kq1_ 13 0) (cwV 2 hts (gV_ t_1203 t_1204 t_1205 t_191 t_1206) rfl rfl rfl (by decide +kernel) ⟨(Nat.le_of_ble_eq_true rfl), (Nat.le_of_ble_eq_true rfl)⟩) (pre3V g hK mq1_ kq1_ (by decide) (q := (RX7, TX7, 19)) rfl) rfl rfl hl.1 rfl (lv_room (Nat.le_of_ble_eq_true rfl)) dX0_openCall_150 ⟨(Nat.le_of_ble_eq_true rfl), (Nat.le_of_ble_eq_true rfl)⟩) g hK (by decide) (by decide) (fx' := [(8, 6, q0_, .int 1201), (8, 8, q0_, .int x_67), (7, 18, q1_, .int y_6), (0, 11, a0_, .int x_2), (0, 0, a0_, .ref q0_), (0, 2, a0_, .ref q1_)]) rfl (fun fr_70 H locs hp hMr_70 g => ?_)
          obtain ⟨x_71, h_72, hF_73⟩ := hp
          have g := g.more hF_73
          refine lv_aload_n hx hb dX0_openCall_153 rfl (lv_at hl 3 rfl) ?_
          refine g_getk (C := RX0) (T := TX0) (N := 14) hx hb hts (mc_ inX0) hown hK g rfl 2 (by decide) rfl (hts _ (List.mem_cons_of_mem _ t_375)) (fun _ h9 => h9) 6 rfl dX0_openCall_154 ?_
          refine lv_iload_n hx hb dX0_openCall_157 rfl (lv_at hl 4 rfl) ?_
          refine lv_iconst (v := 2) hx hb dX0_openCall_158 (by decide) ?_
          have kb_2 : bd 2 2 (2 : Int32) := ⟨by decide, by decide⟩
          refine lv_icmp_ne (tgt := 167) hx hb dX0_openCall_159 (by decide) (fun c_74 => ?_) (fun c_74 => ?_)
          · have fc_74 := neq_f c_74
            refine lv_bipush (v := 18) hx hb dX0_openCall_167 (by decide) ?_
            refine lv_iload_n hx hb dX0_openCall_169 rfl (lv_at hl 6 rfl) ?_
            refine g_callv (va_runV (As := [.int 18, .int x3_]) (rest := []) ⟨hx, hb, hml, hown, hts⟩ (r_X7_emit l dC dI L kd tys fr_70 H.size g.2.2.2.1 q1_ mq1_ kq1_ 18 x3_) (cwV 2 hts (gV_ t_1203 t_1204 t_1205 t_191 t_1206) rfl rfl rfl (by decide +kernel) ⟨(Nat.le_of_ble_eq_true rfl), (Nat.le_of_ble_eq_true rfl)⟩) (pre3V g hK mq1_ kq1_ (by decide) (q := (RX7, TX7, 19)) rfl) rfl rfl hl.1 rfl (lv_room (Nat.le_of_ble_eq_true rfl)) dX0_openCall_170 ⟨(Nat.le_of_ble_eq_true rfl), (Nat.le_of_ble_eq_true rfl)⟩) g hK (by decide) (by decide) (fx' := [(8, 6, q0_, .int 1201), (8, 8, q0_, .int x_67), (7, 18, q1_, .int y_6), (0, 11, a0_, .int x_2), (0, 0, a0_, .ref q0_), (0, 2, a0_, .ref q1_)]) rfl (fun fr_75 H locs hp hMr_75 g => ?_)
            obtain ⟨x_76, h_77, hF_78⟩ := hp
            have g := g.more hF_78
            refine lv_aload_n hx hb dX0_openCall_173 rfl (lv_at hl 3 rfl) ?_
            refine lv_iconst (v := 1) hx hb dX0_openCall_174 (by decide) ?_
            refine g_callv (va_runV (As := [.int 1]) (rest := []) ⟨hx, hb, hml, hown, hts⟩ (r_X0_addWhole l dC dI L kd tys fr_75 H.size g.2.2.2.1 a0_ ma0_ ka0_ 1) (cwV 1 hts (gV_ t_1211 t_1213 t_17 t_190 t_1214) rfl rfl rfl (by decide +kernel) ⟨(Nat.le_of_ble_eq_true rfl), (Nat.le_of_ble_eq_true rfl)⟩) (pre3V g hK ma0_ ka0_ (by decide) (q := (RX0, TX0, 14)) rfl) rfl rfl hl.1 rfl (lv_room (Nat.le_of_ble_eq_true rfl)) dX0_openCall_175 ⟨(Nat.le_of_ble_eq_true rfl), (Nat.le_of_ble_eq_true rfl)⟩) g hK (by decide) (by decide) (fx' := [(7, 6, q1_, .int x_76), (8, 6, q0_, .int 1201), (8, 8, q0_, .int x_67), (7, 18, q1_, .int y_6), (0, 11, a0_, .int x_2), (0, 0, a0_, .ref q0_), (0, 2, a0_, .ref q1_)]) rfl (fun fr_79 H locs hp hMr_79 g => ?_)
            obtain ⟨x_80, h_81, hF_82⟩ := hp
            have g := g.more hF_82
            have kb_1201 : bd 1201 1201 (1201 : Int32) := ⟨by decide, by decide⟩
            subst hQ
            exact W.vret hx hb hr (fun t ht hW => ⟨⟨_, rfl, ⟨1201, (bd_sub kb_1201 (by decide)), (g.fcts [3] rfl)⟩, q3_of g hK ht hW⟩, g.2.2.1.F ht⟩) g.2.2.1.2.2 dX0_openCall_178
          · have fc_74 := eq_f c_74
            have b_83 : bd 2 2 x1_ := eqX fc_74 (bdT x1_) kb_2 (by decide)
            refine lv_bipush (v := 17) hx hb dX0_openCall_162 (by decide) ?_
            refine lv_goto (tgt := 169) hx hb dX0_openCall_164 (by decide) ?_
            refine lv_iload_n hx hb dX0_openCall_169 rfl (lv_at hl 6 rfl) ?_
            refine g_callv (va_runV (As := [.int 17, .int x3_]) (rest := []) ⟨hx, hb, hml, hown, hts⟩ (r_X7_emit l dC dI L kd tys fr_70 H.size g.2.2.2.1 q1_ mq1_ kq1_ 17 x3_) (cwV 2 hts (gV_ t_1203 t_1204 t_1205 t_191 t_1206) rfl rfl rfl (by decide +kernel) ⟨(Nat.le_of_ble_eq_true rfl), (Nat.le_of_ble_eq_true rfl)⟩) (pre3V g hK mq1_ kq1_ (by decide) (q := (RX7, TX7, 19)) rfl) rfl rfl hl.1 rfl (lv_room (Nat.le_of_ble_eq_true rfl)) dX0_openCall_170 ⟨(Nat.le_of_ble_eq_true rfl), (Nat.le_of_ble_eq_true rfl)⟩) g hK (by decide) (by decide) (fx' := [(8, 6, q0_, .int 1201), (8, 8, q0_, .int x_67), (7, 18, q1_, .int y_6), (0, 11, a0_, .int x_2), (0, 0, a0_, .ref q0_), (0, 2, a0_, .ref q1_)]) rfl (fun fr_84 H locs hp hMr_84 g => ?_)
            obtain ⟨x_85, h_86, hF_87⟩ := hp
            have g := g.more hF_87
            refine lv_aload_n hx hb dX0_openCall_173 rfl (lv_at hl 3 rfl) ?_
            refine lv_iconst (v := 1) hx hb dX0_openCall_174 (by decide) ?_
            refine g_callv (va_runV (As := [.int 1]) (rest := []) ⟨hx, hb, hml, hown, hts⟩ (r_X0_addWhole l dC dI L kd tys fr_84 H.size g.2.2.2.1 a0_ ma0_ ka0_ 1) (cwV 1 hts (gV_ t_1211 t_1213 t_17 t_190 t_1214) rfl rfl rfl (by decide +kernel) ⟨(Nat.le_of_ble_eq_true rfl), (Nat.le_of_ble_eq_true rfl)⟩) (pre3V g hK ma0_ ka0_ (by decide) (q := (RX0, TX0, 14)) rfl) rfl rfl hl.1 rfl (lv_room (Nat.le_of_ble_eq_true rfl)) dX0_openCall_175 ⟨(Nat.le_of_ble_eq_true rfl), (Nat.le_of_ble_eq_true rfl)⟩) g hK (by decide) (by decide) (fx' := [(7, 6, q1_, .int x_85), (8, 6, q0_, .int 1201), (8, 8, q0_, .int x_67), (7, 18, q1_, .int y_6), (0, 11, a0_, .int x_2), (0, 0, a0_, .ref q0_), (0, 2, a0_, .ref q1_)]) rfl (fun fr_88 H locs hp hMr_88 g => ?_)
            obtain ⟨x_89, h_90, hF_91⟩ := hp
            have g := g.more hF_91
            have kb_1201 : bd 1201 1201 (1201 : Int32) := ⟨by decide, by decide⟩
            subst hQ
            exact W.vret hx hb hr (fun t ht hW => ⟨⟨_, rfl, ⟨1201, (bd_sub kb_1201 (by decide)), (g.fcts [3] rfl)⟩, q3_of g hK ht hW⟩, g.2.2.1.F ht⟩) g.2.2.1.2.2 dX0_openCall_178
      · have fc_36 := eq_f c_36
        have b_92 : bd 0 0 x4_ := eqX fc_36 (bdT x4_) kb_0 (by decide)
        refine lv_iload hx hb dX0_openCall_81 (lv_at hl 0 rfl) ?_
        refine lv_if_ne (tgt := 97) hx hb dX0_openCall_83 (by decide) (fun c_ => ?_) (fun c_ => absurd c_ (by decide))
        refine lv_iload hx hb dX0_openCall_97 (lv_at hl 0 rfl) ?_
        refine lv_if_ne (tgt := 120) hx hb dX0_openCall_99 (by decide) (fun c_ => ?_) (fun c_ => absurd c_ (by decide))
        refine lv_aload_n hx hb dX0_openCall_120 rfl (lv_at hl 3 rfl) ?_
        refine g_getk (C := RX0) (T := TX0) (N := 14) hx hb hts (mc_ inX0) hown hK g rfl 0 (by decide) rfl (hts _ (List.mem_cons_of_mem _ t_373)) (fun _ h9 => h9) 3 rfl dX0_openCall_121 ?_
        refine g_callv (va_runV (As := []) (rest := []) ⟨hx, hb, hml, hown, hts⟩ (r_X8_next l dC dI L kd tys fr_13 H.size g.2.2.2.1 q0_ mq0_ kq0_) (cwV 0 hts (gV_ t_1225 t_1103 t_1104 t_184 t_1105) rfl rfl rfl (by decide +kernel) ⟨(Nat.le_of_ble_eq_true rfl), (Nat.le_of_ble_eq_true rfl)⟩) (pre3V g hK mq0_ kq0_ (by decide) (q := (RX8, TX8, 10)) rfl) rfl rfl hl.1 rfl (lv_room (Nat.le_of_ble_eq_true rfl)) dX0_openCall_124 ⟨(Nat.le_of_ble_eq_true rfl), (Nat.le_of_ble_eq_true rfl)⟩) g hK (by decide) (by decide) (fx' := [(7, 18, q1_, .int y_6), (0, 11, a0_, .int x_2), (0, 0, a0_, .ref q0_), (0, 2, a0_, .ref q1_)]) rfl (fun fr_93 H locs hp hMr_93 g => ?_)
        obtain ⟨x_94, h_95, hF_96⟩ := hp
        have g := g.more hF_96
        refine lv_iload hx hb dX0_openCall_127 (lv_at hl 7 rfl) ?_
        refine lv_if_le (tgt := 143) hx hb dX0_openCall_129 (by decide) (fun c_97 => ?_) (fun c_97 => ?_)
        · have fc_97 := le_f c_97
          refine lv_aload_n hx hb dX0_openCall_143 rfl (lv_at hl 3 rfl) ?_
          refine g_getk (C := RX0) (T := TX0) (N := 14) hx hb hts (mc_ inX0) hown hK g rfl 2 (by decide) rfl (hts _ (List.mem_cons_of_mem _ t_375)) (fun _ h9 => h9) 4 rfl dX0_openCall_144 ?_
          refine lv_bipush (v := 13) hx hb dX0_openCall_147 (by decide) ?_
          refine lv_iconst (v := 0) hx hb dX0_openCall_149 (by decide) ?_
          refine g_callv (va_runV (As := [.int 13, .int 0]) (rest := []) ⟨hx, hb, hml, hown, hts⟩ (r_X7_emit l dC dI L kd tys fr_93 H.size g.2.2.2.1 q1_ mq1_ kq1_ 13 0) (cwV 2 hts (gV_ t_1203 t_1204 t_1205 t_191 t_1206) rfl rfl rfl (by decide +kernel) ⟨(Nat.le_of_ble_eq_true rfl), (Nat.le_of_ble_eq_true rfl)⟩) (pre3V g hK mq1_ kq1_ (by decide) (q := (RX7, TX7, 19)) rfl) rfl rfl hl.1 rfl (lv_room (Nat.le_of_ble_eq_true rfl)) dX0_openCall_150 ⟨(Nat.le_of_ble_eq_true rfl), (Nat.le_of_ble_eq_true rfl)⟩) g hK (by decide) (by decide) (fx' := [(8, 6, q0_, .int x_94), (7, 18, q1_, .int y_6), (0, 11, a0_, .int x_2), (0, 0, a0_, .ref q0_), (0, 2, a0_, .ref q1_)]) rfl (fun fr_98 H locs hp hMr_98 g => ?_)
          obtain ⟨x_99, h_100, hF_101⟩ := hp
          have g := g.more hF_101
          refine lv_aload_n hx hb dX0_openCall_153 rfl (lv_at hl 3 rfl) ?_
          refine g_getk (C := RX0) (T := TX0) (N := 14) hx hb hts (mc_ inX0) hown hK g rfl 2 (by decide) rfl (hts _ (List.mem_cons_of_mem _ t_375)) (fun _ h9 => h9) 5 rfl dX0_openCall_154 ?_
          refine lv_iload_n hx hb dX0_openCall_157 rfl (lv_at hl 4 rfl) ?_
          refine lv_iconst (v := 2) hx hb dX0_openCall_158 (by decide) ?_
          have kb_2 : bd 2 2 (2 : Int32) := ⟨by decide, by decide⟩
          refine lv_icmp_ne (tgt := 167) hx hb dX0_openCall_159 (by decide) (fun c_102 => ?_) (fun c_102 => ?_)
          · have fc_102 := neq_f c_102
            refine lv_bipush (v := 18) hx hb dX0_openCall_167 (by decide) ?_
            refine lv_iload_n hx hb dX0_openCall_169 rfl (lv_at hl 6 rfl) ?_
            refine g_callv (va_runV (As := [.int 18, .int x3_]) (rest := []) ⟨hx, hb, hml, hown, hts⟩ (r_X7_emit l dC dI L kd tys fr_98 H.size g.2.2.2.1 q1_ mq1_ kq1_ 18 x3_) (cwV 2 hts (gV_ t_1203 t_1204 t_1205 t_191 t_1206) rfl rfl rfl (by decide +kernel) ⟨(Nat.le_of_ble_eq_true rfl), (Nat.le_of_ble_eq_true rfl)⟩) (pre3V g hK mq1_ kq1_ (by decide) (q := (RX7, TX7, 19)) rfl) rfl rfl hl.1 rfl (lv_room (Nat.le_of_ble_eq_true rfl)) dX0_openCall_170 ⟨(Nat.le_of_ble_eq_true rfl), (Nat.le_of_ble_eq_true rfl)⟩) g hK (by decide) (by decide) (fx' := [(8, 6, q0_, .int x_94), (7, 18, q1_, .int y_6), (0, 11, a0_, .int x_2), (0, 0, a0_, .ref q0_), (0, 2, a0_, .ref q1_)]) rfl (fun fr_103 H locs hp hMr_103 g => ?_)
            obtain ⟨x_104, h_105, hF_106⟩ := hp
            have g := g.more hF_106
            refine lv_aload_n hx hb dX0_openCall_173 rfl (lv_at hl 3 rfl) ?_
            refine lv_iconst (v := 1) hx hb dX0_openCall_174 (by decide) ?_
            refine g_callv (va_runV (As := [.int 1]) (rest := []) ⟨hx, hb, hml, hown, hts⟩ (r_X0_addWhole l dC dI L kd tys fr_103 H.size g.2.2.2.1 a0_ ma0_ ka0_ 1) (cwV 1 hts (gV_ t_1211 t_1213 t_17 t_190 t_1214) rfl rfl rfl (by decide +kernel) ⟨(Nat.le_of_ble_eq_true rfl), (Nat.le_of_ble_eq_true rfl)⟩) (pre3V g hK ma0_ ka0_ (by decide) (q := (RX0, TX0, 14)) rfl) rfl rfl hl.1 rfl (lv_room (Nat.le_of_ble_eq_true rfl)) dX0_openCall_175 ⟨(Nat.le_of_ble_eq_true rfl), (Nat.le_of_ble_eq_true rfl)⟩) g hK (by decide) (by decide) (fx' := [(7, 6, q1_, .int x_104), (8, 6, q0_, .int x_94), (7, 18, q1_, .int y_6), (0, 11, a0_, .int x_2), (0, 0, a0_, .ref q0_), (0, 2, a0_, .ref q1_)]) rfl (fun fr_107 H locs hp hMr_107 g => ?_)
            obtain ⟨x_108, h_109, hF_110⟩ := hp
            have g := g.more hF_110
            subst hQ
            exact W.vret hx hb hr (fun t ht hW => ⟨⟨_, rfl, ⟨x_94, h_95, (g.fcts [3] rfl)⟩, q3_of g hK ht hW⟩, g.2.2.1.F ht⟩) g.2.2.1.2.2 dX0_openCall_178
          · have fc_102 := eq_f c_102
            have b_111 : bd 2 2 x1_ := eqX fc_102 (bdT x1_) kb_2 (by decide)
            refine lv_bipush (v := 17) hx hb dX0_openCall_162 (by decide) ?_
            refine lv_goto (tgt := 169) hx hb dX0_openCall_164 (by decide) ?_
            refine lv_iload_n hx hb dX0_openCall_169 rfl (lv_at hl 6 rfl) ?_
            refine g_callv (va_runV (As := [.int 17, .int x3_]) (rest := []) ⟨hx, hb, hml, hown, hts⟩ (r_X7_emit l dC dI L kd tys fr_98 H.size g.2.2.2.1 q1_ mq1_ kq1_ 17 x3_) (cwV 2 hts (gV_ t_1203 t_1204 t_1205 t_191 t_1206) rfl rfl rfl (by decide +kernel) ⟨(Nat.le_of_ble_eq_true rfl), (Nat.le_of_ble_eq_true rfl)⟩) (pre3V g hK mq1_ kq1_ (by decide) (q := (RX7, TX7, 19)) rfl) rfl rfl hl.1 rfl (lv_room (Nat.le_of_ble_eq_true rfl)) dX0_openCall_170 ⟨(Nat.le_of_ble_eq_true rfl), (Nat.le_of_ble_eq_true rfl)⟩) g hK (by decide) (by decide) (fx' := [(8, 6, q0_, .int x_94), (7, 18, q1_, .int y_6), (0, 11, a0_, .int x_2), (0, 0, a0_, .ref q0_), (0, 2, a0_, .ref q1_)]) rfl (fun fr_112 H locs hp hMr_112 g => ?_)
            obtain ⟨x_113, h_114, hF_115⟩ := hp
            have g := g.more hF_115
            refine lv_aload_n hx hb dX0_openCall_173 rfl (lv_at hl 3 rfl) ?_
            refine lv_iconst (v := 1) hx hb dX0_openCall_174 (by decide) ?_
            refine g_callv (va_runV (As := [.int 1]) (rest := []) ⟨hx, hb, hml, hown, hts⟩ (r_X0_addWhole l dC dI L kd tys fr_112 H.size g.2.2.2.1 a0_ ma0_ ka0_ 1) (cwV 1 hts (gV_ t_1211 t_1213 t_17 t_190 t_1214) rfl rfl rfl (by decide +kernel) ⟨(Nat.le_of_ble_eq_true rfl), (Nat.le_of_ble_eq_true rfl)⟩) (pre3V g hK ma0_ ka0_ (by decide) (q := (RX0, TX0, 14)) rfl) rfl rfl hl.1 rfl (lv_room (Nat.le_of_ble_eq_true rfl)) dX0_openCall_175 ⟨(Nat.le_of_ble_eq_true rfl), (Nat.le_of_ble_eq_true rfl)⟩) g hK (by decide) (by decide) (fx' := [(7, 6, q1_, .int x_113), (8, 6, q0_, .int x_94), (7, 18, q1_, .int y_6), (0, 11, a0_, .int x_2), (0, 0, a0_, .ref q0_), (0, 2, a0_, .ref q1_)]) rfl (fun fr_116 H locs hp hMr_116 g => ?_)
            obtain ⟨x_117, h_118, hF_119⟩ := hp
            have g := g.more hF_119
            subst hQ
            exact W.vret hx hb hr (fun t ht hW => ⟨⟨_, rfl, ⟨x_94, h_95, (g.fcts [3] rfl)⟩, q3_of g hK ht hW⟩, g.2.2.1.F ht⟩) g.2.2.1.2.2 dX0_openCall_178
        · have fc_97 := nle_f c_97
          have b_120 : bd 0 (-1) (0 : Int32) := ltL fc_97 kb_0 b_92 (by decide)
          exact bd_no (eqX rfl b_120 kb_0 (lo := 0) (hi := (-1)) (by decide)) (by decide)
  · have fc_3 := nlt_f c_3
    have b_121 : bd 40 2147483647 x_2 := leR fc_3 kb_40 (bdT x_2) (by decide)
    refine lv_aload_n hx hb dX0_openCall_18 rfl (lv_at hl 1 rfl) ?_
    refine g_getk (C := RX0) (T := TX0) (N := 14) hx hb hts (mc_ inX0) hown hK g rfl 0 (by decide) rfl (hts _ (List.mem_cons_of_mem _ t_373)) (fun _ h9 => h9) 1 rfl dX0_openCall_19 ?_
    refine lv_iconst (v := 4) hx hb dX0_openCall_22 (by decide) ?_
    refine lv_iload hx hb dX0_openCall_23 (lv_at hl 0 rfl) ?_
    have kb_4 : bd 4 4 (4 : Int32) := ⟨by decide, by decide⟩
    refine g_callv (va_runV (As := [.int 4, .int r_1]) (rest := []) ⟨hx, hb, hml, hown, hts⟩ (r_X8_fail l dC dI L kd tys fr_1 H.size g.2.2.2.1 q0_ mq0_ kq0_ 4 kb_4 r_1) (cwV 2 hts (gV_ t_1215 t_1107 t_1108 t_184 t_1109) rfl rfl rfl (by decide +kernel) ⟨(Nat.le_of_ble_eq_true rfl), (Nat.le_of_ble_eq_true rfl)⟩) (pre3V g hK mq0_ kq0_ (by decide) (q := (RX8, TX8, 10)) rfl) rfl rfl hl.1 rfl (lv_room (Nat.le_of_ble_eq_true rfl)) dX0_openCall_25 ⟨(Nat.le_of_ble_eq_true rfl), (Nat.le_of_ble_eq_true rfl)⟩) g hK (by decide) (by decide) (fx' := [(0, 11, a0_, .int x_2), (0, 0, a0_, .ref q0_), (0, 2, a0_, .ref q1_)]) rfl (fun fr_122 H locs hp hMr_122 g => ?_)
    obtain ⟨x_123, h_124, hF_125⟩ := hp
    have g := g.more hF_125
    refine lv_aload_n hx hb dX0_openCall_28 rfl (lv_at hl 1 rfl) ?_
    refine g_getk (C := RX0) (T := TX0) (N := 14) hx hb hts (mc_ inX0) hown hK g rfl 2 (by decide) rfl (hts _ (List.mem_cons_of_mem _ t_375)) (fun _ h9 => h9) 4 rfl dX0_openCall_29 ?_
    refine lv_dup hx hb dX0_openCall_32 rfl ?_
    refine g_geti (C := RX7) (T := TX7) (N := 19) hx hb hts (mc_ inX7) hown hK g mq1_ kq1_ (by decide) rfl 18 (by decide) rfl (hts _ (List.mem_cons_of_mem _ t_681)) (fun _ h9 => h9) rfl dX0_openCall_33 (fun x_126 bx_126 g => ?_)
    refine lv_iconst (v := 1) hx hb dX0_openCall_36 (by decide) ?_
    have kb_1 : bd 1 1 (1 : Int32) := ⟨by decide, by decide⟩
    refine lv_iadd hx hb dX0_openCall_37 ?_
    refine lv_topi (fun y_127 ey_127 => ?_)
    refine g_put (C := RX7) (T := TX7) (N := 19) hx hb hts (mc_ inX7) tyX7 tyX7_ok nmX7 hown hK g mq1_ kq1_ (by decide) rfl 18 (by decide) (hts _ (List.mem_cons_of_mem _ t_681)) (fun _ h9 => h9) rfl rfl (okV_i (bdT y_127)) rfl rfl (by decide) (Or.inr (Or.inl (by decide))) (fx' := [(8, 6, q0_, .int 1201), (8, 8, q0_, .int x_123), (0, 11, a0_, .int x_2), (0, 0, a0_, .ref q0_), (0, 2, a0_, .ref q1_)]) rfl dX0_openCall_38 (fun f H locs hM_128 g => ?_)
    refine lv_aload_n hx hb dX0_openCall_41 rfl (lv_at hl 1 rfl) ?_
    refine g_getk (C := RX0) (T := TX0) (N := 14) hx hb hts (mc_ inX0) hown hK g rfl 0 (by decide) rfl (hts _ (List.mem_cons_of_mem _ t_373)) (fun _ h9 => h9) 4 rfl dX0_openCall_42 ?_
    refine g_callv (va_runV (As := []) (rest := []) ⟨hx, hb, hml, hown, hts⟩ (r_X8_next l dC dI L kd tys f H.size g.2.2.2.1 q0_ mq0_ kq0_) (cwV 0 hts (gV_ t_1225 t_1103 t_1104 t_184 t_1105) rfl rfl rfl (by decide +kernel) ⟨(Nat.le_of_ble_eq_true rfl), (Nat.le_of_ble_eq_true rfl)⟩) (pre3V g hK mq0_ kq0_ (by decide) (q := (RX8, TX8, 10)) rfl) rfl rfl hl.1 rfl (lv_room (Nat.le_of_ble_eq_true rfl)) dX0_openCall_45 ⟨(Nat.le_of_ble_eq_true rfl), (Nat.le_of_ble_eq_true rfl)⟩) g hK (by decide) (by decide) (fx' := [(7, 18, q1_, .int y_127), (8, 8, q0_, .int x_123), (0, 11, a0_, .int x_2), (0, 0, a0_, .ref q0_), (0, 2, a0_, .ref q1_)]) rfl (fun fr_129 H locs hp hMr_129 g => ?_)
    obtain ⟨x_130, h_131, hF_132⟩ := hp
    have g := g.more hF_132
    refine lv_aload_n hx hb dX0_openCall_48 rfl (lv_at hl 1 rfl) ?_
    refine g_getk (C := RX0) (T := TX0) (N := 14) hx hb hts (mc_ inX0) hown hK g rfl 0 (by decide) rfl (hts _ (List.mem_cons_of_mem _ t_373)) (fun _ h9 => h9) 4 rfl dX0_openCall_49 ?_
    refine g_calli (va_runV (As := []) (rest := []) ⟨hx, hb, hml, hown, hts⟩ (r_X8_place l dC dI L kd tys fr_129 H.size g.2.2.2.1 q0_ mq0_ kq0_) (cwV 0 hts (gV_ t_1220 t_1111 t_1112 t_184 t_1113) rfl rfl rfl (by decide +kernel) ⟨(Nat.le_of_ble_eq_true rfl), (Nat.le_of_ble_eq_true rfl)⟩) (pre3V g hK mq0_ kq0_ (by decide) (q := (RX8, TX8, 10)) rfl) rfl rfl hl.1 rfl (lv_room (Nat.le_of_ble_eq_true rfl)) dX0_openCall_52 ⟨(Nat.le_of_ble_eq_true rfl), (Nat.le_of_ble_eq_true rfl)⟩) g hK (by decide) (by decide) (fx' := [(8, 6, q0_, .int x_130), (7, 18, q1_, .int y_127), (8, 8, q0_, .int x_123), (0, 11, a0_, .int x_2), (0, 0, a0_, .ref q0_), (0, 2, a0_, .ref q1_)]) rfl (fun r_133 fr_133 H locs hp hMr_133 g => ?_)
    refine lv_istore (lv' := [(6, .int r_133), (5, .int r_1), (0, .ref a0_), (1, .int x1_), (2, .int x2_), (3, .int x3_), (4, .int x4_)]) hx hb dX0_openCall_55 hl (by decide) rfl (fun ls hl => ?_)
    refine lv_aload_n hx hb dX0_openCall_57 rfl (lv_at hl 2 rfl) ?_
    refine g_getk (C := RX0) (T := TX0) (N := 14) hx hb hts (mc_ inX0) hown hK g rfl 0 (by decide) rfl (hts _ (List.mem_cons_of_mem _ t_373)) (fun _ h9 => h9) 4 rfl dX0_openCall_58 ?_
    refine g_calli (va_runV (As := []) (rest := []) ⟨hx, hb, hml, hown, hts⟩ (r_X8_kind l dC dI L kd tys fr_133 H.size g.2.2.2.1 q0_ mq0_ kq0_) (cwV 0 hts (gV_ t_1186 t_1119 t_1120 t_184 t_1121) rfl rfl rfl (by decide +kernel) ⟨(Nat.le_of_ble_eq_true rfl), (Nat.le_of_ble_eq_true rfl)⟩) (pre3V g hK mq0_ kq0_ (by decide) (q := (RX8, TX8, 10)) rfl) rfl rfl hl.1 rfl (lv_room (Nat.le_of_ble_eq_true rfl)) dX0_openCall_61 ⟨(Nat.le_of_ble_eq_true rfl), (Nat.le_of_ble_eq_true rfl)⟩) g hK (by decide) (by decide) (fx' := [(8, 6, q0_, .int x_130), (7, 18, q1_, .int y_127), (8, 8, q0_, .int x_123), (0, 11, a0_, .int x_2), (0, 0, a0_, .ref q0_), (0, 2, a0_, .ref q1_)]) rfl (fun r_134 fr_134 H locs hp hMr_134 g => ?_)
    refine lv_bipush (v := 41) hx hb dX0_openCall_64 (by decide) ?_
    have kb_41 : bd 41 41 (41 : Int32) := ⟨by decide, by decide⟩
    refine lv_icmp_ne (tgt := 73) hx hb dX0_openCall_66 (by decide) (fun c_135 => ?_) (fun c_135 => ?_)
    · have fc_135 := neq_f c_135
      refine lv_iconst (v := 0) hx hb dX0_openCall_73 (by decide) ?_
      refine lv_istore (lv' := [(7, .int 0), (6, .int r_133), (5, .int r_1), (0, .ref a0_), (1, .int x1_), (2, .int x2_), (3, .int x3_), (4, .int x4_)]) hx hb dX0_openCall_74 hl (by decide) rfl (fun ls hl => ?_)
      refine lv_iload hx hb dX0_openCall_76 (lv_at hl 7 rfl) ?_
      have kb_0 : bd 0 0 (0 : Int32) := ⟨by decide, by decide⟩
      refine lv_if_ne (tgt := 97) hx hb dX0_openCall_78 (by decide) (fun c_136 => ?_) (fun c_136 => ?_)
      · have fc_136 := neq_f c_136
        refine lv_iload hx hb dX0_openCall_97 (lv_at hl 0 rfl) ?_
        refine lv_if_ne (tgt := 120) hx hb dX0_openCall_99 (by decide) (fun c_ => absurd c_ (by decide)) (fun c_ => ?_)
        refine lv_aload_n hx hb dX0_openCall_102 rfl (lv_at hl 3 rfl) ?_
        refine lv_iload_n hx hb dX0_openCall_103 rfl (lv_at hl 4 rfl) ?_
        refine lv_iload_n hx hb dX0_openCall_104 rfl (lv_at hl 5 rfl) ?_
        refine lv_iload_n hx hb dX0_openCall_105 rfl (lv_at hl 6 rfl) ?_
        refine g_callv (va_runV (As := [.int x1_, .int x2_, .int x3_]) (rest := []) ⟨hx, hb, hml, hown, hts⟩ (r_X0_push l dC dI L kd tys fr_134 H.size g.2.2.2.1 a0_ ma0_ ka0_ x1_ x2_ x3_) (cwV 3 hts (gV_ t_1221 t_1223 t_19 t_190 t_1224) rfl rfl rfl (by decide +kernel) ⟨(Nat.le_of_ble_eq_true rfl), (Nat.le_of_ble_eq_true rfl)⟩) (pre3V g hK ma0_ ka0_ (by decide) (q := (RX0, TX0, 14)) rfl) rfl rfl hl.1 rfl (lv_room (Nat.le_of_ble_eq_true rfl)) dX0_openCall_106 ⟨(Nat.le_of_ble_eq_true rfl), (Nat.le_of_ble_eq_true rfl)⟩) g hK (by decide) (by decide) (fx' := [(8, 6, q0_, .int x_130), (7, 18, q1_, .int y_127), (8, 8, q0_, .int x_123), (0, 11, a0_, .int x_2), (0, 0, a0_, .ref q0_), (0, 2, a0_, .ref q1_)]) rfl (fun fr_137 H locs hp hMr_137 g => ?_)
        obtain ⟨x_138, h_139, hF_140⟩ := hp
        have g := g.more hF_140
        refine lv_aload_n hx hb dX0_openCall_109 rfl (lv_at hl 3 rfl) ?_
        refine lv_dup hx hb dX0_openCall_110 rfl ?_
        refine g_getk (C := RX0) (T := TX0) (N := 14) hx hb hts (mc_ inX0) hown hK g rfl 11 (by decide) rfl (hts _ (List.mem_cons_of_mem _ t_384)) (fun _ h9 => h9) 4 rfl dX0_openCall_111 ?_
        refine lv_iconst (v := 1) hx hb dX0_openCall_114 (by decide) ?_
        refine lv_iadd hx hb dX0_openCall_115 ?_
        refine lv_topi (fun y_141 ey_141 => ?_)
        refine g_put (C := RX0) (T := TX0) (N := 14) hx hb hts (mc_ inX0) tyX0 tyX0_ok nmX0 hown hK g ma0_ ka0_ (by decide) rfl 11 (by decide) (hts _ (List.mem_cons_of_mem _ t_384)) (fun _ h9 => h9) rfl rfl (okV_i (bdT y_141)) rfl rfl (by decide) (Or.inr (Or.inl (by decide))) (fx' := [(0, 8, a0_, .int x_138), (8, 6, q0_, .int x_130), (7, 18, q1_, .int y_127), (8, 8, q0_, .int x_123), (0, 0, a0_, .ref q0_), (0, 2, a0_, .ref q1_)]) rfl dX0_openCall_116 (fun f H locs hM_142 g => ?_)
        subst hQ
        exact W.vret hx hb hr (fun t ht hW => ⟨⟨_, rfl, ⟨x_130, h_131, (g.fcts [2] rfl)⟩, q3_of g hK ht hW⟩, g.2.2.1.F ht⟩) g.2.2.1.2.2 dX0_openCall_119
      · have fc_136 := eq_f c_136
        have b_143 : bd 0 0 x4_ := eqX fc_136 (bdT x4_) kb_0 (by decide)
        refine lv_iload hx hb dX0_openCall_81 (lv_at hl 0 rfl) ?_
        refine lv_if_ne (tgt := 97) hx hb dX0_openCall_83 (by decide) (fun c_ => absurd c_ (by decide)) (fun c_ => ?_)
        refine lv_aload_n hx hb dX0_openCall_86 rfl (lv_at hl 3 rfl) ?_
        refine g_getk (C := RX0) (T := TX0) (N := 14) hx hb hts (mc_ inX0) hown hK g rfl 0 (by decide) rfl (hts _ (List.mem_cons_of_mem _ t_373)) (fun _ h9 => h9) 4 rfl dX0_openCall_87 ?_
        refine lv_bipush (v := 6) hx hb dX0_openCall_90 (by decide) ?_
        refine lv_iload hx hb dX0_openCall_92 (lv_at hl 2 rfl) ?_
        have kb_6 : bd 6 6 (6 : Int32) := ⟨by decide, by decide⟩
        refine g_callv (va_runV (As := [.int 6, .int r_1]) (rest := []) ⟨hx, hb, hml, hown, hts⟩ (r_X8_fail_5 l dC dI L kd tys fr_134 H.size g.2.2.2.1 q0_ mq0_ kq0_ 6 kb_6 r_1 x_130 h_131 x_123 h_124 (g.fcts [0, 2] rfl)) (cwV 2 hts (gV_ t_1215 t_1107 t_1108 t_184 t_1109) rfl rfl rfl (by decide +kernel) ⟨(Nat.le_of_ble_eq_true rfl), (Nat.le_of_ble_eq_true rfl)⟩) (pre3V g hK mq0_ kq0_ (by decide) (q := (RX8, TX8, 10)) rfl) rfl rfl hl.1 rfl (lv_room (Nat.le_of_ble_eq_true rfl)) dX0_openCall_94 ⟨(Nat.le_of_ble_eq_true rfl), (Nat.le_of_ble_eq_true rfl)⟩) g hK (by decide) (by decide) (fx' := [(7, 18, q1_, .int y_127), (8, 8, q0_, .int x_123), (0, 11, a0_, .int x_2), (0, 0, a0_, .ref q0_), (0, 2, a0_, .ref q1_)]) rfl (fun fr_144 H locs hp hMr_144 g => ?_)
        have hF_145 := hp
        have g := g.more hF_145
        refine lv_iload hx hb dX0_openCall_97 (lv_at hl 0 rfl) ?_
        refine lv_if_ne (tgt := 120) hx hb dX0_openCall_99 (by decide) (fun c_ => absurd c_ (by decide)) (fun c_ => ?_)
        refine lv_aload_n hx hb dX0_openCall_102 rfl (lv_at hl 3 rfl) ?_
        refine lv_iload_n hx hb dX0_openCall_103 rfl (lv_at hl 4 rfl) ?_
        refine lv_iload_n hx hb dX0_openCall_104 rfl (lv_at hl 5 rfl) ?_
        refine lv_iload_n hx hb dX0_openCall_105 rfl (lv_at hl 6 rfl) ?_
        refine g_callv (va_runV (As := [.int x1_, .int x2_, .int x3_]) (rest := []) ⟨hx, hb, hml, hown, hts⟩ (r_X0_push l dC dI L kd tys fr_144 H.size g.2.2.2.1 a0_ ma0_ ka0_ x1_ x2_ x3_) (cwV 3 hts (gV_ t_1221 t_1223 t_19 t_190 t_1224) rfl rfl rfl (by decide +kernel) ⟨(Nat.le_of_ble_eq_true rfl), (Nat.le_of_ble_eq_true rfl)⟩) (pre3V g hK ma0_ ka0_ (by decide) (q := (RX0, TX0, 14)) rfl) rfl rfl hl.1 rfl (lv_room (Nat.le_of_ble_eq_true rfl)) dX0_openCall_106 ⟨(Nat.le_of_ble_eq_true rfl), (Nat.le_of_ble_eq_true rfl)⟩) g hK (by decide) (by decide) (fx' := [(8, 6, q0_, .int 1201), (7, 18, q1_, .int y_127), (8, 8, q0_, .int x_123), (0, 11, a0_, .int x_2), (0, 0, a0_, .ref q0_), (0, 2, a0_, .ref q1_)]) rfl (fun fr_146 H locs hp hMr_146 g => ?_)
        obtain ⟨x_147, h_148, hF_149⟩ := hp
        have g := g.more hF_149
        refine lv_aload_n hx hb dX0_openCall_109 rfl (lv_at hl 3 rfl) ?_
        refine lv_dup hx hb dX0_openCall_110 rfl ?_
        refine g_getk (C := RX0) (T := TX0) (N := 14) hx hb hts (mc_ inX0) hown hK g rfl 11 (by decide) rfl (hts _ (List.mem_cons_of_mem _ t_384)) (fun _ h9 => h9) 4 rfl dX0_openCall_111 ?_
        refine lv_iconst (v := 1) hx hb dX0_openCall_114 (by decide) ?_
        refine lv_iadd hx hb dX0_openCall_115 ?_
        refine lv_topi (fun y_150 ey_150 => ?_)
        refine g_put (C := RX0) (T := TX0) (N := 14) hx hb hts (mc_ inX0) tyX0 tyX0_ok nmX0 hown hK g ma0_ ka0_ (by decide) rfl 11 (by decide) (hts _ (List.mem_cons_of_mem _ t_384)) (fun _ h9 => h9) rfl rfl (okV_i (bdT y_150)) rfl rfl (by decide) (Or.inr (Or.inl (by decide))) (fx' := [(0, 8, a0_, .int x_147), (8, 6, q0_, .int 1201), (7, 18, q1_, .int y_127), (8, 8, q0_, .int x_123), (0, 0, a0_, .ref q0_), (0, 2, a0_, .ref q1_)]) rfl dX0_openCall_116 (fun f H locs hM_151 g => ?_)
        have kb_1201 : bd 1201 1201 (1201 : Int32) := ⟨by decide, by decide⟩
        subst hQ
        exact W.vret hx hb hr (fun t ht hW => ⟨⟨_, rfl, ⟨1201, (bd_sub kb_1201 (by decide)), (g.fcts [2] rfl)⟩, q3_of g hK ht hW⟩, g.2.2.1.F ht⟩) g.2.2.1.2.2 dX0_openCall_119
    · have fc_135 := eq_f c_135
      have b_152 : bd 41 41 r_134 := eqX fc_135 (bdT r_134) kb_41 (by decide)
      refine lv_iconst (v := 1) hx hb dX0_openCall_69 (by decide) ?_
      refine lv_goto (tgt := 74) hx hb dX0_openCall_70 (by decide) ?_
      refine lv_istore (lv' := [(7, .int 1), (6, .int r_133), (5, .int r_1), (0, .ref a0_), (1, .int x1_), (2, .int x2_), (3, .int x3_), (4, .int x4_)]) hx hb dX0_openCall_74 hl (by decide) rfl (fun ls hl => ?_)
      refine lv_iload hx hb dX0_openCall_76 (lv_at hl 7 rfl) ?_
      have kb_0 : bd 0 0 (0 : Int32) := ⟨by decide, by decide⟩
      refine lv_if_ne (tgt := 97) hx hb dX0_openCall_78 (by decide) (fun c_153 => ?_) (fun c_153 => ?_)
      · have fc_153 := neq_f c_153
        refine lv_iload hx hb dX0_openCall_97 (lv_at hl 0 rfl) ?_
        refine lv_if_ne (tgt := 120) hx hb dX0_openCall_99 (by decide) (fun c_ => ?_) (fun c_ => absurd c_ (by decide))
        refine lv_aload_n hx hb dX0_openCall_120 rfl (lv_at hl 3 rfl) ?_
        refine g_getk (C := RX0) (T := TX0) (N := 14) hx hb hts (mc_ inX0) hown hK g rfl 0 (by decide) rfl (hts _ (List.mem_cons_of_mem _ t_373)) (fun _ h9 => h9) 4 rfl dX0_openCall_121 ?_
        refine g_callv (va_runV (As := []) (rest := []) ⟨hx, hb, hml, hown, hts⟩ (r_X8_next l dC dI L kd tys fr_134 H.size g.2.2.2.1 q0_ mq0_ kq0_) (cwV 0 hts (gV_ t_1225 t_1103 t_1104 t_184 t_1105) rfl rfl rfl (by decide +kernel) ⟨(Nat.le_of_ble_eq_true rfl), (Nat.le_of_ble_eq_true rfl)⟩) (pre3V g hK mq0_ kq0_ (by decide) (q := (RX8, TX8, 10)) rfl) rfl rfl hl.1 rfl (lv_room (Nat.le_of_ble_eq_true rfl)) dX0_openCall_124 ⟨(Nat.le_of_ble_eq_true rfl), (Nat.le_of_ble_eq_true rfl)⟩) g hK (by decide) (by decide) (fx' := [(7, 18, q1_, .int y_127), (8, 8, q0_, .int x_123), (0, 11, a0_, .int x_2), (0, 0, a0_, .ref q0_), (0, 2, a0_, .ref q1_)]) rfl (fun fr_154 H locs hp hMr_154 g => ?_)
        obtain ⟨x_155, h_156, hF_157⟩ := hp
        have g := g.more hF_157
        refine lv_iload hx hb dX0_openCall_127 (lv_at hl 7 rfl) ?_
        refine lv_if_le (tgt := 143) hx hb dX0_openCall_129 (by decide) (fun c_158 => ?_) (fun c_158 => ?_)
        · have fc_158 := le_f c_158
          have b_159 : bd (-2147483648) 0 x4_ := leL fc_158 (bdT x4_) kb_0 (by decide)
          refine lv_aload_n hx hb dX0_openCall_143 rfl (lv_at hl 3 rfl) ?_
          refine g_getk (C := RX0) (T := TX0) (N := 14) hx hb hts (mc_ inX0) hown hK g rfl 2 (by decide) rfl (hts _ (List.mem_cons_of_mem _ t_375)) (fun _ h9 => h9) 5 rfl dX0_openCall_144 ?_
          refine lv_bipush (v := 13) hx hb dX0_openCall_147 (by decide) ?_
          refine lv_iconst (v := 0) hx hb dX0_openCall_149 (by decide) ?_
          refine g_callv (va_runV (As := [.int 13, .int 0]) (rest := []) ⟨hx, hb, hml, hown, hts⟩ (r_X7_emit l dC dI L kd tys fr_154 H.size g.2.2.2.1 q1_ mq1_ kq1_ 13 0) (cwV 2 hts (gV_ t_1203 t_1204 t_1205 t_191 t_1206) rfl rfl rfl (by decide +kernel) ⟨(Nat.le_of_ble_eq_true rfl), (Nat.le_of_ble_eq_true rfl)⟩) (pre3V g hK mq1_ kq1_ (by decide) (q := (RX7, TX7, 19)) rfl) rfl rfl hl.1 rfl (lv_room (Nat.le_of_ble_eq_true rfl)) dX0_openCall_150 ⟨(Nat.le_of_ble_eq_true rfl), (Nat.le_of_ble_eq_true rfl)⟩) g hK (by decide) (by decide) (fx' := [(8, 6, q0_, .int x_155), (7, 18, q1_, .int y_127), (8, 8, q0_, .int x_123), (0, 11, a0_, .int x_2), (0, 0, a0_, .ref q0_), (0, 2, a0_, .ref q1_)]) rfl (fun fr_160 H locs hp hMr_160 g => ?_)
          obtain ⟨x_161, h_162, hF_163⟩ := hp
          have g := g.more hF_163
          refine lv_aload_n hx hb dX0_openCall_153 rfl (lv_at hl 3 rfl) ?_
          refine g_getk (C := RX0) (T := TX0) (N := 14) hx hb hts (mc_ inX0) hown hK g rfl 2 (by decide) rfl (hts _ (List.mem_cons_of_mem _ t_375)) (fun _ h9 => h9) 6 rfl dX0_openCall_154 ?_
          refine lv_iload_n hx hb dX0_openCall_157 rfl (lv_at hl 4 rfl) ?_
          refine lv_iconst (v := 2) hx hb dX0_openCall_158 (by decide) ?_
          have kb_2 : bd 2 2 (2 : Int32) := ⟨by decide, by decide⟩
          refine lv_icmp_ne (tgt := 167) hx hb dX0_openCall_159 (by decide) (fun c_164 => ?_) (fun c_164 => ?_)
          · have fc_164 := neq_f c_164
            refine lv_bipush (v := 18) hx hb dX0_openCall_167 (by decide) ?_
            refine lv_iload_n hx hb dX0_openCall_169 rfl (lv_at hl 6 rfl) ?_
            refine g_callv (va_runV (As := [.int 18, .int x3_]) (rest := []) ⟨hx, hb, hml, hown, hts⟩ (r_X7_emit l dC dI L kd tys fr_160 H.size g.2.2.2.1 q1_ mq1_ kq1_ 18 x3_) (cwV 2 hts (gV_ t_1203 t_1204 t_1205 t_191 t_1206) rfl rfl rfl (by decide +kernel) ⟨(Nat.le_of_ble_eq_true rfl), (Nat.le_of_ble_eq_true rfl)⟩) (pre3V g hK mq1_ kq1_ (by decide) (q := (RX7, TX7, 19)) rfl) rfl rfl hl.1 rfl (lv_room (Nat.le_of_ble_eq_true rfl)) dX0_openCall_170 ⟨(Nat.le_of_ble_eq_true rfl), (Nat.le_of_ble_eq_true rfl)⟩) g hK (by decide) (by decide) (fx' := [(8, 6, q0_, .int x_155), (7, 18, q1_, .int y_127), (8, 8, q0_, .int x_123), (0, 11, a0_, .int x_2), (0, 0, a0_, .ref q0_), (0, 2, a0_, .ref q1_)]) rfl (fun fr_165 H locs hp hMr_165 g => ?_)
            obtain ⟨x_166, h_167, hF_168⟩ := hp
            have g := g.more hF_168
            refine lv_aload_n hx hb dX0_openCall_173 rfl (lv_at hl 3 rfl) ?_
            refine lv_iconst (v := 1) hx hb dX0_openCall_174 (by decide) ?_
            refine g_callv (va_runV (As := [.int 1]) (rest := []) ⟨hx, hb, hml, hown, hts⟩ (r_X0_addWhole l dC dI L kd tys fr_165 H.size g.2.2.2.1 a0_ ma0_ ka0_ 1) (cwV 1 hts (gV_ t_1211 t_1213 t_17 t_190 t_1214) rfl rfl rfl (by decide +kernel) ⟨(Nat.le_of_ble_eq_true rfl), (Nat.le_of_ble_eq_true rfl)⟩) (pre3V g hK ma0_ ka0_ (by decide) (q := (RX0, TX0, 14)) rfl) rfl rfl hl.1 rfl (lv_room (Nat.le_of_ble_eq_true rfl)) dX0_openCall_175 ⟨(Nat.le_of_ble_eq_true rfl), (Nat.le_of_ble_eq_true rfl)⟩) g hK (by decide) (by decide) (fx' := [(7, 6, q1_, .int x_166), (8, 6, q0_, .int x_155), (7, 18, q1_, .int y_127), (8, 8, q0_, .int x_123), (0, 11, a0_, .int x_2), (0, 0, a0_, .ref q0_), (0, 2, a0_, .ref q1_)]) rfl (fun fr_169 H locs hp hMr_169 g => ?_)
            obtain ⟨x_170, h_171, hF_172⟩ := hp
            have g := g.more hF_172
            subst hQ
            exact W.vret hx hb hr (fun t ht hW => ⟨⟨_, rfl, ⟨x_155, h_156, (g.fcts [3] rfl)⟩, q3_of g hK ht hW⟩, g.2.2.1.F ht⟩) g.2.2.1.2.2 dX0_openCall_178
          · have fc_164 := eq_f c_164
            have b_173 : bd 2 2 x1_ := eqX fc_164 (bdT x1_) kb_2 (by decide)
            refine lv_bipush (v := 17) hx hb dX0_openCall_162 (by decide) ?_
            refine lv_goto (tgt := 169) hx hb dX0_openCall_164 (by decide) ?_
            refine lv_iload_n hx hb dX0_openCall_169 rfl (lv_at hl 6 rfl) ?_
            refine g_callv (va_runV (As := [.int 17, .int x3_]) (rest := []) ⟨hx, hb, hml, hown, hts⟩ (r_X7_emit l dC dI L kd tys fr_160 H.size g.2.2.2.1 q1_ mq1_ kq1_ 17 x3_) (cwV 2 hts (gV_ t_1203 t_1204 t_1205 t_191 t_1206) rfl rfl rfl (by decide +kernel) ⟨(Nat.le_of_ble_eq_true rfl), (Nat.le_of_ble_eq_true rfl)⟩) (pre3V g hK mq1_ kq1_ (by decide) (q := (RX7, TX7, 19)) rfl) rfl rfl hl.1 rfl (lv_room (Nat.le_of_ble_eq_true rfl)) dX0_openCall_170 ⟨(Nat.le_of_ble_eq_true rfl), (Nat.le_of_ble_eq_true rfl)⟩) g hK (by decide) (by decide) (fx' := [(8, 6, q0_, .int x_155), (7, 18, q1_, .int y_127), (8, 8, q0_, .int x_123), (0, 11, a0_, .int x_2), (0, 0, a0_, .ref q0_), (0, 2, a0_, .ref q1_)]) rfl (fun fr_174 H locs hp hMr_174 g => ?_)
            obtain ⟨x_175, h_176, hF_177⟩ := hp
            have g := g.more hF_177
            refine lv_aload_n hx hb dX0_openCall_173 rfl (lv_at hl 3 rfl) ?_
            refine lv_iconst (v := 1) hx hb dX0_openCall_174 (by decide) ?_
            refine g_callv (va_runV (As := [.int 1]) (rest := []) ⟨hx, hb, hml, hown, hts⟩ (r_X0_addWhole l dC dI L kd tys fr_174 H.size g.2.2.2.1 a0_ ma0_ ka0_ 1) (cwV 1 hts (gV_ t_1211 t_1213 t_17 t_190 t_1214) rfl rfl rfl (by decide +kernel) ⟨(Nat.le_of_ble_eq_true rfl), (Nat.le_of_ble_eq_true rfl)⟩) (pre3V g hK ma0_ ka0_ (by decide) (q := (RX0, TX0, 14)) rfl) rfl rfl hl.1 rfl (lv_room (Nat.le_of_ble_eq_true rfl)) dX0_openCall_175 ⟨(Nat.le_of_ble_eq_true rfl), (Nat.le_of_ble_eq_true rfl)⟩) g hK (by decide) (by decide) (fx' := [(7, 6, q1_, .int x_175), (8, 6, q0_, .int x_155), (7, 18, q1_, .int y_127), (8, 8, q0_, .int x_123), (0, 11, a0_, .int x_2), (0, 0, a0_, .ref q0_), (0, 2, a0_, .ref q1_)]) rfl (fun fr_178 H locs hp hMr_178 g => ?_)
            obtain ⟨x_179, h_180, hF_181⟩ := hp
            have g := g.more hF_181
            subst hQ
            exact W.vret hx hb hr (fun t ht hW => ⟨⟨_, rfl, ⟨x_155, h_156, (g.fcts [3] rfl)⟩, q3_of g hK ht hW⟩, g.2.2.1.F ht⟩) g.2.2.1.2.2 dX0_openCall_178
        · have fc_158 := nle_f c_158
          have b_182 : bd 1 2147483647 x4_ := ltR fc_158 kb_0 (bdT x4_) (by decide)
          refine lv_aload_n hx hb dX0_openCall_132 rfl (lv_at hl 3 rfl) ?_
          refine g_getk (C := RX0) (T := TX0) (N := 14) hx hb hts (mc_ inX0) hown hK g rfl 0 (by decide) rfl (hts _ (List.mem_cons_of_mem _ t_373)) (fun _ h9 => h9) 4 rfl dX0_openCall_133 ?_
          refine lv_bipush (v := 6) hx hb dX0_openCall_136 (by decide) ?_
          refine lv_iload hx hb dX0_openCall_138 (lv_at hl 1 rfl) ?_
          have kb_6 : bd 6 6 (6 : Int32) := ⟨by decide, by decide⟩
          refine g_callv (va_runV (As := [.int 6, .int r_133]) (rest := []) ⟨hx, hb, hml, hown, hts⟩ (r_X8_fail_5 l dC dI L kd tys fr_154 H.size g.2.2.2.1 q0_ mq0_ kq0_ 6 kb_6 r_133 x_155 h_156 x_123 h_124 (g.fcts [0, 2] rfl)) (cwV 2 hts (gV_ t_1215 t_1107 t_1108 t_184 t_1109) rfl rfl rfl (by decide +kernel) ⟨(Nat.le_of_ble_eq_true rfl), (Nat.le_of_ble_eq_true rfl)⟩) (pre3V g hK mq0_ kq0_ (by decide) (q := (RX8, TX8, 10)) rfl) rfl rfl hl.1 rfl (lv_room (Nat.le_of_ble_eq_true rfl)) dX0_openCall_140 ⟨(Nat.le_of_ble_eq_true rfl), (Nat.le_of_ble_eq_true rfl)⟩) g hK (by decide) (by decide) (fx' := [(7, 18, q1_, .int y_127), (8, 8, q0_, .int x_123), (0, 11, a0_, .int x_2), (0, 0, a0_, .ref q0_), (0, 2, a0_, .ref q1_)]) rfl (fun fr_183 H locs hp hMr_183 g => ?_)
          have hF_184 := hp
          have g := g.more hF_184
          refine lv_aload_n hx hb dX0_openCall_143 rfl (lv_at hl 3 rfl) ?_
          refine g_getk (C := RX0) (T := TX0) (N := 14) hx hb hts (mc_ inX0) hown hK g rfl 2 (by decide) rfl (hts _ (List.mem_cons_of_mem _ t_375)) (fun _ h9 => h9) 5 rfl dX0_openCall_144 ?_
          refine lv_bipush (v := 13) hx hb dX0_openCall_147 (by decide) ?_
          refine lv_iconst (v := 0) hx hb dX0_openCall_149 (by decide) ?_
          refine g_callv (va_runV (As := [.int 13, .int 0]) (rest := []) ⟨hx, hb, hml, hown, hts⟩ (r_X7_emit l dC dI L kd tys fr_183 H.size g.2.2.2.1 q1_ mq1_ kq1_ 13 0) (cwV 2 hts (gV_ t_1203 t_1204 t_1205 t_191 t_1206) rfl rfl rfl (by decide +kernel) ⟨(Nat.le_of_ble_eq_true rfl), (Nat.le_of_ble_eq_true rfl)⟩) (pre3V g hK mq1_ kq1_ (by decide) (q := (RX7, TX7, 19)) rfl) rfl rfl hl.1 rfl (lv_room (Nat.le_of_ble_eq_true rfl)) dX0_openCall_150 ⟨(Nat.le_of_ble_eq_true rfl), (Nat.le_of_ble_eq_true rfl)⟩) g hK (by decide) (by decide) (fx' := [(8, 6, q0_, .int 1201), (7, 18, q1_, .int y_127), (8, 8, q0_, .int x_123), (0, 11, a0_, .int x_2), (0, 0, a0_, .ref q0_), (0, 2, a0_, .ref q1_)]) rfl (fun fr_185 H locs hp hMr_185 g => ?_)
          obtain ⟨x_186, h_187, hF_188⟩ := hp
          have g := g.more hF_188
          refine lv_aload_n hx hb dX0_openCall_153 rfl (lv_at hl 3 rfl) ?_
          refine g_getk (C := RX0) (T := TX0) (N := 14) hx hb hts (mc_ inX0) hown hK g rfl 2 (by decide) rfl (hts _ (List.mem_cons_of_mem _ t_375)) (fun _ h9 => h9) 6 rfl dX0_openCall_154 ?_
          refine lv_iload_n hx hb dX0_openCall_157 rfl (lv_at hl 4 rfl) ?_
          refine lv_iconst (v := 2) hx hb dX0_openCall_158 (by decide) ?_
          have kb_2 : bd 2 2 (2 : Int32) := ⟨by decide, by decide⟩
          refine lv_icmp_ne (tgt := 167) hx hb dX0_openCall_159 (by decide) (fun c_189 => ?_) (fun c_189 => ?_)
          · have fc_189 := neq_f c_189
            refine lv_bipush (v := 18) hx hb dX0_openCall_167 (by decide) ?_
            refine lv_iload_n hx hb dX0_openCall_169 rfl (lv_at hl 6 rfl) ?_
            refine g_callv (va_runV (As := [.int 18, .int x3_]) (rest := []) ⟨hx, hb, hml, hown, hts⟩ (r_X7_emit l dC dI L kd tys fr_185 H.size g.2.2.2.1 q1_ mq1_ kq1_ 18 x3_) (cwV 2 hts (gV_ t_1203 t_1204 t_1205 t_191 t_1206) rfl rfl rfl (by decide +kernel) ⟨(Nat.le_of_ble_eq_true rfl), (Nat.le_of_ble_eq_true rfl)⟩) (pre3V g hK mq1_ kq1_ (by decide) (q := (RX7, TX7, 19)) rfl) rfl rfl hl.1 rfl (lv_room (Nat.le_of_ble_eq_true rfl)) dX0_openCall_170 ⟨(Nat.le_of_ble_eq_true rfl), (Nat.le_of_ble_eq_true rfl)⟩) g hK (by decide) (by decide) (fx' := [(8, 6, q0_, .int 1201), (7, 18, q1_, .int y_127), (8, 8, q0_, .int x_123), (0, 11, a0_, .int x_2), (0, 0, a0_, .ref q0_), (0, 2, a0_, .ref q1_)]) rfl (fun fr_190 H locs hp hMr_190 g => ?_)
            obtain ⟨x_191, h_192, hF_193⟩ := hp
            have g := g.more hF_193
            refine lv_aload_n hx hb dX0_openCall_173 rfl (lv_at hl 3 rfl) ?_
            refine lv_iconst (v := 1) hx hb dX0_openCall_174 (by decide) ?_
            refine g_callv (va_runV (As := [.int 1]) (rest := []) ⟨hx, hb, hml, hown, hts⟩ (r_X0_addWhole l dC dI L kd tys fr_190 H.size g.2.2.2.1 a0_ ma0_ ka0_ 1) (cwV 1 hts (gV_ t_1211 t_1213 t_17 t_190 t_1214) rfl rfl rfl (by decide +kernel) ⟨(Nat.le_of_ble_eq_true rfl), (Nat.le_of_ble_eq_true rfl)⟩) (pre3V g hK ma0_ ka0_ (by decide) (q := (RX0, TX0, 14)) rfl) rfl rfl hl.1 rfl (lv_room (Nat.le_of_ble_eq_true rfl)) dX0_openCall_175 ⟨(Nat.le_of_ble_eq_true rfl), (Nat.le_of_ble_eq_true rfl)⟩) g hK (by decide) (by decide) (fx' := [(7, 6, q1_, .int x_191), (8, 6, q0_, .int 1201), (7, 18, q1_, .int y_127), (8, 8, q0_, .int x_123), (0, 11, a0_, .int x_2), (0, 0, a0_, .ref q0_), (0, 2, a0_, .ref q1_)]) rfl (fun fr_194 H locs hp hMr_194 g => ?_)
            obtain ⟨x_195, h_196, hF_197⟩ := hp
            have g := g.more hF_197
            have kb_1201 : bd 1201 1201 (1201 : Int32) := ⟨by decide, by decide⟩
            subst hQ
            exact W.vret hx hb hr (fun t ht hW => ⟨⟨_, rfl, ⟨1201, (bd_sub kb_1201 (by decide)), (g.fcts [3] rfl)⟩, q3_of g hK ht hW⟩, g.2.2.1.F ht⟩) g.2.2.1.2.2 dX0_openCall_178
          · have fc_189 := eq_f c_189
            have b_198 : bd 2 2 x1_ := eqX fc_189 (bdT x1_) kb_2 (by decide)
            refine lv_bipush (v := 17) hx hb dX0_openCall_162 (by decide) ?_
            refine lv_goto (tgt := 169) hx hb dX0_openCall_164 (by decide) ?_
            refine lv_iload_n hx hb dX0_openCall_169 rfl (lv_at hl 6 rfl) ?_
            refine g_callv (va_runV (As := [.int 17, .int x3_]) (rest := []) ⟨hx, hb, hml, hown, hts⟩ (r_X7_emit l dC dI L kd tys fr_185 H.size g.2.2.2.1 q1_ mq1_ kq1_ 17 x3_) (cwV 2 hts (gV_ t_1203 t_1204 t_1205 t_191 t_1206) rfl rfl rfl (by decide +kernel) ⟨(Nat.le_of_ble_eq_true rfl), (Nat.le_of_ble_eq_true rfl)⟩) (pre3V g hK mq1_ kq1_ (by decide) (q := (RX7, TX7, 19)) rfl) rfl rfl hl.1 rfl (lv_room (Nat.le_of_ble_eq_true rfl)) dX0_openCall_170 ⟨(Nat.le_of_ble_eq_true rfl), (Nat.le_of_ble_eq_true rfl)⟩) g hK (by decide) (by decide) (fx' := [(8, 6, q0_, .int 1201), (7, 18, q1_, .int y_127), (8, 8, q0_, .int x_123), (0, 11, a0_, .int x_2), (0, 0, a0_, .ref q0_), (0, 2, a0_, .ref q1_)]) rfl (fun fr_199 H locs hp hMr_199 g => ?_)
            obtain ⟨x_200, h_201, hF_202⟩ := hp
            have g := g.more hF_202
            refine lv_aload_n hx hb dX0_openCall_173 rfl (lv_at hl 3 rfl) ?_
            refine lv_iconst (v := 1) hx hb dX0_openCall_174 (by decide) ?_
            refine g_callv (va_runV (As := [.int 1]) (rest := []) ⟨hx, hb, hml, hown, hts⟩ (r_X0_addWhole l dC dI L kd tys fr_199 H.size g.2.2.2.1 a0_ ma0_ ka0_ 1) (cwV 1 hts (gV_ t_1211 t_1213 t_17 t_190 t_1214) rfl rfl rfl (by decide +kernel) ⟨(Nat.le_of_ble_eq_true rfl), (Nat.le_of_ble_eq_true rfl)⟩) (pre3V g hK ma0_ ka0_ (by decide) (q := (RX0, TX0, 14)) rfl) rfl rfl hl.1 rfl (lv_room (Nat.le_of_ble_eq_true rfl)) dX0_openCall_175 ⟨(Nat.le_of_ble_eq_true rfl), (Nat.le_of_ble_eq_true rfl)⟩) g hK (by decide) (by decide) (fx' := [(7, 6, q1_, .int x_200), (8, 6, q0_, .int 1201), (7, 18, q1_, .int y_127), (8, 8, q0_, .int x_123), (0, 11, a0_, .int x_2), (0, 0, a0_, .ref q0_), (0, 2, a0_, .ref q1_)]) rfl (fun fr_203 H locs hp hMr_203 g => ?_)
            obtain ⟨x_204, h_205, hF_206⟩ := hp
            have g := g.more hF_206
            have kb_1201 : bd 1201 1201 (1201 : Int32) := ⟨by decide, by decide⟩
            subst hQ
            exact W.vret hx hb hr (fun t ht hW => ⟨⟨_, rfl, ⟨1201, (bd_sub kb_1201 (by decide)), (g.fcts [3] rfl)⟩, q3_of g hK ht hW⟩, g.2.2.1.F ht⟩) g.2.2.1.2.2 dX0_openCall_178
      · have fc_153 := eq_f c_153
        have b_207 : bd 0 0 x4_ := eqX fc_153 (bdT x4_) kb_0 (by decide)
        refine lv_iload hx hb dX0_openCall_81 (lv_at hl 0 rfl) ?_
        refine lv_if_ne (tgt := 97) hx hb dX0_openCall_83 (by decide) (fun c_ => ?_) (fun c_ => absurd c_ (by decide))
        refine lv_iload hx hb dX0_openCall_97 (lv_at hl 0 rfl) ?_
        refine lv_if_ne (tgt := 120) hx hb dX0_openCall_99 (by decide) (fun c_ => ?_) (fun c_ => absurd c_ (by decide))
        refine lv_aload_n hx hb dX0_openCall_120 rfl (lv_at hl 3 rfl) ?_
        refine g_getk (C := RX0) (T := TX0) (N := 14) hx hb hts (mc_ inX0) hown hK g rfl 0 (by decide) rfl (hts _ (List.mem_cons_of_mem _ t_373)) (fun _ h9 => h9) 4 rfl dX0_openCall_121 ?_
        refine g_callv (va_runV (As := []) (rest := []) ⟨hx, hb, hml, hown, hts⟩ (r_X8_next l dC dI L kd tys fr_134 H.size g.2.2.2.1 q0_ mq0_ kq0_) (cwV 0 hts (gV_ t_1225 t_1103 t_1104 t_184 t_1105) rfl rfl rfl (by decide +kernel) ⟨(Nat.le_of_ble_eq_true rfl), (Nat.le_of_ble_eq_true rfl)⟩) (pre3V g hK mq0_ kq0_ (by decide) (q := (RX8, TX8, 10)) rfl) rfl rfl hl.1 rfl (lv_room (Nat.le_of_ble_eq_true rfl)) dX0_openCall_124 ⟨(Nat.le_of_ble_eq_true rfl), (Nat.le_of_ble_eq_true rfl)⟩) g hK (by decide) (by decide) (fx' := [(7, 18, q1_, .int y_127), (8, 8, q0_, .int x_123), (0, 11, a0_, .int x_2), (0, 0, a0_, .ref q0_), (0, 2, a0_, .ref q1_)]) rfl (fun fr_208 H locs hp hMr_208 g => ?_)
        obtain ⟨x_209, h_210, hF_211⟩ := hp
        have g := g.more hF_211
        refine lv_iload hx hb dX0_openCall_127 (lv_at hl 7 rfl) ?_
        refine lv_if_le (tgt := 143) hx hb dX0_openCall_129 (by decide) (fun c_212 => ?_) (fun c_212 => ?_)
        · have fc_212 := le_f c_212
          refine lv_aload_n hx hb dX0_openCall_143 rfl (lv_at hl 3 rfl) ?_
          refine g_getk (C := RX0) (T := TX0) (N := 14) hx hb hts (mc_ inX0) hown hK g rfl 2 (by decide) rfl (hts _ (List.mem_cons_of_mem _ t_375)) (fun _ h9 => h9) 5 rfl dX0_openCall_144 ?_
          refine lv_bipush (v := 13) hx hb dX0_openCall_147 (by decide) ?_
          refine lv_iconst (v := 0) hx hb dX0_openCall_149 (by decide) ?_
          refine g_callv (va_runV (As := [.int 13, .int 0]) (rest := []) ⟨hx, hb, hml, hown, hts⟩ (r_X7_emit l dC dI L kd tys fr_208 H.size g.2.2.2.1 q1_ mq1_ kq1_ 13 0) (cwV 2 hts (gV_ t_1203 t_1204 t_1205 t_191 t_1206) rfl rfl rfl (by decide +kernel) ⟨(Nat.le_of_ble_eq_true rfl), (Nat.le_of_ble_eq_true rfl)⟩) (pre3V g hK mq1_ kq1_ (by decide) (q := (RX7, TX7, 19)) rfl) rfl rfl hl.1 rfl (lv_room (Nat.le_of_ble_eq_true rfl)) dX0_openCall_150 ⟨(Nat.le_of_ble_eq_true rfl), (Nat.le_of_ble_eq_true rfl)⟩) g hK (by decide) (by decide) (fx' := [(8, 6, q0_, .int x_209), (7, 18, q1_, .int y_127), (8, 8, q0_, .int x_123), (0, 11, a0_, .int x_2), (0, 0, a0_, .ref q0_), (0, 2, a0_, .ref q1_)]) rfl (fun fr_213 H locs hp hMr_213 g => ?_)
          obtain ⟨x_214, h_215, hF_216⟩ := hp
          have g := g.more hF_216
          refine lv_aload_n hx hb dX0_openCall_153 rfl (lv_at hl 3 rfl) ?_
          refine g_getk (C := RX0) (T := TX0) (N := 14) hx hb hts (mc_ inX0) hown hK g rfl 2 (by decide) rfl (hts _ (List.mem_cons_of_mem _ t_375)) (fun _ h9 => h9) 6 rfl dX0_openCall_154 ?_
          refine lv_iload_n hx hb dX0_openCall_157 rfl (lv_at hl 4 rfl) ?_
          refine lv_iconst (v := 2) hx hb dX0_openCall_158 (by decide) ?_
          have kb_2 : bd 2 2 (2 : Int32) := ⟨by decide, by decide⟩
          refine lv_icmp_ne (tgt := 167) hx hb dX0_openCall_159 (by decide) (fun c_217 => ?_) (fun c_217 => ?_)
          · have fc_217 := neq_f c_217
            refine lv_bipush (v := 18) hx hb dX0_openCall_167 (by decide) ?_
            refine lv_iload_n hx hb dX0_openCall_169 rfl (lv_at hl 6 rfl) ?_
            refine g_callv (va_runV (As := [.int 18, .int x3_]) (rest := []) ⟨hx, hb, hml, hown, hts⟩ (r_X7_emit l dC dI L kd tys fr_213 H.size g.2.2.2.1 q1_ mq1_ kq1_ 18 x3_) (cwV 2 hts (gV_ t_1203 t_1204 t_1205 t_191 t_1206) rfl rfl rfl (by decide +kernel) ⟨(Nat.le_of_ble_eq_true rfl), (Nat.le_of_ble_eq_true rfl)⟩) (pre3V g hK mq1_ kq1_ (by decide) (q := (RX7, TX7, 19)) rfl) rfl rfl hl.1 rfl (lv_room (Nat.le_of_ble_eq_true rfl)) dX0_openCall_170 ⟨(Nat.le_of_ble_eq_true rfl), (Nat.le_of_ble_eq_true rfl)⟩) g hK (by decide) (by decide) (fx' := [(8, 6, q0_, .int x_209), (7, 18, q1_, .int y_127), (8, 8, q0_, .int x_123), (0, 11, a0_, .int x_2), (0, 0, a0_, .ref q0_), (0, 2, a0_, .ref q1_)]) rfl (fun fr_218 H locs hp hMr_218 g => ?_)
            obtain ⟨x_219, h_220, hF_221⟩ := hp
            have g := g.more hF_221
            refine lv_aload_n hx hb dX0_openCall_173 rfl (lv_at hl 3 rfl) ?_
            refine lv_iconst (v := 1) hx hb dX0_openCall_174 (by decide) ?_
            refine g_callv (va_runV (As := [.int 1]) (rest := []) ⟨hx, hb, hml, hown, hts⟩ (r_X0_addWhole l dC dI L kd tys fr_218 H.size g.2.2.2.1 a0_ ma0_ ka0_ 1) (cwV 1 hts (gV_ t_1211 t_1213 t_17 t_190 t_1214) rfl rfl rfl (by decide +kernel) ⟨(Nat.le_of_ble_eq_true rfl), (Nat.le_of_ble_eq_true rfl)⟩) (pre3V g hK ma0_ ka0_ (by decide) (q := (RX0, TX0, 14)) rfl) rfl rfl hl.1 rfl (lv_room (Nat.le_of_ble_eq_true rfl)) dX0_openCall_175 ⟨(Nat.le_of_ble_eq_true rfl), (Nat.le_of_ble_eq_true rfl)⟩) g hK (by decide) (by decide) (fx' := [(7, 6, q1_, .int x_219), (8, 6, q0_, .int x_209), (7, 18, q1_, .int y_127), (8, 8, q0_, .int x_123), (0, 11, a0_, .int x_2), (0, 0, a0_, .ref q0_), (0, 2, a0_, .ref q1_)]) rfl (fun fr_222 H locs hp hMr_222 g => ?_)
            obtain ⟨x_223, h_224, hF_225⟩ := hp
            have g := g.more hF_225
            subst hQ
            exact W.vret hx hb hr (fun t ht hW => ⟨⟨_, rfl, ⟨x_209, h_210, (g.fcts [3] rfl)⟩, q3_of g hK ht hW⟩, g.2.2.1.F ht⟩) g.2.2.1.2.2 dX0_openCall_178
          · have fc_217 := eq_f c_217
            have b_226 : bd 2 2 x1_ := eqX fc_217 (bdT x1_) kb_2 (by decide)
            refine lv_bipush (v := 17) hx hb dX0_openCall_162 (by decide) ?_
            refine lv_goto (tgt := 169) hx hb dX0_openCall_164 (by decide) ?_
            refine lv_iload_n hx hb dX0_openCall_169 rfl (lv_at hl 6 rfl) ?_
            refine g_callv (va_runV (As := [.int 17, .int x3_]) (rest := []) ⟨hx, hb, hml, hown, hts⟩ (r_X7_emit l dC dI L kd tys fr_213 H.size g.2.2.2.1 q1_ mq1_ kq1_ 17 x3_) (cwV 2 hts (gV_ t_1203 t_1204 t_1205 t_191 t_1206) rfl rfl rfl (by decide +kernel) ⟨(Nat.le_of_ble_eq_true rfl), (Nat.le_of_ble_eq_true rfl)⟩) (pre3V g hK mq1_ kq1_ (by decide) (q := (RX7, TX7, 19)) rfl) rfl rfl hl.1 rfl (lv_room (Nat.le_of_ble_eq_true rfl)) dX0_openCall_170 ⟨(Nat.le_of_ble_eq_true rfl), (Nat.le_of_ble_eq_true rfl)⟩) g hK (by decide) (by decide) (fx' := [(8, 6, q0_, .int x_209), (7, 18, q1_, .int y_127), (8, 8, q0_, .int x_123), (0, 11, a0_, .int x_2), (0, 0, a0_, .ref q0_), (0, 2, a0_, .ref q1_)]) rfl (fun fr_227 H locs hp hMr_227 g => ?_)
            obtain ⟨x_228, h_229, hF_230⟩ := hp
            have g := g.more hF_230
            refine lv_aload_n hx hb dX0_openCall_173 rfl (lv_at hl 3 rfl) ?_
            refine lv_iconst (v := 1) hx hb dX0_openCall_174 (by decide) ?_
            refine g_callv (va_runV (As := [.int 1]) (rest := []) ⟨hx, hb, hml, hown, hts⟩ (r_X0_addWhole l dC dI L kd tys fr_227 H.size g.2.2.2.1 a0_ ma0_ ka0_ 1) (cwV 1 hts (gV_ t_1211 t_1213 t_17 t_190 t_1214) rfl rfl rfl (by decide +kernel) ⟨(Nat.le_of_ble_eq_true rfl), (Nat.le_of_ble_eq_true rfl)⟩) (pre3V g hK ma0_ ka0_ (by decide) (q := (RX0, TX0, 14)) rfl) rfl rfl hl.1 rfl (lv_room (Nat.le_of_ble_eq_true rfl)) dX0_openCall_175 ⟨(Nat.le_of_ble_eq_true rfl), (Nat.le_of_ble_eq_true rfl)⟩) g hK (by decide) (by decide) (fx' := [(7, 6, q1_, .int x_228), (8, 6, q0_, .int x_209), (7, 18, q1_, .int y_127), (8, 8, q0_, .int x_123), (0, 11, a0_, .int x_2), (0, 0, a0_, .ref q0_), (0, 2, a0_, .ref q1_)]) rfl (fun fr_231 H locs hp hMr_231 g => ?_)
            obtain ⟨x_232, h_233, hF_234⟩ := hp
            have g := g.more hF_234
            subst hQ
            exact W.vret hx hb hr (fun t ht hW => ⟨⟨_, rfl, ⟨x_209, h_210, (g.fcts [3] rfl)⟩, q3_of g hK ht hW⟩, g.2.2.1.F ht⟩) g.2.2.1.2.2 dX0_openCall_178
        · have fc_212 := nle_f c_212
          have b_235 : bd 0 (-1) (0 : Int32) := ltL fc_212 kb_0 b_207 (by decide)
          exact bd_no (eqX rfl b_235 kb_0 (lo := 0) (hi := (-1)) (by decide)) (by decide)
