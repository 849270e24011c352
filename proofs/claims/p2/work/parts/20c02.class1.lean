set_option maxHeartbeats 4000000 in
set_option maxRecDepth 100000 in
theorem r_X0_openCall (l : Launch) (dC : Nat → ClassId) (dI : Nat → Nat → Nat) (L : List Nat) (kd : Nat → Nat) (tys : List (ClassId × FieldType)) (f0 : Nat → va_E) (sz : Nat) (hWT : WT L kd tys f0) (a0_ : Nat) (ma0_ : a0_ ∈ L) (ka0_ : kd a0_ = 0) (x1_ : Int32) (x2_ : Int32) (x3_ : Int32) (x4_ : Int32) (q0_ : Nat) (mq0_ : q0_ ∈ L) (kq0_ : kd q0_ = 8) (q1_ : Nat) (mq1_ : q1_ ∈ L) (kq1_ : kd q1_ = 7) (hfx : Fs L kd f0 [(0, 0, a0_, .ref q0_), (0, 2, a0_, .ref q1_)]) : Met l yX0_openCall (.code yX0_openCall cX0_openCall 8 none :: lw_g) ({ frames := 1, cells := 0, slots := 0, locals := 23 }) (va_Pc [.ref a0_, .int x1_, .int x2_, .int x3_, .int x4_] (P3 (dC, dI) L tys f0 sz)) (va_Qv (fun (f : Nat → va_E) => (∃ z0_ : Int32, bd 1 1201 z0_ ∧ Fs L kd f [(8, 6, q0_, .int z0_)])) (Q3 (dC, dI) L kd tys [(0, 8), (0, 10), (0, 11), (0, 12), (7, 6), (7, 18), (8, 6), (8, 8), (8, 9)] [110, 111, 112, 113, 114, 115, 138, 139] f0 sz) (pA L sz)) 0 0 (pA L sz) := by
  refine Met.ofW (cc := cX0_openCall) (maxL := 8) (ret := none) (by decide) rfl ?_
  intro p e s m args below meth c s₁ B hml hv
  obtain ⟨rfl, hsz, hP, hK, hD0⟩ := hv
  have hx := B.exec
  have hb := B.bytes
  have hr := B.returns
  have hts := atoms_spec (ws := (.code yX0_openCall cX0_openCall 8 none :: lw_g)) B.pre
  have hown : s.vm.findClass RX0 = some m.cls := findClass_of_methodNamed B.named
  have hlocks := B.notSynchronized
  subst hsz
  have g : G3 (dC, dI) L kd tys s f0 [(0, 8), (0, 10), (0, 11), (0, 12), (7, 6), (7, 18), (8, 6), (8, 8), (8, 9)] [110, 111, 112, 113, 114, 115, 138, 139] f0 s.heap [] [(0, 0, a0_, .ref q0_), (0, 2, a0_, .ref q1_)] := G3.start hP hD0 hWT hfx
  have hl := lv_entry ([.ref a0_, .int x1_, .int x2_, .int x3_, .int x4_]) (n := 8) (Nat.le_of_ble_eq_true rfl)
  rw [lg_entry_eq]
  generalize (lg_sl ([.ref a0_, .int x1_, .int x2_, .int x3_, .int x4_]) ++ List.replicate (8 - (lg_sl ([.ref a0_, .int x1_, .int x2_, .int x3_, .int x4_])).length) Slot.unset).toArray = ls at hl ⊢
  have hl : lv_has ls 8 [(0, .ref a0_), (1, .int x1_), (2, .int x2_), (3, .int x3_), (4, .int x4_)] := hl
  refine W_q (fun Q hQ => ?_)
  refine lv_aload_n hx hb dX0_openCall_0 rfl (lv_at hl 0 rfl) ?_
  refine g_getk (C := RX0) (T := TX0) (N := 14) hx hb hts (mc_ inX0) hown hK g rfl 0 (by decide) rfl (hts _ (List.mem_cons_of_mem _ t_373)) (fun _ h9 => h9) 0 rfl dX0_openCall_1 ?_
  refine g_calli (va_runV (As := []) (rest := []) ⟨hx, hb, hml, hown, hts⟩ (r_X8_place l dC dI L kd tys f0 s.heap.size g.2.2.2.1 q0_ mq0_ kq0_) (cwV 0 hts (gV_ t_1220 t_1111 t_1112 t_184 t_1113) rfl rfl rfl (by decide +kernel) ⟨(Nat.le_of_ble_eq_true rfl), (Nat.le_of_ble_eq_true rfl)⟩) (pre3V g hK mq0_ kq0_ (by decide) (q := (RX8, TX8, 10)) rfl) rfl rfl hl.1 rfl (lv_room (Nat.le_of_ble_eq_true rfl)) dX0_openCall_4 ⟨(Nat.le_of_ble_eq_true rfl), (Nat.le_of_ble_eq_true rfl)⟩) g hK (by decide) (by decide) (fx' := [(0, 0, a0_, .ref q0_), (0, 2, a0_, .ref q1_)]) rfl (fun r_1 fr_1 H locs hp hMr_1 g => ?_)
  refine lv_istore (lv' := [(5, .int r_1), (0, .ref a0_), (1, .int x1_), (2, .int x2_), (3, .int x3_), (4, .int x4_)]) hx hb dX0_openCall_7 hl (by decide) rfl (fun ls hl => ?_)
  refine lv_aload_n hx hb dX0_openCall_9 rfl (lv_at hl 1 rfl) ?_
  refine g_geti (C := RX0) (T := TX0) (N := 14) hx hb hts (mc_ inX0) hown hK g ma0_ ka0_ (by decide) rfl 11 (by decide) rfl (hts _ (List.mem_cons_of_mem _ t_384)) (fun _ h9 => h9) rfl dX0_openCall_10 (fun x_2 bx_2 g => ?_)
  refine lv_bipush (v := 40) hx hb dX0_openCall_13 (by decide) ?_
  have kb_40 : bd 40 40 (40 : Int32) := ⟨by decide, by decide⟩
  refine lv_icmp_lt (tgt := 28) hx hb dX0_openCall_15 (by decide) (fun c_3 => ?_) (fun c_3 => ?_)
  · have fc_3 := lt_f c_3
    have b_4 : bd (-2147483648) 39 x_2 := ltL fc_3 (bdT x_2) kb_40 (by decide)
    refine lv_aload_n hx hb dX0_openCall_28 rfl (lv_at hl 1 rfl) ?_
    refine g_getk (C := RX0) (T := TX0) (N := 14) hx hb hts (mc_ inX0) hown hK g rfl 2 (by decide) rfl (hts _ (List.mem_cons_of_mem _ t_375)) (fun _ h9 => h9) 2 rfl dX0_openCall_29 ?_
    refine lv_dup hx hb dX0_openCall_32 rfl ?_
    refine g_geti (C := RX7) (T := TX7) (N := 19) hx hb hts (mc_ inX7) hown hK g mq1_ kq1_ (by decide) rfl 18 (by decide) rfl (hts _ (List.mem_cons_of_mem _ t_681)) (fun _ h9 => h9) rfl dX0_openCall_33 (fun x_5 bx_5 g => ?_)
    refine lv_iconst (v := 1) hx hb dX0_openCall_36 (by decide) ?_
    have kb_1 : bd 1 1 (1 : Int32) := ⟨by decide, by decide⟩
    refine lv_iadd hx hb dX0_openCall_37 ?_
    refine lv_topi (fun y_6 ey_6 => ?_)
    refine g_put (C := RX7) (T := TX7) (N := 19) hx hb hts (mc_ inX7) tyX7 tyX7_ok nmX7 hown hK g mq1_ kq1_ (by decide) rfl 18 (by decide) (hts _ (List.mem_cons_of_mem _ t_681)) (fun _ h9 => h9) rfl rfl (okV_i (bdT y_6)) rfl rfl (by decide) (Or.inr (Or.inl (by decide))) (fx' := [(0, 11, a0_, .int x_2), (0, 0, a0_, .ref q0_), (0, 2, a0_, .ref q1_)]) rfl dX0_openCall_38 (fun f H locs g => ?_)
    refine lv_aload_n hx hb dX0_openCall_41 rfl (lv_at hl 1 rfl) ?_
    refine g_getk (C := RX0) (T := TX0) (N := 14) hx hb hts (mc_ inX0) hown hK g rfl 0 (by decide) rfl (hts _ (List.mem_cons_of_mem _ t_373)) (fun _ h9 => h9) 2 rfl dX0_openCall_42 ?_
    refine g_callv (va_runV (As := []) (rest := []) ⟨hx, hb, hml, hown, hts⟩ (r_X8_next l dC dI L kd tys f H.size g.2.2.2.1 q0_ mq0_ kq0_) (cwV 0 hts (gV_ t_1225 t_1103 t_1104 t_184 t_1105) rfl rfl rfl (by decide +kernel) ⟨(Nat.le_of_ble_eq_true rfl), (Nat.le_of_ble_eq_true rfl)⟩) (pre3V g hK mq0_ kq0_ (by decide) (q := (RX8, TX8, 10)) rfl) rfl rfl hl.1 rfl (lv_room (Nat.le_of_ble_eq_true rfl)) dX0_openCall_45 ⟨(Nat.le_of_ble_eq_true rfl), (Nat.le_of_ble_eq_true rfl)⟩) g hK (by decide) (by decide) (fx' := [(7, 18, q1_, .int y_6), (0, 11, a0_, .int x_2), (0, 0, a0_, .ref q0_), (0, 2, a0_, .ref q1_)]) rfl (fun fr_7 H locs hp hMr_7 g => ?_)
    obtain ⟨x_8, h_9, hF_10⟩ := hp
    have g := g.more hF_10
    refine lv_aload_n hx hb dX0_openCall_48 rfl (lv_at hl 1 rfl) ?_
    refine g_getk (C := RX0) (T := TX0) (N := 14) hx hb hts (mc_ inX0) hown hK g rfl 0 (by decide) rfl (hts _ (List.mem_cons_of_mem _ t_373)) (fun _ h9 => h9) 3 rfl dX0_openCall_49 ?_
    refine g_calli (va_runV (As := []) (rest := []) ⟨hx, hb, hml, hown, hts⟩ (r_X8_place l dC dI L kd tys fr_7 H.size g.2.2.2.1 q0_ mq0_ kq0_) (cwV 0 hts (gV_ t_1220 t_1111 t_1112 t_184 t_1113) rfl rfl rfl (by decide +kernel) ⟨(Nat.le_of_ble_eq_true rfl), (Nat.le_of_ble_eq_true rfl)⟩) (pre3V g hK mq0_ kq0_ (by decide) (q := (RX8, TX8, 10)) rfl) rfl rfl hl.1 rfl (lv_room (Nat.le_of_ble_eq_true rfl)) dX0_openCall_52 ⟨(Nat.le_of_ble_eq_true rfl), (Nat.le_of_ble_eq_true rfl)⟩) g hK (by decide) (by decide) (fx' := [(8, 6, q0_, .int x_8), (7, 18, q1_, .int y_6), (0, 11, a0_, .int x_2), (0, 0, a0_, .ref q0_), (0, 2, a0_, .ref q1_)]) rfl (fun r_11 fr_11 H locs hp hMr_11 g => ?_)
    refine lv_istore (lv' := [(6, .int r_11), (5, .int r_1), (0, .ref a0_), (1, .int x1_), (2, .int x2_), (3, .int x3_), (4, .int x4_)]) hx hb dX0_openCall_55 hl (by decide) rfl (fun ls hl => ?_)
    refine lv_aload_n hx hb dX0_openCall_57 rfl (lv_at hl 2 rfl) ?_
    refine g_getk (C := RX0) (T := TX0) (N := 14) hx hb hts (mc_ inX0) hown hK g rfl 0 (by decide) rfl (hts _ (List.mem_cons_of_mem _ t_373)) (fun _ h9 => h9) 3 rfl dX0_openCall_58 ?_
    refine g_calli (va_runV (As := []) (rest := []) ⟨hx, hb, hml, hown, hts⟩ (r_X8_kind l dC dI L kd tys fr_11 H.size g.2.2.2.1 q0_ mq0_ kq0_) (cwV 0 hts (gV_ t_1186 t_1119 t_1120 t_184 t_1121) rfl rfl rfl (by decide +kernel) ⟨(Nat.le_of_ble_eq_true rfl), (Nat.le_of_ble_eq_true rfl)⟩) (pre3V g hK mq0_ kq0_ (by decide) (q := (RX8, TX8, 10)) rfl) rfl rfl hl.1 rfl (lv_room (Nat.le_of_ble_eq_true rfl)) dX0_openCall_61 ⟨(Nat.le_of_ble_eq_true rfl), (Nat.le_of_ble_eq_true rfl)⟩) g hK (by decide) (by decide) (fx' := [(8, 6, q0_, .int x_8), (7, 18, q1_, .int y_6), (0, 11, a0_, .int x_2), (0, 0, a0_, .ref q0_), (0, 2, a0_, .ref q1_)]) rfl (fun r_12 fr_12 H locs hp hMr_12 g => ?_)
    refine lv_bipush (v := 41) hx hb dX0_openCall_64 (by decide) ?_
    have kb_41 : bd 41 41 (41 : Int32) := ⟨by decide, by decide⟩
    refine lv_icmp_ne (tgt := 73) hx hb dX0_openCall_66 (by decide) (fun c_13 => ?_) (fun c_13 => ?_)
    · have fc_13 := neq_f c_13
      refine lv_iconst (v := 0) hx hb dX0_openCall_73 (by decide) ?_
      refine lv_istore (lv' := [(7, .int 0), (6, .int r_11), (5, .int r_1), (0, .ref a0_), (1, .int x1_), (2, .int x2_), (3, .int x3_), (4, .int x4_)]) hx hb dX0_openCall_74 hl (by decide) rfl (fun ls hl => ?_)
      refine lv_iload hx hb dX0_openCall_76 (lv_at hl 7 rfl) ?_
      have kb_0 : bd 0 0 (0 : Int32) := ⟨by decide, by decide⟩
      refine lv_if_ne (tgt := 97) hx hb dX0_openCall_78 (by decide) (fun c_14 => ?_) (fun c_14 => ?_)
      · have fc_14 := neq_f c_14
        refine lv_iload hx hb dX0_openCall_97 (lv_at hl 0 rfl) ?_
        refine lv_if_ne (tgt := 120) hx hb dX0_openCall_99 (by decide) (fun c_ => absurd c_ (by decide)) (fun c_ => ?_)
        refine lv_aload_n hx hb dX0_openCall_102 rfl (lv_at hl 3 rfl) ?_
        refine lv_iload_n hx hb dX0_openCall_103 rfl (lv_at hl 4 rfl) ?_
        refine lv_iload_n hx hb dX0_openCall_104 rfl (lv_at hl 5 rfl) ?_
        refine lv_iload_n hx hb dX0_openCall_105 rfl (lv_at hl 6 rfl) ?_
        refine g_callv (va_runV (As := [.int x1_, .int x2_, .int x3_]) (rest := []) ⟨hx, hb, hml, hown, hts⟩ (r_X0_push l dC dI L kd tys fr_12 H.size g.2.2.2.1 a0_ ma0_ ka0_ x1_ x2_ x3_) (cwV 3 hts (gV_ t_1221 t_1223 t_19 t_190 t_1224) rfl rfl rfl (by decide +kernel) ⟨(Nat.le_of_ble_eq_true rfl), (Nat.le_of_ble_eq_true rfl)⟩) (pre3V g hK ma0_ ka0_ (by decide) (q := (RX0, TX0, 14)) rfl) rfl rfl hl.1 rfl (lv_room (Nat.le_of_ble_eq_true rfl)) dX0_openCall_106 ⟨(Nat.le_of_ble_eq_true rfl), (Nat.le_of_ble_eq_true rfl)⟩) g hK (by decide) (by decide) (fx' := [(8, 6, q0_, .int x_8), (7, 18, q1_, .int y_6), (0, 11, a0_, .int x_2), (0, 0, a0_, .ref q0_), (0, 2, a0_, .ref q1_)]) rfl (fun fr_15 H locs hp hMr_15 g => ?_)
        obtain ⟨x_16, h_17, hF_18⟩ := hp
        have g := g.more hF_18
        refine lv_aload_n hx hb dX0_openCall_109 rfl (lv_at hl 3 rfl) ?_
        refine lv_dup hx hb dX0_openCall_110 rfl ?_
        refine g_getk (C := RX0) (T := TX0) (N := 14) hx hb hts (mc_ inX0) hown hK g rfl 11 (by decide) rfl (hts _ (List.mem_cons_of_mem _ t_384)) (fun _ h9 => h9) 3 rfl dX0_openCall_111 ?_
        refine lv_iconst (v := 1) hx hb dX0_openCall_114 (by decide) ?_
        refine lv_iadd hx hb dX0_openCall_115 ?_
        refine lv_topi (fun y_19 ey_19 => ?_)
        have ty_19 := add_bd ey_19 b_4 kb_1 (by decide)
        have b_20 : bd (-2147483647) 40 y_19 := add_rg ty_19 b_4 kb_1 (by decide)
        refine g_put (C := RX0) (T := TX0) (N := 14) hx hb hts (mc_ inX0) tyX0 tyX0_ok nmX0 hown hK g ma0_ ka0_ (by decide) rfl 11 (by decide) (hts _ (List.mem_cons_of_mem _ t_384)) (fun _ h9 => h9) rfl rfl (okV_i (bd_sub b_20 (by decide))) rfl rfl (by decide) (Or.inr (Or.inl (by decide))) (fx' := [(0, 8, a0_, .int x_16), (8, 6, q0_, .int x_8), (7, 18, q1_, .int y_6), (0, 0, a0_, .ref q0_), (0, 2, a0_, .ref q1_)]) rfl dX0_openCall_116 (fun f H locs g => ?_)
        subst hQ
        exact W.vret hx hb hr (fun t ht hW => ⟨⟨_, rfl, ⟨x_8, h_9, (g.fcts [2] rfl)⟩, q3_of g hK ht hW⟩, g.2.2.1.F ht⟩) g.2.2.1.2.2 dX0_openCall_119
      · have fc_14 := eq_f c_14
        have b_21 : bd 0 0 x4_ := eqX fc_14 (bdT x4_) kb_0 (by decide)
        refine lv_iload hx hb dX0_openCall_81 (lv_at hl 0 rfl) ?_
        refine lv_if_ne (tgt := 97) hx hb dX0_openCall_83 (by decide) (fun c_ => absurd c_ (by decide)) (fun c_ => ?_)
        refine lv_aload_n hx hb dX0_openCall_86 rfl (lv_at hl 3 rfl) ?_
        refine g_getk (C := RX0) (T := TX0) (N := 14) hx hb hts (mc_ inX0) hown hK g rfl 0 (by decide) rfl (hts _ (List.mem_cons_of_mem _ t_373)) (fun _ h9 => h9) 3 rfl dX0_openCall_87 ?_
        refine lv_bipush (v := 6) hx hb dX0_openCall_90 (by decide) ?_
        refine lv_iload hx hb dX0_openCall_92 (lv_at hl 2 rfl) ?_
        have kb_6 : bd 6 6 (6 : Int32) := ⟨by decide, by decide⟩
        refine g_callv (va_runV (As := [.int 6, .int r_1]) (rest := []) ⟨hx, hb, hml, hown, hts⟩ (r_X8_fail_4 l dC dI L kd tys fr_12 H.size g.2.2.2.1 q0_ mq0_ kq0_ 6 kb_6 r_1 x_8 h_9 (g.fcts [0] rfl)) (cwV 2 hts (gV_ t_1215 t_1107 t_1108 t_184 t_1109) rfl rfl rfl (by decide +kernel) ⟨(Nat.le_of_ble_eq_true rfl), (Nat.le_of_ble_eq_true rfl)⟩) (pre3V g hK mq0_ kq0_ (by decide) (q := (RX8, TX8, 10)) rfl) rfl rfl hl.1 rfl (lv_room (Nat.le_of_ble_eq_true rfl)) dX0_openCall_94 ⟨(Nat.le_of_ble_eq_true rfl), (Nat.le_of_ble_eq_true rfl)⟩) g hK (by decide) (by decide) (fx' := [(7, 18, q1_, .int y_6), (0, 11, a0_, .int x_2), (0, 0, a0_, .ref q0_), (0, 2, a0_, .ref q1_)]) rfl (fun fr_22 H locs hp hMr_22 g => ?_)
        obtain ⟨x_23, h_24, hF_25⟩ := hp
        have g := g.more hF_25
        refine lv_iload hx hb dX0_openCall_97 (lv_at hl 0 rfl) ?_
        refine lv_if_ne (tgt := 120) hx hb dX0_openCall_99 (by decide) (fun c_ => absurd c_ (by decide)) (fun c_ => ?_)
        refine lv_aload_n hx hb dX0_openCall_102 rfl (lv_at hl 3 rfl) ?_
        refine lv_iload_n hx hb dX0_openCall_103 rfl (lv_at hl 4 rfl) ?_
        refine lv_iload_n hx hb dX0_openCall_104 rfl (lv_at hl 5 rfl) ?_
        refine lv_iload_n hx hb dX0_openCall_105 rfl (lv_at hl 6 rfl) ?_
        refine g_callv (va_runV (As := [.int x1_, .int x2_, .int x3_]) (rest := []) ⟨hx, hb, hml, hown, hts⟩ (r_X0_push l dC dI L kd tys fr_22 H.size g.2.2.2.1 a0_ ma0_ ka0_ x1_ x2_ x3_) (cwV 3 hts (gV_ t_1221 t_1223 t_19 t_190 t_1224) rfl rfl rfl (by decide +kernel) ⟨(Nat.le_of_ble_eq_true rfl), (Nat.le_of_ble_eq_true rfl)⟩) (pre3V g hK ma0_ ka0_ (by decide) (q := (RX0, TX0, 14)) rfl) rfl rfl hl.1 rfl (lv_room (Nat.le_of_ble_eq_true rfl)) dX0_openCall_106 ⟨(Nat.le_of_ble_eq_true rfl), (Nat.le_of_ble_eq_true rfl)⟩) g hK (by decide) (by decide) (fx' := [(8, 6, q0_, .int 1201), (8, 8, q0_, .int x_23), (7, 18, q1_, .int y_6), (0, 11, a0_, .int x_2), (0, 0, a0_, .ref q0_), (0, 2, a0_, .ref q1_)]) rfl (fun fr_26 H locs hp hMr_26 g => ?_)
        obtain ⟨x_27, h_28, hF_29⟩ := hp
        have g := g.more hF_29
        refine lv_aload_n hx hb dX0_openCall_109 rfl (lv_at hl 3 rfl) ?_
        refine lv_dup hx hb dX0_openCall_110 rfl ?_
        refine g_getk (C := RX0) (T := TX0) (N := 14) hx hb hts (mc_ inX0) hown hK g rfl 11 (by decide) rfl (hts _ (List.mem_cons_of_mem _ t_384)) (fun _ h9 => h9) 4 rfl dX0_openCall_111 ?_
        refine lv_iconst (v := 1) hx hb dX0_openCall_114 (by decide) ?_
        refine lv_iadd hx hb dX0_openCall_115 ?_
        refine lv_topi (fun y_30 ey_30 => ?_)
        have ty_30 := add_bd ey_30 b_4 kb_1 (by decide)
        have b_31 : bd (-2147483647) 40 y_30 := add_rg ty_30 b_4 kb_1 (by decide)
        refine g_put (C := RX0) (T := TX0) (N := 14) hx hb hts (mc_ inX0) tyX0 tyX0_ok nmX0 hown hK g ma0_ ka0_ (by decide) rfl 11 (by decide) (hts _ (List.mem_cons_of_mem _ t_384)) (fun _ h9 => h9) rfl rfl (okV_i (bd_sub b_31 (by decide))) rfl rfl (by decide) (Or.inr (Or.inl (by decide))) (fx' := [(0, 8, a0_, .int x_27), (8, 6, q0_, .int 1201), (8, 8, q0_, .int x_23), (7, 18, q1_, .int y_6), (0, 0, a0_, .ref q0_), (0, 2, a0_, .ref q1_)]) rfl dX0_openCall_116 (fun f H locs g => ?_)
        have kb_1201 : bd 1201 1201 (1201 : Int32) := ⟨by decide, by decide⟩
        subst hQ
        exact W.vret hx hb hr (fun t ht hW => ⟨⟨_, rfl, ⟨1201, (bd_sub kb_1201 (by decide)), (g.fcts [2] rfl)⟩, q3_of g hK ht hW⟩, g.2.2.1.F ht⟩) g.2.2.1.2.2 dX0_openCall_119
    · have fc_13 := eq_f c_13
      have b_32 : bd 41 41 r_12 := eqX fc_13 (bdT r_12) kb_41 (by decide)
      refine lv_iconst (v := 1) hx hb dX0_openCall_69 (by decide) ?_
      refine lv_goto (tgt := 74) hx hb dX0_openCall_70 (by decide) ?_
      refine lv_istore (lv' := [(7, .int 1), (6, .int r_11), (5, .int r_1), (0, .ref a0_), (1, .int x1_), (2, .int x2_), (3, .int x3_), (4, .int x4_)]) hx hb dX0_openCall_74 hl (by decide) rfl (fun ls hl => ?_)
      refine lv_iload hx hb dX0_openCall_76 (lv_at hl 7 rfl) ?_
      have kb_0 : bd 0 0 (0 : Int32) := ⟨by decide, by decide⟩
      refine lv_if_ne (tgt := 97) hx hb dX0_openCall_78 (by decide) (fun c_33 => ?_) (fun c_33 => ?_)
      · have fc_33 := neq_f c_33
        refine lv_iload hx hb dX0_openCall_97 (lv_at hl 0 rfl) ?_
        refine lv_if_ne (tgt := 120) hx hb dX0_openCall_99 (by decide) (fun c_ => ?_) (fun c_ => absurd c_ (by decide))
        refine lv_aload_n hx hb dX0_openCall_120 rfl (lv_at hl 3 rfl) ?_
        refine g_getk (C := RX0) (T := TX0) (N := 14) hx hb hts (mc_ inX0) hown hK g rfl 0 (by decide) rfl (hts _ (List.mem_cons_of_mem _ t_373)) (fun _ h9 => h9) 3 rfl dX0_openCall_121 ?_
        refine g_callv (va_runV (As := []) (rest := []) ⟨hx, hb, hml, hown, hts⟩ (r_X8_next l dC dI L kd tys fr_12 H.size g.2.2.2.1 q0_ mq0_ kq0_) (cwV 0 hts (gV_ t_1225 t_1103 t_1104 t_184 t_1105) rfl rfl rfl (by decide +kernel) ⟨(Nat.le_of_ble_eq_true rfl), (Nat.le_of_ble_eq_true rfl)⟩) (pre3V g hK mq0_ kq0_ (by decide) (q := (RX8, TX8, 10)) rfl) rfl rfl hl.1 rfl (lv_room (Nat.le_of_ble_eq_true rfl)) dX0_openCall_124 ⟨(Nat.le_of_ble_eq_true rfl), (Nat.le_of_ble_eq_true rfl)⟩) g hK (by decide) (by decide) (fx' := [(7, 18, q1_, .int y_6), (0, 11, a0_, .int x_2), (0, 0, a0_, .ref q0_), (0, 2, a0_, .ref q1_)]) rfl (fun fr_34 H locs hp hMr_34 g => ?_)
        obtain ⟨x_35, h_36, hF_37⟩ := hp
        have g := g.more hF_37
        refine lv_iload hx hb dX0_openCall_127 (lv_at hl 7 rfl) ?_
        refine lv_if_le (tgt := 143) hx hb dX0_openCall_129 (by decide) (fun c_38 => ?_) (fun c_38 => ?_)
        · have fc_38 := le_f c_38
          have b_39 : bd (-2147483648) 0 x4_ := leL fc_38 (bdT x4_) kb_0 (by decide)
          refine lv_aload_n hx hb dX0_openCall_143 rfl (lv_at hl 3 rfl) ?_
          refine g_getk (C := RX0) (T := TX0) (N := 14) hx hb hts (mc_ inX0) hown hK g rfl 2 (by decide) rfl (hts _ (List.mem_cons_of_mem _ t_375)) (fun _ h9 => h9) 4 rfl dX0_openCall_144 ?_
          refine lv_bipush (v := 13) hx hb dX0_openCall_147 (by decide) ?_
          refine lv_iconst (v := 0) hx hb dX0_openCall_149 (by decide) ?_
          refine g_callv (va_runV (As := [.int 13, .int 0]) (rest := []) ⟨hx, hb, hml, hown, hts⟩ (r_X7_emit l dC dI L kd tys fr_34 H.size g.2.2.2.1 q1_ mq1_ kq1_ 13 0) (cwV 2 hts (gV_ t_1203 t_1204 t_1205 t_191 t_1206) rfl rfl rfl (by decide +kernel) ⟨(Nat.le_of_ble_eq_true rfl), (Nat.le_of_ble_eq_true rfl)⟩) (pre3V g hK mq1_ kq1_ (by decide) (q := (RX7, TX7, 19)) rfl) rfl rfl hl.1 rfl (lv_room (Nat.le_of_ble_eq_true rfl)) dX0_openCall_150 ⟨(Nat.le_of_ble_eq_true rfl), (Nat.le_of_ble_eq_true rfl)⟩) g hK (by decide) (by decide) (fx' := [(8, 6, q0_, .int x_35), (7, 18, q1_, .int y_6), (0, 11, a0_, .int x_2), (0, 0, a0_, .ref q0_), (0, 2, a0_, .ref q1_)]) rfl (fun fr_40 H locs hp hMr_40 g => ?_)
          obtain ⟨x_41, h_42, hF_43⟩ := hp
          have g := g.more hF_43
          refine lv_aload_n hx hb dX0_openCall_153 rfl (lv_at hl 3 rfl) ?_
          refine g_getk (C := RX0) (T := TX0) (N := 14) hx hb hts (mc_ inX0) hown hK g rfl 2 (by decide) rfl (hts _ (List.mem_cons_of_mem _ t_375)) (fun _ h9 => h9) 5 rfl dX0_openCall_154 ?_
          refine lv_iload_n hx hb dX0_openCall_157 rfl (lv_at hl 4 rfl) ?_
          refine lv_iconst (v := 2) hx hb dX0_openCall_158 (by decide) ?_
          have kb_2 : bd 2 2 (2 : Int32) := ⟨by decide, by decide⟩
          refine lv_icmp_ne (tgt := 167) hx hb dX0_openCall_159 (by decide) (fun c_44 => ?_) (fun c_44 => ?_)
          · have fc_44 := neq_f c_44
            refine lv_bipush (v := 18) hx hb dX0_openCall_167 (by decide) ?_
            refine lv_iload_n hx hb dX0_openCall_169 rfl (lv_at hl 6 rfl) ?_
            refine g_callv (va_runV (As := [.int 18, .int x3_]) (rest := []) ⟨hx, hb, hml, hown, hts⟩ (r_X7_emit l dC dI L kd tys fr_40 H.size g.2.2.2.1 q1_ mq1_ kq1_ 18 x3_) (cwV 2 hts (gV_ t_1203 t_1204 t_1205 t_191 t_1206) rfl rfl rfl (by decide +kernel) ⟨(Nat.le_of_ble_eq_true rfl), (Nat.le_of_ble_eq_true rfl)⟩) (pre3V g hK mq1_ kq1_ (by decide) (q := (RX7, TX7, 19)) rfl) rfl rfl hl.1 rfl (lv_room (Nat.le_of_ble_eq_true rfl)) dX0_openCall_170 ⟨(Nat.le_of_ble_eq_true rfl), (Nat.le_of_ble_eq_true rfl)⟩) g hK (by decide) (by decide) (fx' := [(8, 6, q0_, .int x_35), (7, 18, q1_, .int y_6), (0, 11, a0_, .int x_2), (0, 0, a0_, .ref q0_), (0, 2, a0_, .ref q1_)]) rfl (fun fr_45 H locs hp hMr_45 g => ?_)
            obtain ⟨x_46, h_47, hF_48⟩ := hp
            have g := g.more hF_48
            refine lv_aload_n hx hb dX0_openCall_173 rfl (lv_at hl 3 rfl) ?_
            refine lv_iconst (v := 1) hx hb dX0_openCall_174 (by decide) ?_
            refine g_callv (va_runV (As := [.int 1]) (rest := []) ⟨hx, hb, hml, hown, hts⟩ (r_X0_addWhole l dC dI L kd tys fr_45 H.size g.2.2.2.1 a0_ ma0_ ka0_ 1) (cwV 1 hts (gV_ t_1211 t_1213 t_17 t_190 t_1214) rfl rfl rfl (by decide +kernel) ⟨(Nat.le_of_ble_eq_true rfl), (Nat.le_of_ble_eq_true rfl)⟩) (pre3V g hK ma0_ ka0_ (by decide) (q := (RX0, TX0, 14)) rfl) rfl rfl hl.1 rfl (lv_room (Nat.le_of_ble_eq_true rfl)) dX0_openCall_175 ⟨(Nat.le_of_ble_eq_true rfl), (Nat.le_of_ble_eq_true rfl)⟩) g hK (by decide) (by decide) (fx' := [(7, 6, q1_, .int x_46), (8, 6, q0_, .int x_35), (7, 18, q1_, .int y_6), (0, 11, a0_, .int x_2), (0, 0, a0_, .ref q0_), (0, 2, a0_, .ref q1_)]) rfl (fun fr_49 H locs hp hMr_49 g => ?_)
            obtain ⟨x_50, h_51, hF_52⟩ := hp
            have g := g.more hF_52
            subst hQ
            exact W.vret hx hb hr (fun t ht hW => ⟨⟨_, rfl, ⟨x_35, h_36, (g.fcts [3] rfl)⟩, q3_of g hK ht hW⟩, g.2.2.1.F ht⟩) g.2.2.1.2.2 dX0_openCall_178
          · have fc_44 := eq_f c_44
            have b_53 : bd 2 2 x1_ := eqX fc_44 (bdT x1_) kb_2 (by decide)
            refine lv_bipush (v := 17) hx hb dX0_openCall_162 (by decide) ?_
            refine lv_goto (tgt := 169) hx hb dX0_openCall_164 (by decide) ?_
            refine lv_iload_n hx hb dX0_openCall_169 rfl (lv_at hl 6 rfl) ?_
            refine g_callv (va_runV (As := [.int 17, .int x3_]) (rest := []) ⟨hx, hb, hml, hown, hts⟩ (r_X7_emit l dC dI L kd tys fr_40 H.size g.2.2.2.1 q1_ mq1_ kq1_ 17 x3_) (cwV 2 hts (gV_ t_1203 t_1204 t_1205 t_191 t_1206) rfl rfl rfl (by decide +kernel) ⟨(Nat.le_of_ble_eq_true rfl), (Nat.le_of_ble_eq_true rfl)⟩) (pre3V g hK mq1_ kq1_ (by decide) (q := (RX7, TX7, 19)) rfl) rfl rfl hl.1 rfl (lv_room (Nat.le_of_ble_eq_true rfl)) dX0_openCall_170 ⟨(Nat.le_of_ble_eq_true rfl), (Nat.le_of_ble_eq_true rfl)⟩) g hK (by decide) (by decide) (fx' := [(8, 6, q0_, .int x_35), (7, 18, q1_, .int y_6), (0, 11, a0_, .int x_2), (0, 0, a0_, .ref q0_), (0, 2, a0_, .ref q1_)]) rfl (fun fr_54 H locs hp hMr_54 g => ?_)
            obtain ⟨x_55, h_56, hF_57⟩ := hp
            have g := g.more hF_57
            refine lv_aload_n hx hb dX0_openCall_173 rfl (lv_at hl 3 rfl) ?_
            refine lv_iconst (v := 1) hx hb dX0_openCall_174 (by decide) ?_
            refine g_callv (va_runV (As := [.int 1]) (rest := []) ⟨hx, hb, hml, hown, hts⟩ (r_X0_addWhole l dC dI L kd tys fr_54 H.size g.2.2.2.1 a0_ ma0_ ka0_ 1) (cwV 1 hts (gV_ t_1211 t_1213 t_17 t_190 t_1214) rfl rfl rfl (by decide +kernel) ⟨(Nat.le_of_ble_eq_true rfl), (Nat.le_of_ble_eq_true rfl)⟩) (pre3V g hK ma0_ ka0_ (by decide) (q := (RX0, TX0, 14)) rfl) rfl rfl hl.1 rfl (lv_room (Nat.le_of_ble_eq_true rfl)) dX0_openCall_175 ⟨(Nat.le_of_ble_eq_true rfl), (Nat.le_of_ble_eq_true rfl)⟩) g hK (by decide) (by decide) (fx' := [(7, 6, q1_, .int x_55), (8, 6, q0_, .int x_35), (7, 18, q1_, .int y_6), (0, 11, a0_, .int x_2), (0, 0, a0_, .ref q0_), (0, 2, a0_, .ref q1_)]) rfl (fun fr_58 H locs hp hMr_58 g => ?_)
            obtain ⟨x_59, h_60, hF_61⟩ := hp
            have g := g.more hF_61
            subst hQ
            exact W.vret hx hb hr (fun t ht hW => ⟨⟨_, rfl, ⟨x_35, h_36, (g.fcts [3] rfl)⟩, q3_of g hK ht hW⟩, g.2.2.1.F ht⟩) g.2.2.1.2.2 dX0_openCall_178
        · have fc_38 := nle_f c_38
          have b_62 : bd 1 2147483647 x4_ := ltR fc_38 kb_0 (bdT x4_) (by decide)
          refine lv_aload_n hx hb dX0_openCall_132 rfl (lv_at hl 3 rfl) ?_
          refine g_getk (C := RX0) (T := TX0) (N := 14) hx hb hts (mc_ inX0) hown hK g rfl 0 (by decide) rfl (hts _ (List.mem_cons_of_mem _ t_373)) (fun _ h9 => h9) 3 rfl dX0_openCall_133 ?_
          refine lv_bipush (v := 6) hx hb dX0_openCall_136 (by decide) ?_
          refine lv_iload hx hb dX0_openCall_138 (lv_at hl 1 rfl) ?_
          have kb_6 : bd 6 6 (6 : Int32) := ⟨by decide, by decide⟩
          refine g_callv (va_runV (As := [.int 6, .int r_11]) (rest := []) ⟨hx, hb, hml, hown, hts⟩ (r_X8_fail_4 l dC dI L kd tys fr_34 H.size g.2.2.2.1 q0_ mq0_ kq0_ 6 kb_6 r_11 x_35 h_36 (g.fcts [0] rfl)) (cwV 2 hts (gV_ t_1215 t_1107 t_1108 t_184 t_1109) rfl rfl rfl (by decide +kernel) ⟨(Nat.le_of_ble_eq_true rfl), (Nat.le_of_ble_eq_true rfl)⟩) (pre3V g hK mq0_ kq0_ (by decide) (q := (RX8, TX8, 10)) rfl) rfl rfl hl.1 rfl (lv_room (Nat.le_of_ble_eq_true rfl)) dX0_openCall_140 ⟨(Nat.le_of_ble_eq_true rfl), (Nat.le_of_ble_eq_true rfl)⟩) g hK (by decide) (by decide) (fx' := [(7, 18, q1_, .int y_6), (0, 11, a0_, .int x_2), (0, 0, a0_, .ref q0_), (0, 2, a0_, .ref q1_)]) rfl (fun fr_63 H locs hp hMr_63 g => ?_)
          obtain ⟨x_64, h_65, hF_66⟩ := hp
          have g := g.more hF_66
          refine lv_aload_n hx hb dX0_openCall_143 rfl (lv_at hl 3 rfl) ?_
          refine g_getk (C := RX0) (T := TX0) (N := 14) hx hb hts (mc_ inX0) hown hK g rfl 2 (by decide) rfl (hts _ (List.mem_cons_of_mem _ t_375)) (fun _ h9 => h9) 5 rfl dX0_openCall_144 ?_
          refine lv_bipush (v := 13) hx hb dX0_openCall_147 (by decide) ?_
          refine lv_iconst (v := 0) hx hb dX0_openCall_149 (by decide) ?_
          refine g_callv (va_runV (As := [.int 13, .int 0]) (rest := []) ⟨hx, hb, hml, hown, hts⟩ (r_X7_emit l dC dI L kd tys fr_63 H.size g.2.2.2.1 q1_ mq1_ kq1_ 13 0) (cwV 2 hts (gV_ t_1203 t_1204 t_1205 t_191 t_1206) rfl rfl rfl (by decide +kernel) ⟨(Nat.le_of_ble_eq_true rfl), (Nat.le_of_ble_eq_true rfl)⟩) (pre3V g hK mq1_ kq1_ (by decide) (q := (RX7, TX7, 19)) rfl) rfl rfl hl.1 rfl (lv_room (Nat.le_of_ble_eq_true rfl)) dX0_openCall_150 ⟨(Nat.le_of_ble_eq_true rfl), (Nat.le_of_ble_eq_true rfl)⟩) g hK (by decide) (by decide) (fx' := [(8, 6, q0_, .int 1201), (8, 8, q0_, .int x_64), (7, 18, q1_, .int y_6), (0, 11, a0_, .int x_2), (0, 0, a0_, .ref q0_), (0, 2, a0_, .ref q1_)]) rfl (fun fr_67 H locs hp hMr_67 g => ?_)
          obtain ⟨x_68, h_69, hF_70⟩ := hp
          have g := g.more hF_70
          refine lv_aload_n hx hb dX0_openCall_153 rfl (lv_at hl 3 rfl) ?_
          refine g_getk (C := RX0) (T := TX0) (N := 14) hx hb hts (mc_ inX0) hown hK g rfl 2 (by decide) rfl (hts _ (List.mem_cons_of_mem _ t_375)) (fun _ h9 => h9) 6 rfl dX0_openCall_154 ?_
          refine lv_iload_n hx hb dX0_openCall_157 rfl (lv_at hl 4 rfl) ?_
          refine lv_iconst (v := 2) hx hb dX0_openCall_158 (by decide) ?_
          have kb_2 : bd 2 2 (2 : Int32) := ⟨by decide, by decide⟩
          refine lv_icmp_ne (tgt := 167) hx hb dX0_openCall_159 (by decide) (fun c_71 => ?_) (fun c_71 => ?_)
          · have fc_71 := neq_f c_71
            refine lv_bipush (v := 18) hx hb dX0_openCall_167 (by decide) ?_
            refine lv_iload_n hx hb dX0_openCall_169 rfl (lv_at hl 6 rfl) ?_
            refine g_callv (va_runV (As := [.int 18, .int x3_]) (rest := []) ⟨hx, hb, hml, hown, hts⟩ (r_X7_emit l dC dI L kd tys fr_67 H.size g.2.2.2.1 q1_ mq1_ kq1_ 18 x3_) (cwV 2 hts (gV_ t_1203 t_1204 t_1205 t_191 t_1206) rfl rfl rfl (by decide +kernel) ⟨(Nat.le_of_ble_eq_true rfl), (Nat.le_of_ble_eq_true rfl)⟩) (pre3V g hK mq1_ kq1_ (by decide) (q := (RX7, TX7, 19)) rfl) rfl rfl hl.1 rfl (lv_room (Nat.le_of_ble_eq_true rfl)) dX0_openCall_170 ⟨(Nat.le_of_ble_eq_true rfl), (Nat.le_of_ble_eq_true rfl)⟩) g hK (by decide) (by decide) (fx' := [(8, 6, q0_, .int 1201), (8, 8, q0_, .int x_64), (7, 18, q1_, .int y_6), (0, 11, a0_, .int x_2), (0, 0, a0_, .ref q0_), (0, 2, a0_, .ref q1_)]) rfl (fun fr_72 H locs hp hMr_72 g => ?_)
            obtain ⟨x_73, h_74, hF_75⟩ := hp
            have g := g.more hF_75
            refine lv_aload_n hx hb dX0_openCall_173 rfl (lv_at hl 3 rfl) ?_
            refine lv_iconst (v := 1) hx hb dX0_openCall_174 (by decide) ?_
            refine g_callv (va_runV (As := [.int 1]) (rest := []) ⟨hx, hb, hml, hown, hts⟩ (r_X0_addWhole l dC dI L kd tys fr_72 H.size g.2.2.2.1 a0_ ma0_ ka0_ 1) (cwV 1 hts (gV_ t_1211 t_1213 t_17 t_190 t_1214) rfl rfl rfl (by decide +kernel) ⟨(Nat.le_of_ble_eq_true rfl), (Nat.le_of_ble_eq_true rfl)⟩) (pre3V g hK ma0_ ka0_ (by decide) (q := (RX0, TX0, 14)) rfl) rfl rfl hl.1 rfl (lv_room (Nat.le_of_ble_eq_true rfl)) dX0_openCall_175 ⟨(Nat.le_of_ble_eq_true rfl), (Nat.le_of_ble_eq_true rfl)⟩) g hK (by decide) (by decide) (fx' := [(7, 6, q1_, .int x_73), (8, 6, q0_, .int 1201), (8, 8, q0_, .int x_64), (7, 18, q1_, .int y_6), (0, 11, a0_, .int x_2), (0, 0, a0_, .ref q0_), (0, 2, a0_, .ref q1_)]) rfl (fun fr_76 H locs hp hMr_76 g => ?_)
            obtain ⟨x_77, h_78, hF_79⟩ := hp
            have g := g.more hF_79
            have kb_1201 : bd 1201 1201 (1201 : Int32) := ⟨by decide, by decide⟩
            subst hQ
            exact W.vret hx hb hr (fun t ht hW => ⟨⟨_, rfl, ⟨1201, (bd_sub kb_1201 (by decide)), (g.fcts [3] rfl)⟩, q3_of g hK ht hW⟩, g.2.2.1.F ht⟩) g.2.2.1.2.2 dX0_openCall_178
          · have fc_71 := eq_f c_71
            have b_80 : bd 2 2 x1_ := eqX fc_71 (bdT x1_) kb_2 (by decide)
            refine lv_bipush (v := 17) hx hb dX0_openCall_162 (by decide) ?_
            refine lv_goto (tgt := 169) hx hb dX0_openCall_164 (by decide) ?_
            refine lv_iload_n hx hb dX0_openCall_169 rfl (lv_at hl 6 rfl) ?_
            refine g_callv (va_runV (As := [.int 17, .int x3_]) (rest := []) ⟨hx, hb, hml, hown, hts⟩ (r_X7_emit l dC dI L kd tys fr_67 H.size g.2.2.2.1 q1_ mq1_ kq1_ 17 x3_) (cwV 2 hts (gV_ t_1203 t_1204 t_1205 t_191 t_1206) rfl rfl rfl (by decide +kernel) ⟨(Nat.le_of_ble_eq_true rfl), (Nat.le_of_ble_eq_true rfl)⟩) (pre3V g hK mq1_ kq1_ (by decide) (q := (RX7, TX7, 19)) rfl) rfl rfl hl.1 rfl (lv_room (Nat.le_of_ble_eq_true rfl)) dX0_openCall_170 ⟨(Nat.le_of_ble_eq_true rfl), (Nat.le_of_ble_eq_true rfl)⟩) g hK (by decide) (by decide) (fx' := [(8, 6, q0_, .int 1201), (8, 8, q0_, .int x_64), (7, 18, q1_, .int y_6), (0, 11, a0_, .int x_2), (0, 0, a0_, .ref q0_), (0, 2, a0_, .ref q1_)]) rfl (fun fr_81 H locs hp hMr_81 g => ?_)
            obtain ⟨x_82, h_83, hF_84⟩ := hp
            have g := g.more hF_84
            refine lv_aload_n hx hb dX0_openCall_173 rfl (lv_at hl 3 rfl) ?_
            refine lv_iconst (v := 1) hx hb dX0_openCall_174 (by decide) ?_
            refine g_callv (va_runV (As := [.int 1]) (rest := []) ⟨hx, hb, hml, hown, hts⟩ (r_X0_addWhole l dC dI L kd tys fr_81 H.size g.2.2.2.1 a0_ ma0_ ka0_ 1) (cwV 1 hts (gV_ t_1211 t_1213 t_17 t_190 t_1214) rfl rfl rfl (by decide +kernel) ⟨(Nat.le_of_ble_eq_true rfl), (Nat.le_of_ble_eq_true rfl)⟩) (pre3V g hK ma0_ ka0_ (by decide) (q := (RX0, TX0, 14)) rfl) rfl rfl hl.1 rfl (lv_room (Nat.le_of_ble_eq_true rfl)) dX0_openCall_175 ⟨(Nat.le_of_ble_eq_true rfl), (Nat.le_of_ble_eq_true rfl)⟩) g hK (by decide) (by decide) (fx' := [(7, 6, q1_, .int x_82), (8, 6, q0_, .int 1201), (8, 8, q0_, .int x_64), (7, 18, q1_, .int y_6), (0, 11, a0_, .int x_2), (0, 0, a0_, .ref q0_), (0, 2, a0_, .ref q1_)]) rfl (fun fr_85 H locs hp hMr_85 g => ?_)
            obtain ⟨x_86, h_87, hF_88⟩ := hp
            have g := g.more hF_88
            have kb_1201 : bd 1201 1201 (1201 : Int32) := ⟨by decide, by decide⟩
            subst hQ
            exact W.vret hx hb hr (fun t ht hW => ⟨⟨_, rfl, ⟨1201, (bd_sub kb_1201 (by decide)), (g.fcts [3] rfl)⟩, q3_of g hK ht hW⟩, g.2.2.1.F ht⟩) g.2.2.1.2.2 dX0_openCall_178
      · have fc_33 := eq_f c_33
        have b_89 : bd 0 0 x4_ := eqX fc_33 (bdT x4_) kb_0 (by decide)
        refine lv_iload hx hb dX0_openCall_81 (lv_at hl 0 rfl) ?_
        refine lv_if_ne (tgt := 97) hx hb dX0_openCall_83 (by decide) (fun c_ => ?_) (fun c_ => absurd c_ (by decide))
        refine lv_iload hx hb dX0_openCall_97 (lv_at hl 0 rfl) ?_
        refine lv_if_ne (tgt := 120) hx hb dX0_openCall_99 (by decide) (fun c_ => ?_) (fun c_ => absurd c_ (by decide))
        refine lv_aload_n hx hb dX0_openCall_120 rfl (lv_at hl 3 rfl) ?_
        refine g_getk (C := RX0) (T := TX0) (N := 14) hx hb hts (mc_ inX0) hown hK g rfl 0 (by decide) rfl (hts _ (List.mem_cons_of_mem _ t_373)) (fun _ h9 => h9) 3 rfl dX0_openCall_121 ?_
        refine g_callv (va_runV (As := []) (rest := []) ⟨hx, hb, hml, hown, hts⟩ (r_X8_next l dC dI L kd tys fr_12 H.size g.2.2.2.1 q0_ mq0_ kq0_) (cwV 0 hts (gV_ t_1225 t_1103 t_1104 t_184 t_1105) rfl rfl rfl (by decide +kernel) ⟨(Nat.le_of_ble_eq_true rfl), (Nat.le_of_ble_eq_true rfl)⟩) (pre3V g hK mq0_ kq0_ (by decide) (q := (RX8, TX8, 10)) rfl) rfl rfl hl.1 rfl (lv_room (Nat.le_of_ble_eq_true rfl)) dX0_openCall_124 ⟨(Nat.le_of_ble_eq_true rfl), (Nat.le_of_ble_eq_true rfl)⟩) g hK (by decide) (by decide) (fx' := [(7, 18, q1_, .int y_6), (0, 11, a0_, .int x_2), (0, 0, a0_, .ref q0_), (0, 2, a0_, .ref q1_)]) rfl (fun fr_90 H locs hp hMr_90 g => ?_)
        obtain ⟨x_91, h_92, hF_93⟩ := hp
        have g := g.more hF_93
        refine lv_iload hx hb dX0_openCall_127 (lv_at hl 7 rfl) ?_
        refine lv_if_le (tgt := 143) hx hb dX0_openCall_129 (by decide) (fun c_94 => ?_) (fun c_94 => ?_)
        · have fc_94 := le_f c_94
          refine lv_aload_n hx hb dX0_openCall_143 rfl (lv_at hl 3 rfl) ?_
          refine g_getk (C := RX0) (T := TX0) (N := 14) hx hb hts (mc_ inX0) hown hK g rfl 2 (by decide) rfl (hts _ (List.mem_cons_of_mem _ t_375)) (fun _ h9 => h9) 4 rfl dX0_openCall_144 ?_
          refine lv_bipush (v := 13) hx hb dX0_openCall_147 (by decide) ?_
          refine lv_iconst (v := 0) hx hb dX0_openCall_149 (by decide) ?_
          refine g_callv (va_runV (As := [.int 13, .int 0]) (rest := []) ⟨hx, hb, hml, hown, hts⟩ (r_X7_emit l dC dI L kd tys fr_90 H.size g.2.2.2.1 q1_ mq1_ kq1_ 13 0) (cwV 2 hts (gV_ t_1203 t_1204 t_1205 t_191 t_1206) rfl rfl rfl (by decide +kernel) ⟨(Nat.le_of_ble_eq_true rfl), (Nat.le_of_ble_eq_true rfl)⟩) (pre3V g hK mq1_ kq1_ (by decide) (q := (RX7, TX7, 19)) rfl) rfl rfl hl.1 rfl (lv_room (Nat.le_of_ble_eq_true rfl)) dX0_openCall_150 ⟨(Nat.le_of_ble_eq_true rfl), (Nat.le_of_ble_eq_true rfl)⟩) g hK (by decide) (by decide) (fx' := [(8, 6, q0_, .int x_91), (7, 18, q1_, .int y_6), (0, 11, a0_, .int x_2), (0, 0, a0_, .ref q0_), (0, 2, a0_, .ref q1_)]) rfl (fun fr_95 H locs hp hMr_95 g => ?_)
          obtain ⟨x_96, h_97, hF_98⟩ := hp
          have g := g.more hF_98
          refine lv_aload_n hx hb dX0_openCall_153 rfl (lv_at hl 3 rfl) ?_
          refine g_getk (C := RX0) (T := TX0) (N := 14) hx hb hts (mc_ inX0) hown hK g rfl 2 (by decide) rfl (hts _ (List.mem_cons_of_mem _ t_375)) (fun _ h9 => h9) 5 rfl dX0_openCall_154 ?_
          refine lv_iload_n hx hb dX0_openCall_157 rfl (lv_at hl 4 rfl) ?_
          refine lv_iconst (v := 2) hx hb dX0_openCall_158 (by decide) ?_
          have kb_2 : bd 2 2 (2 : Int32) := ⟨by decide, by decide⟩
          refine lv_icmp_ne (tgt := 167) hx hb dX0_openCall_159 (by decide) (fun c_99 => ?_) (fun c_99 => ?_)
          · have fc_99 := neq_f c_99
            refine lv_bipush (v := 18) hx hb dX0_openCall_167 (by decide) ?_
            refine lv_iload_n hx hb dX0_openCall_169 rfl (lv_at hl 6 rfl) ?_
            refine g_callv (va_runV (As := [.int 18, .int x3_]) (rest := []) ⟨hx, hb, hml, hown, hts⟩ (r_X7_emit l dC dI L kd tys fr_95 H.size g.2.2.2.1 q1_ mq1_ kq1_ 18 x3_) (cwV 2 hts (gV_ t_1203 t_1204 t_1205 t_191 t_1206) rfl rfl rfl (by decide +kernel) ⟨(Nat.le_of_ble_eq_true rfl), (Nat.le_of_ble_eq_true rfl)⟩) (pre3V g hK mq1_ kq1_ (by decide) (q := (RX7, TX7, 19)) rfl) rfl rfl hl.1 rfl (lv_room (Nat.le_of_ble_eq_true rfl)) dX0_openCall_170 ⟨(Nat.le_of_ble_eq_true rfl), (Nat.le_of_ble_eq_true rfl)⟩) g hK (by decide) (by decide) (fx' := [(8, 6, q0_, .int x_91), (7, 18, q1_, .int y_6), (0, 11, a0_, .int x_2), (0, 0, a0_, .ref q0_), (0, 2, a0_, .ref q1_)]) rfl (fun fr_100 H locs hp hMr_100 g => ?_)
            obtain ⟨x_101, h_102, hF_103⟩ := hp
            have g := g.more hF_103
            refine lv_aload_n hx hb dX0_openCall_173 rfl (lv_at hl 3 rfl) ?_
            refine lv_iconst (v := 1) hx hb dX0_openCall_174 (by decide) ?_
            refine g_callv (va_runV (As := [.int 1]) (rest := []) ⟨hx, hb, hml, hown, hts⟩ (r_X0_addWhole l dC dI L kd tys fr_100 H.size g.2.2.2.1 a0_ ma0_ ka0_ 1) (cwV 1 hts (gV_ t_1211 t_1213 t_17 t_190 t_1214) rfl rfl rfl (by decide +kernel) ⟨(Nat.le_of_ble_eq_true rfl), (Nat.le_of_ble_eq_true rfl)⟩) (pre3V g hK ma0_ ka0_ (by decide) (q := (RX0, TX0, 14)) rfl) rfl rfl hl.1 rfl (lv_room (Nat.le_of_ble_eq_true rfl)) dX0_openCall_175 ⟨(Nat.le_of_ble_eq_true rfl), (Nat.le_of_ble_eq_true rfl)⟩) g hK (by decide) (by decide) (fx' := [(7, 6, q1_, .int x_101), (8, 6, q0_, .int x_91), (7, 18, q1_, .int y_6), (0, 11, a0_, .int x_2), (0, 0, a0_, .ref q0_), (0, 2, a0_, .ref q1_)]) rfl (fun fr_104 H locs hp hMr_104 g => ?_)
            obtain ⟨x_105, h_106, hF_107⟩ := hp
            have g := g.more hF_107
            subst hQ
            exact W.vret hx hb hr (fun t ht hW => ⟨⟨_, rfl, ⟨x_91, h_92, (g.fcts [3] rfl)⟩, q3_of g hK ht hW⟩, g.2.2.1.F ht⟩) g.2.2.1.2.2 dX0_openCall_178
          · have fc_99 := eq_f c_99
            have b_108 : bd 2 2 x1_ := eqX fc_99 (bdT x1_) kb_2 (by decide)
            refine lv_bipush (v := 17) hx hb dX0_openCall_162 (by decide) ?_
            refine lv_goto (tgt := 169) hx hb dX0_openCall_164 (by decide) ?_
            refine lv_iload_n hx hb dX0_openCall_169 rfl (lv_at hl 6 rfl) ?_
            refine g_callv (va_runV (As := [.int 17, .int x3_]) (rest := []) ⟨hx, hb, hml, hown, hts⟩ (r_X7_emit l dC dI L kd tys fr_95 H.size g.2.2.2.1 q1_ mq1_ kq1_ 17 x3_) (cwV 2 hts (gV_ t_1203 t_1204 t_1205 t_191 t_1206) rfl rfl rfl (by decide +kernel) ⟨(Nat.le_of_ble_eq_true rfl), (Nat.le_of_ble_eq_true rfl)⟩) (pre3V g hK mq1_ kq1_ (by decide) (q := (RX7, TX7, 19)) rfl) rfl rfl hl.1 rfl (lv_room (Nat.le_of_ble_eq_true rfl)) dX0_openCall_170 ⟨(Nat.le_of_ble_eq_true rfl), (Nat.le_of_ble_eq_true rfl)⟩) g hK (by decide) (by decide) (fx' := [(8, 6, q0_, .int x_91), (7, 18, q1_, .int y_6), (0, 11, a0_, .int x_2), (0, 0, a0_, .ref q0_), (0, 2, a0_, .ref q1_)]) rfl (fun fr_109 H locs hp hMr_109 g => ?_)
            obtain ⟨x_110, h_111, hF_112⟩ := hp
            have g := g.more hF_112
            refine lv_aload_n hx hb dX0_openCall_173 rfl (lv_at hl 3 rfl) ?_
            refine lv_iconst (v := 1) hx hb dX0_openCall_174 (by decide) ?_
            refine g_callv (va_runV (As := [.int 1]) (rest := []) ⟨hx, hb, hml, hown, hts⟩ (r_X0_addWhole l dC dI L kd tys fr_109 H.size g.2.2.2.1 a0_ ma0_ ka0_ 1) (cwV 1 hts (gV_ t_1211 t_1213 t_17 t_190 t_1214) rfl rfl rfl (by decide +kernel) ⟨(Nat.le_of_ble_eq_true rfl), (Nat.le_of_ble_eq_true rfl)⟩) (pre3V g hK ma0_ ka0_ (by decide) (q := (RX0, TX0, 14)) rfl) rfl rfl hl.1 rfl (lv_room (Nat.le_of_ble_eq_true rfl)) dX0_openCall_175 ⟨(Nat.le_of_ble_eq_true rfl), (Nat.le_of_ble_eq_true rfl)⟩) g hK (by decide) (by decide) (fx' := [(7, 6, q1_, .int x_110), (8, 6, q0_, .int x_91), (7, 18, q1_, .int y_6), (0, 11, a0_, .int x_2), (0, 0, a0_, .ref q0_), (0, 2, a0_, .ref q1_)]) rfl (fun fr_113 H locs hp hMr_113 g => ?_)
            obtain ⟨x_114, h_115, hF_116⟩ := hp
            have g := g.more hF_116
            subst hQ
            exact W.vret hx hb hr (fun t ht hW => ⟨⟨_, rfl, ⟨x_91, h_92, (g.fcts [3] rfl)⟩, q3_of g hK ht hW⟩, g.2.2.1.F ht⟩) g.2.2.1.2.2 dX0_openCall_178
        · have fc_94 := nle_f c_94
          have b_117 : bd 0 (-1) (0 : Int32) := ltL fc_94 kb_0 b_89 (by decide)
          exact bd_no (eqX rfl b_117 kb_0 (lo := 0) (hi := (-1)) (by decide)) (by decide)
  · have fc_3 := nlt_f c_3
    have b_118 : bd 40 2147483647 x_2 := leR fc_3 kb_40 (bdT x_2) (by decide)
    refine lv_aload_n hx hb dX0_openCall_18 rfl (lv_at hl 1 rfl) ?_
    refine g_getk (C := RX0) (T := TX0) (N := 14) hx hb hts (mc_ inX0) hown hK g rfl 0 (by decide) rfl (hts _ (List.mem_cons_of_mem _ t_373)) (fun _ h9 => h9) 1 rfl dX0_openCall_19 ?_
    refine lv_iconst (v := 4) hx hb dX0_openCall_22 (by decide) ?_
    refine lv_iload hx hb dX0_openCall_23 (lv_at hl 0 rfl) ?_
    have kb_4 : bd 4 4 (4 : Int32) := ⟨by decide, by decide⟩
    refine g_callv (va_runV (As := [.int 4, .int r_1]) (rest := []) ⟨hx, hb, hml, hown, hts⟩ (r_X8_fail l dC dI L kd tys fr_1 H.size g.2.2.2.1 q0_ mq0_ kq0_ 4 kb_4 r_1) (cwV 2 hts (gV_ t_1215 t_1107 t_1108 t_184 t_1109) rfl rfl rfl (by decide +kernel) ⟨(Nat.le_of_ble_eq_true rfl), (Nat.le_of_ble_eq_true rfl)⟩) (pre3V g hK mq0_ kq0_ (by decide) (q := (RX8, TX8, 10)) rfl) rfl rfl hl.1 rfl (lv_room (Nat.le_of_ble_eq_true rfl)) dX0_openCall_25 ⟨(Nat.le_of_ble_eq_true rfl), (Nat.le_of_ble_eq_true rfl)⟩) g hK (by decide) (by decide) (fx' := [(0, 11, a0_, .int x_2), (0, 0, a0_, .ref q0_), (0, 2, a0_, .ref q1_)]) rfl (fun fr_119 H locs hp hMr_119 g => ?_)
    obtain ⟨x_120, h_121, hF_122⟩ := hp
    have g := g.more hF_122
    refine lv_aload_n hx hb dX0_openCall_28 rfl (lv_at hl 1 rfl) ?_
    refine g_getk (C := RX0) (T := TX0) (N := 14) hx hb hts (mc_ inX0) hown hK g rfl 2 (by decide) rfl (hts _ (List.mem_cons_of_mem _ t_375)) (fun _ h9 => h9) 4 rfl dX0_openCall_29 ?_
    refine lv_dup hx hb dX0_openCall_32 rfl ?_
    refine g_geti (C := RX7) (T := TX7) (N := 19) hx hb hts (mc_ inX7) hown hK g mq1_ kq1_ (by decide) rfl 18 (by decide) rfl (hts _ (List.mem_cons_of_mem _ t_681)) (fun _ h9 => h9) rfl dX0_openCall_33 (fun x_123 bx_123 g => ?_)
    refine lv_iconst (v := 1) hx hb dX0_openCall_36 (by decide) ?_
    have kb_1 : bd 1 1 (1 : Int32) := ⟨by decide, by decide⟩
    refine lv_iadd hx hb dX0_openCall_37 ?_
    refine lv_topi (fun y_124 ey_124 => ?_)
    refine g_put (C := RX7) (T := TX7) (N := 19) hx hb hts (mc_ inX7) tyX7 tyX7_ok nmX7 hown hK g mq1_ kq1_ (by decide) rfl 18 (by decide) (hts _ (List.mem_cons_of_mem _ t_681)) (fun _ h9 => h9) rfl rfl (okV_i (bdT y_124)) rfl rfl (by decide) (Or.inr (Or.inl (by decide))) (fx' := [(8, 6, q0_, .int 1201), (8, 8, q0_, .int x_120), (0, 11, a0_, .int x_2), (0, 0, a0_, .ref q0_), (0, 2, a0_, .ref q1_)]) rfl dX0_openCall_38 (fun f H locs g => ?_)
    refine lv_aload_n hx hb dX0_openCall_41 rfl (lv_at hl 1 rfl) ?_
    refine g_getk (C := RX0) (T := TX0) (N := 14) hx hb hts (mc_ inX0) hown hK g rfl 0 (by decide) rfl (hts _ (List.mem_cons_of_mem _ t_373)) (fun _ h9 => h9) 4 rfl dX0_openCall_42 ?_
    refine g_callv (va_runV (As := []) (rest := []) ⟨hx, hb, hml, hown, hts⟩ (r_X8_next l dC dI L kd tys f H.size g.2.2.2.1 q0_ mq0_ kq0_) (cwV 0 hts (gV_ t_1225 t_1103 t_1104 t_184 t_1105) rfl rfl rfl (by decide +kernel) ⟨(Nat.le_of_ble_eq_true rfl), (Nat.le_of_ble_eq_true rfl)⟩) (pre3V g hK mq0_ kq0_ (by decide) (q := (RX8, TX8, 10)) rfl) rfl rfl hl.1 rfl (lv_room (Nat.le_of_ble_eq_true rfl)) dX0_openCall_45 ⟨(Nat.le_of_ble_eq_true rfl), (Nat.le_of_ble_eq_true rfl)⟩) g hK (by decide) (by decide) (fx' := [(7, 18, q1_, .int y_124), (8, 8, q0_, .int x_120), (0, 11, a0_, .int x_2), (0, 0, a0_, .ref q0_), (0, 2, a0_, .ref q1_)]) rfl (fun fr_125 H locs hp hMr_125 g => ?_)
    obtain ⟨x_126, h_127, hF_128⟩ := hp
    have g := g.more hF_128
    refine lv_aload_n hx hb dX0_openCall_48 rfl (lv_at hl 1 rfl) ?_
    refine g_getk (C := RX0) (T := TX0) (N := 14) hx hb hts (mc_ inX0) hown hK g rfl 0 (by decide) rfl (hts _ (List.mem_cons_of_mem _ t_373)) (fun _ h9 => h9) 4 rfl dX0_openCall_49 ?_
    refine g_calli (va_runV (As := []) (rest := []) ⟨hx, hb, hml, hown, hts⟩ (r_X8_place l dC dI L kd tys fr_125 H.size g.2.2.2.1 q0_ mq0_ kq0_) (cwV 0 hts (gV_ t_1220 t_1111 t_1112 t_184 t_1113) rfl rfl rfl (by decide +kernel) ⟨(Nat.le_of_ble_eq_true rfl), (Nat.le_of_ble_eq_true rfl)⟩) (pre3V g hK mq0_ kq0_ (by decide) (q := (RX8, TX8, 10)) rfl) rfl rfl hl.1 rfl (lv_room (Nat.le_of_ble_eq_true rfl)) dX0_openCall_52 ⟨(Nat.le_of_ble_eq_true rfl), (Nat.le_of_ble_eq_true rfl)⟩) g hK (by decide) (by decide) (fx' := [(8, 6, q0_, .int x_126), (7, 18, q1_, .int y_124), (8, 8, q0_, .int x_120), (0, 11, a0_, .int x_2), (0, 0, a0_, .ref q0_), (0, 2, a0_, .ref q1_)]) rfl (fun r_129 fr_129 H locs hp hMr_129 g => ?_)
    refine lv_istore (lv' := [(6, .int r_129), (5, .int r_1), (0, .ref a0_), (1, .int x1_), (2, .int x2_), (3, .int x3_), (4, .int x4_)]) hx hb dX0_openCall_55 hl (by decide) rfl (fun ls hl => ?_)
    refine lv_aload_n hx hb dX0_openCall_57 rfl (lv_at hl 2 rfl) ?_
    refine g_getk (C := RX0) (T := TX0) (N := 14) hx hb hts (mc_ inX0) hown hK g rfl 0 (by decide) rfl (hts _ (List.mem_cons_of_mem _ t_373)) (fun _ h9 => h9) 4 rfl dX0_openCall_58 ?_
    refine g_calli (va_runV (As := []) (rest := []) ⟨hx, hb, hml, hown, hts⟩ (r_X8_kind l dC dI L kd tys fr_129 H.size g.2.2.2.1 q0_ mq0_ kq0_) (cwV 0 hts (gV_ t_1186 t_1119 t_1120 t_184 t_1121) rfl rfl rfl (by decide +kernel) ⟨(Nat.le_of_ble_eq_true rfl), (Nat.le_of_ble_eq_true rfl)⟩) (pre3V g hK mq0_ kq0_ (by decide) (q := (RX8, TX8, 10)) rfl) rfl rfl hl.1 rfl (lv_room (Nat.le_of_ble_eq_true rfl)) dX0_openCall_61 ⟨(Nat.le_of_ble_eq_true rfl), (Nat.le_of_ble_eq_true rfl)⟩) g hK (by decide) (by decide) (fx' := [(8, 6, q0_, .int x_126), (7, 18, q1_, .int y_124), (8, 8, q0_, .int x_120), (0, 11, a0_, .int x_2), (0, 0, a0_, .ref q0_), (0, 2, a0_, .ref q1_)]) rfl (fun r_130 fr_130 H locs hp hMr_130 g => ?_)
    refine lv_bipush (v := 41) hx hb dX0_openCall_64 (by decide) ?_
    have kb_41 : bd 41 41 (41 : Int32) := ⟨by decide, by decide⟩
    refine lv_icmp_ne (tgt := 73) hx hb dX0_openCall_66 (by decide) (fun c_131 => ?_) (fun c_131 => ?_)
    · have fc_131 := neq_f c_131
      refine lv_iconst (v := 0) hx hb dX0_openCall_73 (by decide) ?_
      refine lv_istore (lv' := [(7, .int 0), (6, .int r_129), (5, .int r_1), (0, .ref a0_), (1, .int x1_), (2, .int x2_), (3, .int x3_), (4, .int x4_)]) hx hb dX0_openCall_74 hl (by decide) rfl (fun ls hl => ?_)
      refine lv_iload hx hb dX0_openCall_76 (lv_at hl 7 rfl) ?_
      have kb_0 : bd 0 0 (0 : Int32) := ⟨by decide, by decide⟩
      refine lv_if_ne (tgt := 97) hx hb dX0_openCall_78 (by decide) (fun c_132 => ?_) (fun c_132 => ?_)
      · have fc_132 := neq_f c_132
        refine lv_iload hx hb dX0_openCall_97 (lv_at hl 0 rfl) ?_
        refine lv_if_ne (tgt := 120) hx hb dX0_openCall_99 (by decide) (fun c_ => absurd c_ (by decide)) (fun c_ => ?_)
        refine lv_aload_n hx hb dX0_openCall_102 rfl (lv_at hl 3 rfl) ?_
        refine lv_iload_n hx hb dX0_openCall_103 rfl (lv_at hl 4 rfl) ?_
        refine lv_iload_n hx hb dX0_openCall_104 rfl (lv_at hl 5 rfl) ?_
        refine lv_iload_n hx hb dX0_openCall_105 rfl (lv_at hl 6 rfl) ?_
        refine g_callv (va_runV (As := [.int x1_, .int x2_, .int x3_]) (rest := []) ⟨hx, hb, hml, hown, hts⟩ (r_X0_push l dC dI L kd tys fr_130 H.size g.2.2.2.1 a0_ ma0_ ka0_ x1_ x2_ x3_) (cwV 3 hts (gV_ t_1221 t_1223 t_19 t_190 t_1224) rfl rfl rfl (by decide +kernel) ⟨(Nat.le_of_ble_eq_true rfl), (Nat.le_of_ble_eq_true rfl)⟩) (pre3V g hK ma0_ ka0_ (by decide) (q := (RX0, TX0, 14)) rfl) rfl rfl hl.1 rfl (lv_room (Nat.le_of_ble_eq_true rfl)) dX0_openCall_106 ⟨(Nat.le_of_ble_eq_true rfl), (Nat.le_of_ble_eq_true rfl)⟩) g hK (by decide) (by decide) (fx' := [(8, 6, q0_, .int x_126), (7, 18, q1_, .int y_124), (8, 8, q0_, .int x_120), (0, 11, a0_, .int x_2), (0, 0, a0_, .ref q0_), (0, 2, a0_, .ref q1_)]) rfl (fun fr_133 H locs hp hMr_133 g => ?_)
        obtain ⟨x_134, h_135, hF_136⟩ := hp
        have g := g.more hF_136
        refine lv_aload_n hx hb dX0_openCall_109 rfl (lv_at hl 3 rfl) ?_
        refine lv_dup hx hb dX0_openCall_110 rfl ?_
        refine g_getk (C := RX0) (T := TX0) (N := 14) hx hb hts (mc_ inX0) hown hK g rfl 11 (by decide) rfl (hts _ (List.mem_cons_of_mem _ t_384)) (fun _ h9 => h9) 4 rfl dX0_openCall_111 ?_
        refine lv_iconst (v := 1) hx hb dX0_openCall_114 (by decide) ?_
        refine lv_iadd hx hb dX0_openCall_115 ?_
        refine lv_topi (fun y_137 ey_137 => ?_)
        refine g_put (C := RX0) (T := TX0) (N := 14) hx hb hts (mc_ inX0) tyX0 tyX0_ok nmX0 hown hK g ma0_ ka0_ (by decide) rfl 11 (by decide) (hts _ (List.mem_cons_of_mem _ t_384)) (fun _ h9 => h9) rfl rfl (okV_i (bdT y_137)) rfl rfl (by decide) (Or.inr (Or.inl (by decide))) (fx' := [(0, 8, a0_, .int x_134), (8, 6, q0_, .int x_126), (7, 18, q1_, .int y_124), (8, 8, q0_, .int x_120), (0, 0, a0_, .ref q0_), (0, 2, a0_, .ref q1_)]) rfl dX0_openCall_116 (fun f H locs g => ?_)
        subst hQ
        exact W.vret hx hb hr (fun t ht hW => ⟨⟨_, rfl, ⟨x_126, h_127, (g.fcts [2] rfl)⟩, q3_of g hK ht hW⟩, g.2.2.1.F ht⟩) g.2.2.1.2.2 dX0_openCall_119
      · have fc_132 := eq_f c_132
        have b_138 : bd 0 0 x4_ := eqX fc_132 (bdT x4_) kb_0 (by decide)
        refine lv_iload hx hb dX0_openCall_81 (lv_at hl 0 rfl) ?_
        refine lv_if_ne (tgt := 97) hx hb dX0_openCall_83 (by decide) (fun c_ => absurd c_ (by decide)) (fun c_ => ?_)
        refine lv_aload_n hx hb dX0_openCall_86 rfl (lv_at hl 3 rfl) ?_
        refine g_getk (C := RX0) (T := TX0) (N := 14) hx hb hts (mc_ inX0) hown hK g rfl 0 (by decide) rfl (hts _ (List.mem_cons_of_mem _ t_373)) (fun _ h9 => h9) 4 rfl dX0_openCall_87 ?_
        refine lv_bipush (v := 6) hx hb dX0_openCall_90 (by decide) ?_
        refine lv_iload hx hb dX0_openCall_92 (lv_at hl 2 rfl) ?_
        have kb_6 : bd 6 6 (6 : Int32) := ⟨by decide, by decide⟩
        refine g_callv (va_runV (As := [.int 6, .int r_1]) (rest := []) ⟨hx, hb, hml, hown, hts⟩ (r_X8_fail_5 l dC dI L kd tys fr_130 H.size g.2.2.2.1 q0_ mq0_ kq0_ 6 kb_6 r_1 x_126 h_127 x_120 h_121 (g.fcts [0, 2] rfl)) (cwV 2 hts (gV_ t_1215 t_1107 t_1108 t_184 t_1109) rfl rfl rfl (by decide +kernel) ⟨(Nat.le_of_ble_eq_true rfl), (Nat.le_of_ble_eq_true rfl)⟩) (pre3V g hK mq0_ kq0_ (by decide) (q := (RX8, TX8, 10)) rfl) rfl rfl hl.1 rfl (lv_room (Nat.le_of_ble_eq_true rfl)) dX0_openCall_94 ⟨(Nat.le_of_ble_eq_true rfl), (Nat.le_of_ble_eq_true rfl)⟩) g hK (by decide) (by decide) (fx' := [(7, 18, q1_, .int y_124), (8, 8, q0_, .int x_120), (0, 11, a0_, .int x_2), (0, 0, a0_, .ref q0_), (0, 2, a0_, .ref q1_)]) rfl (fun fr_139 H locs hp hMr_139 g => ?_)
        have hF_140 := hp
        have g := g.more hF_140
        refine lv_iload hx hb dX0_openCall_97 (lv_at hl 0 rfl) ?_
        refine lv_if_ne (tgt := 120) hx hb dX0_openCall_99 (by decide) (fun c_ => absurd c_ (by decide)) (fun c_ => ?_)
        refine lv_aload_n hx hb dX0_openCall_102 rfl (lv_at hl 3 rfl) ?_
        refine lv_iload_n hx hb dX0_openCall_103 rfl (lv_at hl 4 rfl) ?_
        refine lv_iload_n hx hb dX0_openCall_104 rfl (lv_at hl 5 rfl) ?_
        refine lv_iload_n hx hb dX0_openCall_105 rfl (lv_at hl 6 rfl) ?_
        refine g_callv (va_runV (As := [.int x1_, .int x2_, .int x3_]) (rest := []) ⟨hx, hb, hml, hown, hts⟩ (r_X0_push l dC dI L kd tys fr_139 H.size g.2.2.2.1 a0_ ma0_ ka0_ x1_ x2_ x3_) (cwV 3 hts (gV_ t_1221 t_1223 t_19 t_190 t_1224) rfl rfl rfl (by decide +kernel) ⟨(Nat.le_of_ble_eq_true rfl), (Nat.le_of_ble_eq_true rfl)⟩) (pre3V g hK ma0_ ka0_ (by decide) (q := (RX0, TX0, 14)) rfl) rfl rfl hl.1 rfl (lv_room (Nat.le_of_ble_eq_true rfl)) dX0_openCall_106 ⟨(Nat.le_of_ble_eq_true rfl), (Nat.le_of_ble_eq_true rfl)⟩) g hK (by decide) (by decide) (fx' := [(8, 6, q0_, .int 1201), (7, 18, q1_, .int y_124), (8, 8, q0_, .int x_120), (0, 11, a0_, .int x_2), (0, 0, a0_, .ref q0_), (0, 2, a0_, .ref q1_)]) rfl (fun fr_141 H locs hp hMr_141 g => ?_)
        obtain ⟨x_142, h_143, hF_144⟩ := hp
        have g := g.more hF_144
        refine lv_aload_n hx hb dX0_openCall_109 rfl (lv_at hl 3 rfl) ?_
        refine lv_dup hx hb dX0_openCall_110 rfl ?_
        refine g_getk (C := RX0) (T := TX0) (N := 14) hx hb hts (mc_ inX0) hown hK g rfl 11 (by decide) rfl (hts _ (List.mem_cons_of_mem _ t_384)) (fun _ h9 => h9) 4 rfl dX0_openCall_111 ?_
        refine lv_iconst (v := 1) hx hb dX0_openCall_114 (by decide) ?_
        refine lv_iadd hx hb dX0_openCall_115 ?_
        refine lv_topi (fun y_145 ey_145 => ?_)
        refine g_put (C := RX0) (T := TX0) (N := 14) hx hb hts (mc_ inX0) tyX0 tyX0_ok nmX0 hown hK g ma0_ ka0_ (by decide) rfl 11 (by decide) (hts _ (List.mem_cons_of_mem _ t_384)) (fun _ h9 => h9) rfl rfl (okV_i (bdT y_145)) rfl rfl (by decide) (Or.inr (Or.inl (by decide))) (fx' := [(0, 8, a0_, .int x_142), (8, 6, q0_, .int 1201), (7, 18, q1_, .int y_124), (8, 8, q0_, .int x_120), (0, 0, a0_, .ref q0_), (0, 2, a0_, .ref q1_)]) rfl dX0_openCall_116 (fun f H locs g => ?_)
        have kb_1201 : bd 1201 1201 (1201 : Int32) := ⟨by decide, by decide⟩
        subst hQ
        exact W.vret hx hb hr (fun t ht hW => ⟨⟨_, rfl, ⟨1201, (bd_sub kb_1201 (by decide)), (g.fcts [2] rfl)⟩, q3_of g hK ht hW⟩, g.2.2.1.F ht⟩) g.2.2.1.2.2 dX0_openCall_119
    · have fc_131 := eq_f c_131
      have b_146 : bd 41 41 r_130 := eqX fc_131 (bdT r_130) kb_41 (by decide)
      refine lv_iconst (v := 1) hx hb dX0_openCall_69 (by decide) ?_
      refine lv_goto (tgt := 74) hx hb dX0_openCall_70 (by decide) ?_
      refine lv_istore (lv' := [(7, .int 1), (6, .int r_129), (5, .int r_1), (0, .ref a0_), (1, .int x1_), (2, .int x2_), (3, .int x3_), (4, .int x4_)]) hx hb dX0_openCall_74 hl (by decide) rfl (fun ls hl => ?_)
      refine lv_iload hx hb dX0_openCall_76 (lv_at hl 7 rfl) ?_
      have kb_0 : bd 0 0 (0 : Int32) := ⟨by decide, by decide⟩
      refine lv_if_ne (tgt := 97) hx hb dX0_openCall_78 (by decide) (fun c_147 => ?_) (fun c_147 => ?_)
      · have fc_147 := neq_f c_147
        refine lv_iload hx hb dX0_openCall_97 (lv_at hl 0 rfl) ?_
        refine lv_if_ne (tgt := 120) hx hb dX0_openCall_99 (by decide) (fun c_ => ?_) (fun c_ => absurd c_ (by decide))
        refine lv_aload_n hx hb dX0_openCall_120 rfl (lv_at hl 3 rfl) ?_
        refine g_getk (C := RX0) (T := TX0) (N := 14) hx hb hts (mc_ inX0) hown hK g rfl 0 (by decide) rfl (hts _ (List.mem_cons_of_mem _ t_373)) (fun _ h9 => h9) 4 rfl dX0_openCall_121 ?_
        refine g_callv (va_runV (As := []) (rest := []) ⟨hx, hb, hml, hown, hts⟩ (r_X8_next l dC dI L kd tys fr_130 H.size g.2.2.2.1 q0_ mq0_ kq0_) (cwV 0 hts (gV_ t_1225 t_1103 t_1104 t_184 t_1105) rfl rfl rfl (by decide +kernel) ⟨(Nat.le_of_ble_eq_true rfl), (Nat.le_of_ble_eq_true rfl)⟩) (pre3V g hK mq0_ kq0_ (by decide) (q := (RX8, TX8, 10)) rfl) rfl rfl hl.1 rfl (lv_room (Nat.le_of_ble_eq_true rfl)) dX0_openCall_124 ⟨(Nat.le_of_ble_eq_true rfl), (Nat.le_of_ble_eq_true rfl)⟩) g hK (by decide) (by decide) (fx' := [(7, 18, q1_, .int y_124), (8, 8, q0_, .int x_120), (0, 11, a0_, .int x_2), (0, 0, a0_, .ref q0_), (0, 2, a0_, .ref q1_)]) rfl (fun fr_148 H locs hp hMr_148 g => ?_)
        obtain ⟨x_149, h_150, hF_151⟩ := hp
        have g := g.more hF_151
        refine lv_iload hx hb dX0_openCall_127 (lv_at hl 7 rfl) ?_
        refine lv_if_le (tgt := 143) hx hb dX0_openCall_129 (by decide) (fun c_152 => ?_) (fun c_152 => ?_)
        · have fc_152 := le_f c_152
          have b_153 : bd (-2147483648) 0 x4_ := leL fc_152 (bdT x4_) kb_0 (by decide)
          refine lv_aload_n hx hb dX0_openCall_143 rfl (lv_at hl 3 rfl) ?_
          refine g_getk (C := RX0) (T := TX0) (N := 14) hx hb hts (mc_ inX0) hown hK g rfl 2 (by decide) rfl (hts _ (List.mem_cons_of_mem _ t_375)) (fun _ h9 => h9) 5 rfl dX0_openCall_144 ?_
          refine lv_bipush (v := 13) hx hb dX0_openCall_147 (by decide) ?_
          refine lv_iconst (v := 0) hx hb dX0_openCall_149 (by decide) ?_
          refine g_callv (va_runV (As := [.int 13, .int 0]) (rest := []) ⟨hx, hb, hml, hown, hts⟩ (r_X7_emit l dC dI L kd tys fr_148 H.size g.2.2.2.1 q1_ mq1_ kq1_ 13 0) (cwV 2 hts (gV_ t_1203 t_1204 t_1205 t_191 t_1206) rfl rfl rfl (by decide +kernel) ⟨(Nat.le_of_ble_eq_true rfl), (Nat.le_of_ble_eq_true rfl)⟩) (pre3V g hK mq1_ kq1_ (by decide) (q := (RX7, TX7, 19)) rfl) rfl rfl hl.1 rfl (lv_room (Nat.le_of_ble_eq_true rfl)) dX0_openCall_150 ⟨(Nat.le_of_ble_eq_true rfl), (Nat.le_of_ble_eq_true rfl)⟩) g hK (by decide) (by decide) (fx' := [(8, 6, q0_, .int x_149), (7, 18, q1_, .int y_124), (8, 8, q0_, .int x_120), (0, 11, a0_, .int x_2), (0, 0, a0_, .ref q0_), (0, 2, a0_, .ref q1_)]) rfl (fun fr_154 H locs hp hMr_154 g => ?_)
          obtain ⟨x_155, h_156, hF_157⟩ := hp
          have g := g.more hF_157
          refine lv_aload_n hx hb dX0_openCall_153 rfl (lv_at hl 3 rfl) ?_
          refine g_getk (C := RX0) (T := TX0) (N := 14) hx hb hts (mc_ inX0) hown hK g rfl 2 (by decide) rfl (hts _ (List.mem_cons_of_mem _ t_375)) (fun _ h9 => h9) 6 rfl dX0_openCall_154 ?_
          refine lv_iload_n hx hb dX0_openCall_157 rfl (lv_at hl 4 rfl) ?_
          refine lv_iconst (v := 2) hx hb dX0_openCall_158 (by decide) ?_
          have kb_2 : bd 2 2 (2 : Int32) := ⟨by decide, by decide⟩
          refine lv_icmp_ne (tgt := 167) hx hb dX0_openCall_159 (by decide) (fun c_158 => ?_) (fun c_158 => ?_)
          · have fc_158 := neq_f c_158
            refine lv_bipush (v := 18) hx hb dX0_openCall_167 (by decide) ?_
            refine lv_iload_n hx hb dX0_openCall_169 rfl (lv_at hl 6 rfl) ?_
            refine g_callv (va_runV (As := [.int 18, .int x3_]) (rest := []) ⟨hx, hb, hml, hown, hts⟩ (r_X7_emit l dC dI L kd tys fr_154 H.size g.2.2.2.1 q1_ mq1_ kq1_ 18 x3_) (cwV 2 hts (gV_ t_1203 t_1204 t_1205 t_191 t_1206) rfl rfl rfl (by decide +kernel) ⟨(Nat.le_of_ble_eq_true rfl), (Nat.le_of_ble_eq_true rfl)⟩) (pre3V g hK mq1_ kq1_ (by decide) (q := (RX7, TX7, 19)) rfl) rfl rfl hl.1 rfl (lv_room (Nat.le_of_ble_eq_true rfl)) dX0_openCall_170 ⟨(Nat.le_of_ble_eq_true rfl), (Nat.le_of_ble_eq_true rfl)⟩) g hK (by decide) (by decide) (fx' := [(8, 6, q0_, .int x_149), (7, 18, q1_, .int y_124), (8, 8, q0_, .int x_120), (0, 11, a0_, .int x_2), (0, 0, a0_, .ref q0_), (0, 2, a0_, .ref q1_)]) rfl (fun fr_159 H locs hp hMr_159 g => ?_)
            obtain ⟨x_160, h_161, hF_162⟩ := hp
            have g := g.more hF_162
            refine lv_aload_n hx hb dX0_openCall_173 rfl (lv_at hl 3 rfl) ?_
            refine lv_iconst (v := 1) hx hb dX0_openCall_174 (by decide) ?_
            refine g_callv (va_runV (As := [.int 1]) (rest := []) ⟨hx, hb, hml, hown, hts⟩ (r_X0_addWhole l dC dI L kd tys fr_159 H.size g.2.2.2.1 a0_ ma0_ ka0_ 1) (cwV 1 hts (gV_ t_1211 t_1213 t_17 t_190 t_1214) rfl rfl rfl (by decide +kernel) ⟨(Nat.le_of_ble_eq_true rfl), (Nat.le_of_ble_eq_true rfl)⟩) (pre3V g hK ma0_ ka0_ (by decide) (q := (RX0, TX0, 14)) rfl) rfl rfl hl.1 rfl (lv_room (Nat.le_of_ble_eq_true rfl)) dX0_openCall_175 ⟨(Nat.le_of_ble_eq_true rfl), (Nat.le_of_ble_eq_true rfl)⟩) g hK (by decide) (by decide) (fx' := [(7, 6, q1_, .int x_160), (8, 6, q0_, .int x_149), (7, 18, q1_, .int y_124), (8, 8, q0_, .int x_120), (0, 11, a0_, .int x_2), (0, 0, a0_, .ref q0_), (0, 2, a0_, .ref q1_)]) rfl (fun fr_163 H locs hp hMr_163 g => ?_)
            obtain ⟨x_164, h_165, hF_166⟩ := hp
            have g := g.more hF_166
            subst hQ
            exact W.vret hx hb hr (fun t ht hW => ⟨⟨_, rfl, ⟨x_149, h_150, (g.fcts [3] rfl)⟩, q3_of g hK ht hW⟩, g.2.2.1.F ht⟩) g.2.2.1.2.2 dX0_openCall_178
          · have fc_158 := eq_f c_158
            have b_167 : bd 2 2 x1_ := eqX fc_158 (bdT x1_) kb_2 (by decide)
            refine lv_bipush (v := 17) hx hb dX0_openCall_162 (by decide) ?_
            refine lv_goto (tgt := 169) hx hb dX0_openCall_164 (by decide) ?_
            refine lv_iload_n hx hb dX0_openCall_169 rfl (lv_at hl 6 rfl) ?_
            refine g_callv (va_runV (As := [.int 17, .int x3_]) (rest := []) ⟨hx, hb, hml, hown, hts⟩ (r_X7_emit l dC dI L kd tys fr_154 H.size g.2.2.2.1 q1_ mq1_ kq1_ 17 x3_) (cwV 2 hts (gV_ t_1203 t_1204 t_1205 t_191 t_1206) rfl rfl rfl (by decide +kernel) ⟨(Nat.le_of_ble_eq_true rfl), (Nat.le_of_ble_eq_true rfl)⟩) (pre3V g hK mq1_ kq1_ (by decide) (q := (RX7, TX7, 19)) rfl) rfl rfl hl.1 rfl (lv_room (Nat.le_of_ble_eq_true rfl)) dX0_openCall_170 ⟨(Nat.le_of_ble_eq_true rfl), (Nat.le_of_ble_eq_true rfl)⟩) g hK (by decide) (by decide) (fx' := [(8, 6, q0_, .int x_149), (7, 18, q1_, .int y_124), (8, 8, q0_, .int x_120), (0, 11, a0_, .int x_2), (0, 0, a0_, .ref q0_), (0, 2, a0_, .ref q1_)]) rfl (fun fr_168 H locs hp hMr_168 g => ?_)
            obtain ⟨x_169, h_170, hF_171⟩ := hp
            have g := g.more hF_171
            refine lv_aload_n hx hb dX0_openCall_173 rfl (lv_at hl 3 rfl) ?_
            refine lv_iconst (v := 1) hx hb dX0_openCall_174 (by decide) ?_
            refine g_callv (va_runV (As := [.int 1]) (rest := []) ⟨hx, hb, hml, hown, hts⟩ (r_X0_addWhole l dC dI L kd tys fr_168 H.size g.2.2.2.1 a0_ ma0_ ka0_ 1) (cwV 1 hts (gV_ t_1211 t_1213 t_17 t_190 t_1214) rfl rfl rfl (by decide +kernel) ⟨(Nat.le_of_ble_eq_true rfl), (Nat.le_of_ble_eq_true rfl)⟩) (pre3V g hK ma0_ ka0_ (by decide) (q := (RX0, TX0, 14)) rfl) rfl rfl hl.1 rfl (lv_room (Nat.le_of_ble_eq_true rfl)) dX0_openCall_175 ⟨(Nat.le_of_ble_eq_true rfl), (Nat.le_of_ble_eq_true rfl)⟩) g hK (by decide) (by decide) (fx' := [(7, 6, q1_, .int x_169), (8, 6, q0_, .int x_149), (7, 18, q1_, .int y_124), (8, 8, q0_, .int x_120), (0, 11, a0_, .int x_2), (0, 0, a0_, .ref q0_), (0, 2, a0_, .ref q1_)]) rfl (fun fr_172 H locs hp hMr_172 g => ?_)
            obtain ⟨x_173, h_174, hF_175⟩ := hp
            have g := g.more hF_175
            subst hQ
            exact W.vret hx hb hr (fun t ht hW => ⟨⟨_, rfl, ⟨x_149, h_150, (g.fcts [3] rfl)⟩, q3_of g hK ht hW⟩, g.2.2.1.F ht⟩) g.2.2.1.2.2 dX0_openCall_178
        · have fc_152 := nle_f c_152
          have b_176 : bd 1 2147483647 x4_ := ltR fc_152 kb_0 (bdT x4_) (by decide)
          refine lv_aload_n hx hb dX0_openCall_132 rfl (lv_at hl 3 rfl) ?_
          refine g_getk (C := RX0) (T := TX0) (N := 14) hx hb hts (mc_ inX0) hown hK g rfl 0 (by decide) rfl (hts _ (List.mem_cons_of_mem _ t_373)) (fun _ h9 => h9) 4 rfl dX0_openCall_133 ?_
          refine lv_bipush (v := 6) hx hb dX0_openCall_136 (by decide) ?_
          refine lv_iload hx hb dX0_openCall_138 (lv_at hl 1 rfl) ?_
          have kb_6 : bd 6 6 (6 : Int32) := ⟨by decide, by decide⟩
          refine g_callv (va_runV (As := [.int 6, .int r_129]) (rest := []) ⟨hx, hb, hml, hown, hts⟩ (r_X8_fail_5 l dC dI L kd tys fr_148 H.size g.2.2.2.1 q0_ mq0_ kq0_ 6 kb_6 r_129 x_149 h_150 x_120 h_121 (g.fcts [0, 2] rfl)) (cwV 2 hts (gV_ t_1215 t_1107 t_1108 t_184 t_1109) rfl rfl rfl (by decide +kernel) ⟨(Nat.le_of_ble_eq_true rfl), (Nat.le_of_ble_eq_true rfl)⟩) (pre3V g hK mq0_ kq0_ (by decide) (q := (RX8, TX8, 10)) rfl) rfl rfl hl.1 rfl (lv_room (Nat.le_of_ble_eq_true rfl)) dX0_openCall_140 ⟨(Nat.le_of_ble_eq_true rfl), (Nat.le_of_ble_eq_true rfl)⟩) g hK (by decide) (by decide) (fx' := [(7, 18, q1_, .int y_124), (8, 8, q0_, .int x_120), (0, 11, a0_, .int x_2), (0, 0, a0_, .ref q0_), (0, 2, a0_, .ref q1_)]) rfl (fun fr_177 H locs hp hMr_177 g => ?_)
          have hF_178 := hp
          have g := g.more hF_178
          refine lv_aload_n hx hb dX0_openCall_143 rfl (lv_at hl 3 rfl) ?_
          refine g_getk (C := RX0) (T := TX0) (N := 14) hx hb hts (mc_ inX0) hown hK g rfl 2 (by decide) rfl (hts _ (List.mem_cons_of_mem _ t_375)) (fun _ h9 => h9) 5 rfl dX0_openCall_144 ?_
          refine lv_bipush (v := 13) hx hb dX0_openCall_147 (by decide) ?_
          refine lv_iconst (v := 0) hx hb dX0_openCall_149 (by decide) ?_
          refine g_callv (va_runV (As := [.int 13, .int 0]) (rest := []) ⟨hx, hb, hml, hown, hts⟩ (r_X7_emit l dC dI L kd tys fr_177 H.size g.2.2.2.1 q1_ mq1_ kq1_ 13 0) (cwV 2 hts (gV_ t_1203 t_1204 t_1205 t_191 t_1206) rfl rfl rfl (by decide +kernel) ⟨(Nat.le_of_ble_eq_true rfl), (Nat.le_of_ble_eq_true rfl)⟩) (pre3V g hK mq1_ kq1_ (by decide) (q := (RX7, TX7, 19)) rfl) rfl rfl hl.1 rfl (lv_room (Nat.le_of_ble_eq_true rfl)) dX0_openCall_150 ⟨(Nat.le_of_ble_eq_true rfl), (Nat.le_of_ble_eq_true rfl)⟩) g hK (by decide) (by decide) (fx' := [(8, 6, q0_, .int 1201), (7, 18, q1_, .int y_124), (8, 8, q0_, .int x_120), (0, 11, a0_, .int x_2), (0, 0, a0_, .ref q0_), (0, 2, a0_, .ref q1_)]) rfl (fun fr_179 H locs hp hMr_179 g => ?_)
          obtain ⟨x_180, h_181, hF_182⟩ := hp
          have g := g.more hF_182
          refine lv_aload_n hx hb dX0_openCall_153 rfl (lv_at hl 3 rfl) ?_
          refine g_getk (C := RX0) (T := TX0) (N := 14) hx hb hts (mc_ inX0) hown hK g rfl 2 (by decide) rfl (hts _ (List.mem_cons_of_mem _ t_375)) (fun _ h9 => h9) 6 rfl dX0_openCall_154 ?_
          refine lv_iload_n hx hb dX0_openCall_157 rfl (lv_at hl 4 rfl) ?_
          refine lv_iconst (v := 2) hx hb dX0_openCall_158 (by decide) ?_
          have kb_2 : bd 2 2 (2 : Int32) := ⟨by decide, by decide⟩
          refine lv_icmp_ne (tgt := 167) hx hb dX0_openCall_159 (by decide) (fun c_183 => ?_) (fun c_183 => ?_)
          · have fc_183 := neq_f c_183
            refine lv_bipush (v := 18) hx hb dX0_openCall_167 (by decide) ?_
            refine lv_iload_n hx hb dX0_openCall_169 rfl (lv_at hl 6 rfl) ?_
            refine g_callv (va_runV (As := [.int 18, .int x3_]) (rest := []) ⟨hx, hb, hml, hown, hts⟩ (r_X7_emit l dC dI L kd tys fr_179 H.size g.2.2.2.1 q1_ mq1_ kq1_ 18 x3_) (cwV 2 hts (gV_ t_1203 t_1204 t_1205 t_191 t_1206) rfl rfl rfl (by decide +kernel) ⟨(Nat.le_of_ble_eq_true rfl), (Nat.le_of_ble_eq_true rfl)⟩) (pre3V g hK mq1_ kq1_ (by decide) (q := (RX7, TX7, 19)) rfl) rfl rfl hl.1 rfl (lv_room (Nat.le_of_ble_eq_true rfl)) dX0_openCall_170 ⟨(Nat.le_of_ble_eq_true rfl), (Nat.le_of_ble_eq_true rfl)⟩) g hK (by decide) (by decide) (fx' := [(8, 6, q0_, .int 1201), (7, 18, q1_, .int y_124), (8, 8, q0_, .int x_120), (0, 11, a0_, .int x_2), (0, 0, a0_, .ref q0_), (0, 2, a0_, .ref q1_)]) rfl (fun fr_184 H locs hp hMr_184 g => ?_)
            obtain ⟨x_185, h_186, hF_187⟩ := hp
            have g := g.more hF_187
            refine lv_aload_n hx hb dX0_openCall_173 rfl (lv_at hl 3 rfl) ?_
            refine lv_iconst (v := 1) hx hb dX0_openCall_174 (by decide) ?_
            refine g_callv (va_runV (As := [.int 1]) (rest := []) ⟨hx, hb, hml, hown, hts⟩ (r_X0_addWhole l dC dI L kd tys fr_184 H.size g.2.2.2.1 a0_ ma0_ ka0_ 1) (cwV 1 hts (gV_ t_1211 t_1213 t_17 t_190 t_1214) rfl rfl rfl (by decide +kernel) ⟨(Nat.le_of_ble_eq_true rfl), (Nat.le_of_ble_eq_true rfl)⟩) (pre3V g hK ma0_ ka0_ (by decide) (q := (RX0, TX0, 14)) rfl) rfl rfl hl.1 rfl (lv_room (Nat.le_of_ble_eq_true rfl)) dX0_openCall_175 ⟨(Nat.le_of_ble_eq_true rfl), (Nat.le_of_ble_eq_true rfl)⟩) g hK (by decide) (by decide) (fx' := [(7, 6, q1_, .int x_185), (8, 6, q0_, .int 1201), (7, 18, q1_, .int y_124), (8, 8, q0_, .int x_120), (0, 11, a0_, .int x_2), (0, 0, a0_, .ref q0_), (0, 2, a0_, .ref q1_)]) rfl (fun fr_188 H locs hp hMr_188 g => ?_)
            obtain ⟨x_189, h_190, hF_191⟩ := hp
            have g := g.more hF_191
            have kb_1201 : bd 1201 1201 (1201 : Int32) := ⟨by decide, by decide⟩
            subst hQ
            exact W.vret hx hb hr (fun t ht hW => ⟨⟨_, rfl, ⟨1201, (bd_sub kb_1201 (by decide)), (g.fcts [3] rfl)⟩, q3_of g hK ht hW⟩, g.2.2.1.F ht⟩) g.2.2.1.2.2 dX0_openCall_178
          · have fc_183 := eq_f c_183
            have b_192 : bd 2 2 x1_ := eqX fc_183 (bdT x1_) kb_2 (by decide)
            refine lv_bipush (v := 17) hx hb dX0_openCall_162 (by decide) ?_
            refine lv_goto (tgt := 169) hx hb dX0_openCall_164 (by decide) ?_
            refine lv_iload_n hx hb dX0_openCall_169 rfl (lv_at hl 6 rfl) ?_
            refine g_callv (va_runV (As := [.int 17, .int x3_]) (rest := []) ⟨hx, hb, hml, hown, hts⟩ (r_X7_emit l dC dI L kd tys fr_179 H.size g.2.2.2.1 q1_ mq1_ kq1_ 17 x3_) (cwV 2 hts (gV_ t_1203 t_1204 t_1205 t_191 t_1206) rfl rfl rfl (by decide +kernel) ⟨(Nat.le_of_ble_eq_true rfl), (Nat.le_of_ble_eq_true rfl)⟩) (pre3V g hK mq1_ kq1_ (by decide) (q := (RX7, TX7, 19)) rfl) rfl rfl hl.1 rfl (lv_room (Nat.le_of_ble_eq_true rfl)) dX0_openCall_170 ⟨(Nat.le_of_ble_eq_true rfl), (Nat.le_of_ble_eq_true rfl)⟩) g hK (by decide) (by decide) (fx' := [(8, 6, q0_, .int 1201), (7, 18, q1_, .int y_124), (8, 8, q0_, .int x_120), (0, 11, a0_, .int x_2), (0, 0, a0_, .ref q0_), (0, 2, a0_, .ref q1_)]) rfl (fun fr_193 H locs hp hMr_193 g => ?_)
            obtain ⟨x_194, h_195, hF_196⟩ := hp
            have g := g.more hF_196
            refine lv_aload_n hx hb dX0_openCall_173 rfl (lv_at hl 3 rfl) ?_
            refine lv_iconst (v := 1) hx hb dX0_openCall_174 (by decide) ?_
            refine g_callv (va_runV (As := [.int 1]) (rest := []) ⟨hx, hb, hml, hown, hts⟩ (r_X0_addWhole l dC dI L kd tys fr_193 H.size g.2.2.2.1 a0_ ma0_ ka0_ 1) (cwV 1 hts (gV_ t_1211 t_1213 t_17 t_190 t_1214) rfl rfl rfl (by decide +kernel) ⟨(Nat.le_of_ble_eq_true rfl), (Nat.le_of_ble_eq_true rfl)⟩) (pre3V g hK ma0_ ka0_ (by decide) (q := (RX0, TX0, 14)) rfl) rfl rfl hl.1 rfl (lv_room (Nat.le_of_ble_eq_true rfl)) dX0_openCall_175 ⟨(Nat.le_of_ble_eq_true rfl), (Nat.le_of_ble_eq_true rfl)⟩) g hK (by decide) (by decide) (fx' := [(7, 6, q1_, .int x_194), (8, 6, q0_, .int 1201), (7, 18, q1_, .int y_124), (8, 8, q0_, .int x_120), (0, 11, a0_, .int x_2), (0, 0, a0_, .ref q0_), (0, 2, a0_, .ref q1_)]) rfl (fun fr_197 H locs hp hMr_197 g => ?_)
            obtain ⟨x_198, h_199, hF_200⟩ := hp
            have g := g.more hF_200
            have kb_1201 : bd 1201 1201 (1201 : Int32) := ⟨by decide, by decide⟩
            subst hQ
            exact W.vret hx hb hr (fun t ht hW => ⟨⟨_, rfl, ⟨1201, (bd_sub kb_1201 (by decide)), (g.fcts [3] rfl)⟩, q3_of g hK ht hW⟩, g.2.2.1.F ht⟩) g.2.2.1.2.2 dX0_openCall_178
      · have fc_147 := eq_f c_147
        have b_201 : bd 0 0 x4_ := eqX fc_147 (bdT x4_) kb_0 (by decide)
        refine lv_iload hx hb dX0_openCall_81 (lv_at hl 0 rfl) ?_
        refine lv_if_ne (tgt := 97) hx hb dX0_openCall_83 (by decide) (fun c_ => ?_) (fun c_ => absurd c_ (by decide))
        refine lv_iload hx hb dX0_openCall_97 (lv_at hl 0 rfl) ?_
        refine lv_if_ne (tgt := 120) hx hb dX0_openCall_99 (by decide) (fun c_ => ?_) (fun c_ => absurd c_ (by decide))
        refine lv_aload_n hx hb dX0_openCall_120 rfl (lv_at hl 3 rfl) ?_
        refine g_getk (C := RX0) (T := TX0) (N := 14) hx hb hts (mc_ inX0) hown hK g rfl 0 (by decide) rfl (hts _ (List.mem_cons_of_mem _ t_373)) (fun _ h9 => h9) 4 rfl dX0_openCall_121 ?_
        refine g_callv (va_runV (As := []) (rest := []) ⟨hx, hb, hml, hown, hts⟩ (r_X8_next l dC dI L kd tys fr_130 H.size g.2.2.2.1 q0_ mq0_ kq0_) (cwV 0 hts (gV_ t_1225 t_1103 t_1104 t_184 t_1105) rfl rfl rfl (by decide +kernel) ⟨(Nat.le_of_ble_eq_true rfl), (Nat.le_of_ble_eq_true rfl)⟩) (pre3V g hK mq0_ kq0_ (by decide) (q := (RX8, TX8, 10)) rfl) rfl rfl hl.1 rfl (lv_room (Nat.le_of_ble_eq_true rfl)) dX0_openCall_124 ⟨(Nat.le_of_ble_eq_true rfl), (Nat.le_of_ble_eq_true rfl)⟩) g hK (by decide) (by decide) (fx' := [(7, 18, q1_, .int y_124), (8, 8, q0_, .int x_120), (0, 11, a0_, .int x_2), (0, 0, a0_, .ref q0_), (0, 2, a0_, .ref q1_)]) rfl (fun fr_202 H locs hp hMr_202 g => ?_)
        obtain ⟨x_203, h_204, hF_205⟩ := hp
        have g := g.more hF_205
        refine lv_iload hx hb dX0_openCall_127 (lv_at hl 7 rfl) ?_
        refine lv_if_le (tgt := 143) hx hb dX0_openCall_129 (by decide) (fun c_206 => ?_) (fun c_206 => ?_)
        · have fc_206 := le_f c_206
          refine lv_aload_n hx hb dX0_openCall_143 rfl (lv_at hl 3 rfl) ?_
          refine g_getk (C := RX0) (T := TX0) (N := 14) hx hb hts (mc_ inX0) hown hK g rfl 2 (by decide) rfl (hts _ (List.mem_cons_of_mem _ t_375)) (fun _ h9 => h9) 5 rfl dX0_openCall_144 ?_
          refine lv_bipush (v := 13) hx hb dX0_openCall_147 (by decide) ?_
          refine lv_iconst (v := 0) hx hb dX0_openCall_149 (by decide) ?_
          refine g_callv (va_runV (As := [.int 13, .int 0]) (rest := []) ⟨hx, hb, hml, hown, hts⟩ (r_X7_emit l dC dI L kd tys fr_202 H.size g.2.2.2.1 q1_ mq1_ kq1_ 13 0) (cwV 2 hts (gV_ t_1203 t_1204 t_1205 t_191 t_1206) rfl rfl rfl (by decide +kernel) ⟨(Nat.le_of_ble_eq_true rfl), (Nat.le_of_ble_eq_true rfl)⟩) (pre3V g hK mq1_ kq1_ (by decide) (q := (RX7, TX7, 19)) rfl) rfl rfl hl.1 rfl (lv_room (Nat.le_of_ble_eq_true rfl)) dX0_openCall_150 ⟨(Nat.le_of_ble_eq_true rfl), (Nat.le_of_ble_eq_true rfl)⟩) g hK (by decide) (by decide) (fx' := [(8, 6, q0_, .int x_203), (7, 18, q1_, .int y_124), (8, 8, q0_, .int x_120), (0, 11, a0_, .int x_2), (0, 0, a0_, .ref q0_), (0, 2, a0_, .ref q1_)]) rfl (fun fr_207 H locs hp hMr_207 g => ?_)
          obtain ⟨x_208, h_209, hF_210⟩ := hp
          have g := g.more hF_210
          refine lv_aload_n hx hb dX0_openCall_153 rfl (lv_at hl 3 rfl) ?_
          refine g_getk (C := RX0) (T := TX0) (N := 14) hx hb hts (mc_ inX0) hown hK g rfl 2 (by decide) rfl (hts _ (List.mem_cons_of_mem _ t_375)) (fun _ h9 => h9) 6 rfl dX0_openCall_154 ?_
          refine lv_iload_n hx hb dX0_openCall_157 rfl (lv_at hl 4 rfl) ?_
          refine lv_iconst (v := 2) hx hb dX0_openCall_158 (by decide) ?_
          have kb_2 : bd 2 2 (2 : Int32) := ⟨by decide, by decide⟩
          refine lv_icmp_ne (tgt := 167) hx hb dX0_openCall_159 (by decide) (fun c_211 => ?_) (fun c_211 => ?_)
          · have fc_211 := neq_f c_211
            refine lv_bipush (v := 18) hx hb dX0_openCall_167 (by decide) ?_
            refine lv_iload_n hx hb dX0_openCall_169 rfl (lv_at hl 6 rfl) ?_
            refine g_callv (va_runV (As := [.int 18, .int x3_]) (rest := []) ⟨hx, hb, hml, hown, hts⟩ (r_X7_emit l dC dI L kd tys fr_207 H.size g.2.2.2.1 q1_ mq1_ kq1_ 18 x3_) (cwV 2 hts (gV_ t_1203 t_1204 t_1205 t_191 t_1206) rfl rfl rfl (by decide +kernel) ⟨(Nat.le_of_ble_eq_true rfl), (Nat.le_of_ble_eq_true rfl)⟩) (pre3V g hK mq1_ kq1_ (by decide) (q := (RX7, TX7, 19)) rfl) rfl rfl hl.1 rfl (lv_room (Nat.le_of_ble_eq_true rfl)) dX0_openCall_170 ⟨(Nat.le_of_ble_eq_true rfl), (Nat.le_of_ble_eq_true rfl)⟩) g hK (by decide) (by decide) (fx' := [(8, 6, q0_, .int x_203), (7, 18, q1_, .int y_124), (8, 8, q0_, .int x_120), (0, 11, a0_, .int x_2), (0, 0, a0_, .ref q0_), (0, 2, a0_, .ref q1_)]) rfl (fun fr_212 H locs hp hMr_212 g => ?_)
            obtain ⟨x_213, h_214, hF_215⟩ := hp
            have g := g.more hF_215
            refine lv_aload_n hx hb dX0_openCall_173 rfl (lv_at hl 3 rfl) ?_
            refine lv_iconst (v := 1) hx hb dX0_openCall_174 (by decide) ?_
            refine g_callv (va_runV (As := [.int 1]) (rest := []) ⟨hx, hb, hml, hown, hts⟩ (r_X0_addWhole l dC dI L kd tys fr_212 H.size g.2.2.2.1 a0_ ma0_ ka0_ 1) (cwV 1 hts (gV_ t_1211 t_1213 t_17 t_190 t_1214) rfl rfl rfl (by decide +kernel) ⟨(Nat.le_of_ble_eq_true rfl), (Nat.le_of_ble_eq_true rfl)⟩) (pre3V g hK ma0_ ka0_ (by decide) (q := (RX0, TX0, 14)) rfl) rfl rfl hl.1 rfl (lv_room (Nat.le_of_ble_eq_true rfl)) dX0_openCall_175 ⟨(Nat.le_of_ble_eq_true rfl), (Nat.le_of_ble_eq_true rfl)⟩) g hK (by decide) (by decide) (fx' := [(7, 6, q1_, .int x_213), (8, 6, q0_, .int x_203), (7, 18, q1_, .int y_124), (8, 8, q0_, .int x_120), (0, 11, a0_, .int x_2), (0, 0, a0_, .ref q0_), (0, 2, a0_, .ref q1_)]) rfl (fun fr_216 H locs hp hMr_216 g => ?_)
            obtain ⟨x_217, h_218, hF_219⟩ := hp
            have g := g.more hF_219
            subst hQ
            exact W.vret hx hb hr (fun t ht hW => ⟨⟨_, rfl, ⟨x_203, h_204, (g.fcts [3] rfl)⟩, q3_of g hK ht hW⟩, g.2.2.1.F ht⟩) g.2.2.1.2.2 dX0_openCall_178
          · have fc_211 := eq_f c_211
            have b_220 : bd 2 2 x1_ := eqX fc_211 (bdT x1_) kb_2 (by decide)
            refine lv_bipush (v := 17) hx hb dX0_openCall_162 (by decide) ?_
            refine lv_goto (tgt := 169) hx hb dX0_openCall_164 (by decide) ?_
            refine lv_iload_n hx hb dX0_openCall_169 rfl (lv_at hl 6 rfl) ?_
            refine g_callv (va_runV (As := [.int 17, .int x3_]) (rest := []) ⟨hx, hb, hml, hown, hts⟩ (r_X7_emit l dC dI L kd tys fr_207 H.size g.2.2.2.1 q1_ mq1_ kq1_ 17 x3_) (cwV 2 hts (gV_ t_1203 t_1204 t_1205 t_191 t_1206) rfl rfl rfl (by decide +kernel) ⟨(Nat.le_of_ble_eq_true rfl), (Nat.le_of_ble_eq_true rfl)⟩) (pre3V g hK mq1_ kq1_ (by decide) (q := (RX7, TX7, 19)) rfl) rfl rfl hl.1 rfl (lv_room (Nat.le_of_ble_eq_true rfl)) dX0_openCall_170 ⟨(Nat.le_of_ble_eq_true rfl), (Nat.le_of_ble_eq_true rfl)⟩) g hK (by decide) (by decide) (fx' := [(8, 6, q0_, .int x_203), (7, 18, q1_, .int y_124), (8, 8, q0_, .int x_120), (0, 11, a0_, .int x_2), (0, 0, a0_, .ref q0_), (0, 2, a0_, .ref q1_)]) rfl (fun fr_221 H locs hp hMr_221 g => ?_)
            obtain ⟨x_222, h_223, hF_224⟩ := hp
            have g := g.more hF_224
            refine lv_aload_n hx hb dX0_openCall_173 rfl (lv_at hl 3 rfl) ?_
            refine lv_iconst (v := 1) hx hb dX0_openCall_174 (by decide) ?_
            refine g_callv (va_runV (As := [.int 1]) (rest := []) ⟨hx, hb, hml, hown, hts⟩ (r_X0_addWhole l dC dI L kd tys fr_221 H.size g.2.2.2.1 a0_ ma0_ ka0_ 1) (cwV 1 hts (gV_ t_1211 t_1213 t_17 t_190 t_1214) rfl rfl rfl (by decide +kernel) ⟨(Nat.le_of_ble_eq_true rfl), (Nat.le_of_ble_eq_true rfl)⟩) (pre3V g hK ma0_ ka0_ (by decide) (q := (RX0, TX0, 14)) rfl) rfl rfl hl.1 rfl (lv_room (Nat.le_of_ble_eq_true rfl)) dX0_openCall_175 ⟨(Nat.le_of_ble_eq_true rfl), (Nat.le_of_ble_eq_true rfl)⟩) g hK (by decide) (by decide) (fx' := [(7, 6, q1_, .int x_222), (8, 6, q0_, .int x_203), (7, 18, q1_, .int y_124), (8, 8, q0_, .int x_120), (0, 11, a0_, .int x_2), (0, 0, a0_, .ref q0_), (0, 2, a0_, .ref q1_)]) rfl (fun fr_225 H locs hp hMr_225 g => ?_)
            obtain ⟨x_226, h_227, hF_228⟩ := hp
            have g := g.more hF_228
            subst hQ
            exact W.vret hx hb hr (fun t ht hW => ⟨⟨_, rfl, ⟨x_203, h_204, (g.fcts [3] rfl)⟩, q3_of g hK ht hW⟩, g.2.2.1.F ht⟩) g.2.2.1.2.2 dX0_openCall_178
        · have fc_206 := nle_f c_206
          have b_229 : bd 0 (-1) (0 : Int32) := ltL fc_206 kb_0 b_201 (by decide)
          exact bd_no (eqX rfl b_229 kb_0 (lo := 0) (hi := (-1)) (by decide)) (by decide)
