set_option maxHeartbeats 4000000 in
set_option maxRecDepth 100000 in
theorem r_X0_openCall_4 (l : Launch) (dC : Nat → ClassId) (dI : Nat → Nat → Nat) (L : List Nat) (kd : Nat → Nat) (tys : List (ClassId × FieldType)) (f0 : Nat → va_E) (sz : Nat) (hWT : WT L kd tys f0) (a0_ : Nat) (ma0_ : a0_ ∈ L) (ka0_ : kd a0_ = 0) (x1_ : Int32) (bx1_ : bd 3 3 x1_) (x2_ : Int32) (x3_ : Int32) (bx3_ : bd 0 95 x3_) (x4_ : Int32) (q0_ : Nat) (mq0_ : q0_ ∈ L) (kq0_ : kd q0_ = 8) (q1_ : Nat) (mq1_ : q1_ ∈ L) (kq1_ : kd q1_ = 7) (y0_ : Int32) (by0_ : bd 0 0 y0_) (hGea0_ : eOK f0 a0_) (hfx : Fs L kd f0 [(0, 0, a0_, .ref q0_), (0, 2, a0_, .ref q1_), (8, 8, q0_, .int y0_)]) : Met l yX0_openCall (.code yX0_openCall cX0_openCall 8 none :: lw_g) ({ frames := 1, cells := 0, slots := 0, locals := 23 }) (va_Pc [.ref a0_, .int x1_, .int x2_, .int x3_, .int x4_] (P3 (dC, dI) L tys f0 sz)) (va_Qv (fun (f : Nat → va_E) => (eOK f a0_ ∧ ∃ z0_ : Int32, bd (-2147483648) 40 z0_ ∧ ∃ z1_ : Int32, bd 1 1201 z1_ ∧ Fs L kd f [(0, 11, a0_, .int z0_), (8, 6, q0_, .int z1_), (8, 8, q0_, .int y0_)]) ∨ (eOK f a0_ ∧ ∃ z1_ : Int32, bd 1 7 z1_ ∧ Fs L kd f [(8, 6, q0_, .int 1201), (8, 8, q0_, .int z1_)])) (Q3 (dC, dI) L kd tys [(0, 8), (0, 10), (0, 11), (0, 12), (7, 6), (7, 18), (8, 6), (8, 8), (8, 9)] [110, 111, 112, 113, 114, 115, 138, 139] f0 sz) (pA L sz)) 0 0 (pA L sz) := by
  refine Met.ofW (cc := cX0_openCall) (maxL := 8) (ret := none) (by decide) rfl ?_
  intro p e s m args below meth c s₁ B hml hv
  obtain ⟨rfl, hsz, hP, hK, hD0⟩ := hv
  have hx := B.exec
  have hb := B.bytes
  have hr := B.returns
  have hts := atoms_spec (ws := (.code yX0_openCall cX0_openCall 8 none :: lw_g)) B.pre
  have hown : s.vm.findClass RX0 = some m.cls := findClass_of_methodNamed B.named
  have hlocks := B.notSynchronized
  subst hsz
  have g : G3 (dC, dI) L kd tys s f0 [(0, 8), (0, 10), (0, 11), (0, 12), (7, 6), (7, 18), (8, 6), (8, 8), (8, 9)] [110, 111, 112, 113, 114, 115, 138, 139] f0 s.heap [] [(0, 0, a0_, .ref q0_), (0, 2, a0_, .ref q1_), (8, 8, q0_, .int y0_)] := G3.start hP hD0 hWT hfx
  have hl := lv_entry ([.ref a0_, .int x1_, .int x2_, .int x3_, .int x4_]) (n := 8) (Nat.le_of_ble_eq_true rfl)
  rw [lg_entry_eq]
  generalize (lg_sl ([.ref a0_, .int x1_, .int x2_, .int x3_, .int x4_]) ++ List.replicate (8 - (lg_sl ([.ref a0_, .int x1_, .int x2_, .int x3_, .int x4_])).length) Slot.unset).toArray = ls at hl ⊢
  have hl : lv_has ls 8 [(0, .ref a0_), (1, .int x1_), (2, .int x2_), (3, .int x3_), (4, .int x4_)] := hl
  refine W_q (fun Q hQ => ?_)
  refine lv_aload_n hx hb dX0_openCall_0 rfl (lv_at hl 0 rfl) ?_
  refine g_getk (C := RX0) (T := TX0) (N := 14) hx hb hts (mc_ inX0) hown hK g rfl 0 (by decide) rfl (hts _ (List.mem_cons_of_mem _ t_373)) (fun _ h9 => h9) 0 rfl dX0_openCall_1 ?_
  have go_ := g
  refine g_calli (va_runV (As := []) (rest := []) ⟨hx, hb, hml, hown, hts⟩ (r_X8_place l dC dI L kd tys f0 s.heap.size g.2.2.2.1 q0_ mq0_ kq0_) (cwV 0 hts (gV_ t_1220 t_1111 t_1112 t_184 t_1113) rfl rfl rfl (by decide +kernel) ⟨(Nat.le_of_ble_eq_true rfl), (Nat.le_of_ble_eq_true rfl)⟩) (pre3V g hK mq0_ kq0_ (by decide) (q := (RX8, TX8, 10)) rfl) rfl rfl hl.1 rfl (lv_room (Nat.le_of_ble_eq_true rfl)) dX0_openCall_4 ⟨(Nat.le_of_ble_eq_true rfl), (Nat.le_of_ble_eq_true rfl)⟩) g hK (by decide) (by decide) (fx' := [(0, 0, a0_, .ref q0_), (0, 2, a0_, .ref q1_), (8, 8, q0_, .int y0_)]) rfl (fun r_1 fr_1 H locs hp hMr_1 g => ?_)
  have hG_2 := eOK.frame hMr_1 go_.2.2.2.1 ma0_ ka0_ (by decide) (by decide) hGea0_
  refine lv_istore (lv' := [(5, .int r_1), (0, .ref a0_), (1, .int x1_), (2, .int x2_), (3, .int x3_), (4, .int x4_)]) hx hb dX0_openCall_7 hl (by decide) rfl (fun ls hl => ?_)
  refine lv_aload_n hx hb dX0_openCall_9 rfl (lv_at hl 1 rfl) ?_
  refine g_geti (C := RX0) (T := TX0) (N := 14) hx hb hts (mc_ inX0) hown hK g ma0_ ka0_ (by decide) rfl 11 (by decide) rfl (hts _ (List.mem_cons_of_mem _ t_384)) (fun _ h9 => h9) rfl dX0_openCall_10 (fun x_3 bx_3 g => ?_)
  refine lv_bipush (v := 40) hx hb dX0_openCall_13 (by decide) ?_
  have kb_40 : bd 40 40 (40 : Int32) := ⟨by decide, by decide⟩
  refine lv_icmp_lt (tgt := 28) hx hb dX0_openCall_15 (by decide) (fun c_4 => ?_) (fun c_4 => ?_)
  · have fc_4 := lt_f c_4
    have b_5 : bd (-2147483648) 39 x_3 := ltL fc_4 (bdT x_3) kb_40 (by decide)
    refine lv_aload_n hx hb dX0_openCall_28 rfl (lv_at hl 1 rfl) ?_
    refine g_getk (C := RX0) (T := TX0) (N := 14) hx hb hts (mc_ inX0) hown hK g rfl 2 (by decide) rfl (hts _ (List.mem_cons_of_mem _ t_375)) (fun _ h9 => h9) 2 rfl dX0_openCall_29 ?_
    refine lv_dup hx hb dX0_openCall_32 rfl ?_
    refine g_geti (C := RX7) (T := TX7) (N := 19) hx hb hts (mc_ inX7) hown hK g mq1_ kq1_ (by decide) rfl 18 (by decide) rfl (hts _ (List.mem_cons_of_mem _ t_681)) (fun _ h9 => h9) rfl dX0_openCall_33 (fun x_6 bx_6 g => ?_)
    refine lv_iconst (v := 1) hx hb dX0_openCall_36 (by decide) ?_
    have kb_1 : bd 1 1 (1 : Int32) := ⟨by decide, by decide⟩
    refine lv_iadd hx hb dX0_openCall_37 ?_
    refine lv_topi (fun y_7 ey_7 => ?_)
    have go_ := g
    refine g_put (C := RX7) (T := TX7) (N := 19) hx hb hts (mc_ inX7) tyX7 tyX7_ok nmX7 hown hK g mq1_ kq1_ (by decide) rfl 18 (by decide) (hts _ (List.mem_cons_of_mem _ t_681)) (fun _ h9 => h9) rfl rfl (okV_i (bdT y_7)) rfl rfl (by decide) (Or.inr (Or.inl (by decide))) (fx' := [(0, 11, a0_, .int x_3), (0, 0, a0_, .ref q0_), (0, 2, a0_, .ref q1_), (8, 8, q0_, .int y0_)]) rfl dX0_openCall_38 (fun f H locs hM_8 g => ?_)
    have hG_9 := eOK.frame hM_8 go_.2.2.2.1 ma0_ ka0_ (by decide) (by decide) hG_2
    refine lv_aload_n hx hb dX0_openCall_41 rfl (lv_at hl 1 rfl) ?_
    refine g_getk (C := RX0) (T := TX0) (N := 14) hx hb hts (mc_ inX0) hown hK g rfl 0 (by decide) rfl (hts _ (List.mem_cons_of_mem _ t_373)) (fun _ h9 => h9) 2 rfl dX0_openCall_42 ?_
    have go_ := g
    refine g_callv (va_runV (As := []) (rest := []) ⟨hx, hb, hml, hown, hts⟩ (r_X8_next l dC dI L kd tys f H.size g.2.2.2.1 q0_ mq0_ kq0_) (cwV 0 hts (gV_ t_1225 t_1103 t_1104 t_184 t_1105) rfl rfl rfl (by decide +kernel) ⟨(Nat.le_of_ble_eq_true rfl), (Nat.le_of_ble_eq_true rfl)⟩) (pre3V g hK mq0_ kq0_ (by decide) (q := (RX8, TX8, 10)) rfl) rfl rfl hl.1 rfl (lv_room (Nat.le_of_ble_eq_true rfl)) dX0_openCall_45 ⟨(Nat.le_of_ble_eq_true rfl), (Nat.le_of_ble_eq_true rfl)⟩) g hK (by decide) (by decide) (fx' := [(7, 18, q1_, .int y_7), (0, 11, a0_, .int x_3), (0, 0, a0_, .ref q0_), (0, 2, a0_, .ref q1_), (8, 8, q0_, .int y0_)]) rfl (fun fr_10 H locs hp hMr_10 g => ?_)
    obtain ⟨x_11, h_12, hF_13⟩ := hp
    have hG_14 := eOK.frame hMr_10 go_.2.2.2.1 ma0_ ka0_ (by decide) (by decide) hG_9
    have g := g.more hF_13
    refine lv_aload_n hx hb dX0_openCall_48 rfl (lv_at hl 1 rfl) ?_
    refine g_getk (C := RX0) (T := TX0) (N := 14) hx hb hts (mc_ inX0) hown hK g rfl 0 (by decide) rfl (hts _ (List.mem_cons_of_mem _ t_373)) (fun _ h9 => h9) 3 rfl dX0_openCall_49 ?_
    have go_ := g
    refine g_calli (va_runV (As := []) (rest := []) ⟨hx, hb, hml, hown, hts⟩ (r_X8_place l dC dI L kd tys fr_10 H.size g.2.2.2.1 q0_ mq0_ kq0_) (cwV 0 hts (gV_ t_1220 t_1111 t_1112 t_184 t_1113) rfl rfl rfl (by decide +kernel) ⟨(Nat.le_of_ble_eq_true rfl), (Nat.le_of_ble_eq_true rfl)⟩) (pre3V g hK mq0_ kq0_ (by decide) (q := (RX8, TX8, 10)) rfl) rfl rfl hl.1 rfl (lv_room (Nat.le_of_ble_eq_true rfl)) dX0_openCall_52 ⟨(Nat.le_of_ble_eq_true rfl), (Nat.le_of_ble_eq_true rfl)⟩) g hK (by decide) (by decide) (fx' := [(8, 6, q0_, .int x_11), (7, 18, q1_, .int y_7), (0, 11, a0_, .int x_3), (0, 0, a0_, .ref q0_), (0, 2, a0_, .ref q1_), (8, 8, q0_, .int y0_)]) rfl (fun r_15 fr_15 H locs hp hMr_15 g => ?_)
    have hG_16 := eOK.frame hMr_15 go_.2.2.2.1 ma0_ ka0_ (by decide) (by decide) hG_14
    refine lv_istore (lv' := [(6, .int r_15), (5, .int r_1), (0, .ref a0_), (1, .int x1_), (2, .int x2_), (3, .int x3_), (4, .int x4_)]) hx hb dX0_openCall_55 hl (by decide) rfl (fun ls hl => ?_)
    refine lv_aload_n hx hb dX0_openCall_57 rfl (lv_at hl 2 rfl) ?_
    refine g_getk (C := RX0) (T := TX0) (N := 14) hx hb hts (mc_ inX0) hown hK g rfl 0 (by decide) rfl (hts _ (List.mem_cons_of_mem _ t_373)) (fun _ h9 => h9) 3 rfl dX0_openCall_58 ?_
    have go_ := g
    refine g_calli (va_runV (As := []) (rest := []) ⟨hx, hb, hml, hown, hts⟩ (r_X8_kind l dC dI L kd tys fr_15 H.size g.2.2.2.1 q0_ mq0_ kq0_) (cwV 0 hts (gV_ t_1186 t_1119 t_1120 t_184 t_1121) rfl rfl rfl (by decide +kernel) ⟨(Nat.le_of_ble_eq_true rfl), (Nat.le_of_ble_eq_true rfl)⟩) (pre3V g hK mq0_ kq0_ (by decide) (q := (RX8, TX8, 10)) rfl) rfl rfl hl.1 rfl (lv_room (Nat.le_of_ble_eq_true rfl)) dX0_openCall_61 ⟨(Nat.le_of_ble_eq_true rfl), (Nat.le_of_ble_eq_true rfl)⟩) g hK (by decide) (by decide) (fx' := [(8, 6, q0_, .int x_11), (7, 18, q1_, .int y_7), (0, 11, a0_, .int x_3), (0, 0, a0_, .ref q0_), (0, 2, a0_, .ref q1_), (8, 8, q0_, .int y0_)]) rfl (fun r_17 fr_17 H locs hp hMr_17 g => ?_)
    have hG_18 := eOK.frame hMr_17 go_.2.2.2.1 ma0_ ka0_ (by decide) (by decide) hG_16
    refine lv_bipush (v := 41) hx hb dX0_openCall_64 (by decide) ?_
    have kb_41 : bd 41 41 (41 : Int32) := ⟨by decide, by decide⟩
    refine lv_icmp_ne (tgt := 73) hx hb dX0_openCall_66 (by decide) (fun c_19 => ?_) (fun c_19 => ?_)
    · have fc_19 := neq_f c_19
      refine lv_iconst (v := 0) hx hb dX0_openCall_73 (by decide) ?_
      refine lv_istore (lv' := [(7, .int 0), (6, .int r_15), (5, .int r_1), (0, .ref a0_), (1, .int x1_), (2, .int x2_), (3, .int x3_), (4, .int x4_)]) hx hb dX0_openCall_74 hl (by decide) rfl (fun ls hl => ?_)
      refine lv_iload hx hb dX0_openCall_76 (lv_at hl 7 rfl) ?_
      have kb_0 : bd 0 0 (0 : Int32) := ⟨by decide, by decide⟩
      refine lv_if_ne (tgt := 97) hx hb dX0_openCall_78 (by decide) (fun c_20 => ?_) (fun c_20 => ?_)
      · have fc_20 := neq_f c_20
        refine lv_iload hx hb dX0_openCall_97 (lv_at hl 0 rfl) ?_
        refine lv_if_ne (tgt := 120) hx hb dX0_openCall_99 (by decide) (fun c_ => absurd c_ (by decide)) (fun c_ => ?_)
        refine lv_aload_n hx hb dX0_openCall_102 rfl (lv_at hl 3 rfl) ?_
        refine lv_iload_n hx hb dX0_openCall_103 rfl (lv_at hl 4 rfl) ?_
        refine lv_iload_n hx hb dX0_openCall_104 rfl (lv_at hl 5 rfl) ?_
        refine lv_iload_n hx hb dX0_openCall_105 rfl (lv_at hl 6 rfl) ?_
        obtain ⟨a_21, ma_21, ka_21, g⟩ := g_factr (K := 110) g ma0_ ka0_ (by decide) 3 rfl
        obtain ⟨a_22, ma_22, ka_22, g⟩ := g_factr (K := 112) g ma0_ ka0_ (by decide) 5 rfl
        have go_ := g
        refine g_callv (va_runV (As := [.int x1_, .int x2_, .int x3_]) (rest := []) ⟨hx, hb, hml, hown, hts⟩ (r_X0_push_2 l dC dI L kd tys fr_17 H.size g.2.2.2.1 a0_ ma0_ ka0_ x1_ x2_ x3_ a_21 ma_21 ka_21 a_22 ma_22 ka_22 hG_18 (erel_bd bx1_ bx3_ (by decide)) (g.fcts [1, 0] rfl)) (cwV 3 hts (gV_ t_1221 t_1223 t_19 t_190 t_1224) rfl rfl rfl (by decide +kernel) ⟨(Nat.le_of_ble_eq_true rfl), (Nat.le_of_ble_eq_true rfl)⟩) (pre3V g hK ma0_ ka0_ (by decide) (q := (RX0, TX0, 14)) rfl) rfl rfl hl.1 rfl (lv_room (Nat.le_of_ble_eq_true rfl)) dX0_openCall_106 ⟨(Nat.le_of_ble_eq_true rfl), (Nat.le_of_ble_eq_true rfl)⟩) g hK (by decide) (by decide) (fx' := [(0, 5, a0_, .ref a_22), (0, 3, a0_, .ref a_21), (8, 6, q0_, .int x_11), (7, 18, q1_, .int y_7), (0, 11, a0_, .int x_3), (0, 0, a0_, .ref q0_), (0, 2, a0_, .ref q1_), (8, 8, q0_, .int y0_)]) rfl (fun fr_23 H locs hp hMr_23 g => ?_)
        obtain ⟨hG_24, x_25, h_26, hF_27⟩ := hp
        have g := g.more hF_27
        refine lv_aload_n hx hb dX0_openCall_109 rfl (lv_at hl 3 rfl) ?_
        refine lv_dup hx hb dX0_openCall_110 rfl ?_
        refine g_getk (C := RX0) (T := TX0) (N := 14) hx hb hts (mc_ inX0) hown hK g rfl 11 (by decide) rfl (hts _ (List.mem_cons_of_mem _ t_384)) (fun _ h9 => h9) 5 rfl dX0_openCall_111 ?_
        refine lv_iconst (v := 1) hx hb dX0_openCall_114 (by decide) ?_
        refine lv_iadd hx hb dX0_openCall_115 ?_
        refine lv_topi (fun y_28 ey_28 => ?_)
        have ty_28 := add_bd ey_28 b_5 kb_1 (by decide)
        have b_29 : bd (-2147483647) 40 y_28 := add_rg ty_28 b_5 kb_1 (by decide)
        have go_ := g
        refine g_put (C := RX0) (T := TX0) (N := 14) hx hb hts (mc_ inX0) tyX0 tyX0_ok nmX0 hown hK g ma0_ ka0_ (by decide) rfl 11 (by decide) (hts _ (List.mem_cons_of_mem _ t_384)) (fun _ h9 => h9) rfl rfl (okV_i (bd_sub b_29 (by decide))) rfl rfl (by decide) (Or.inr (Or.inl (by decide))) (fx' := [(0, 8, a0_, .int x_25), (0, 5, a0_, .ref a_22), (0, 3, a0_, .ref a_21), (8, 6, q0_, .int x_11), (7, 18, q1_, .int y_7), (0, 0, a0_, .ref q0_), (0, 2, a0_, .ref q1_), (8, 8, q0_, .int y0_)]) rfl dX0_openCall_116 (fun f H locs hM_30 g => ?_)
        have hG_31 := eOK.frame hM_30 go_.2.2.2.1 ma0_ ka0_ (by decide) (by decide) hG_24
        subst hQ
        exact W.vret hx hb hr (fun t ht hW => ⟨⟨_, rfl, Or.inl ⟨hG_31, y_28, (bd_sub b_29 (by decide)), x_11, h_12, (g.fcts [0, 4, 8] rfl)⟩, q3_of g hK ht hW⟩, g.2.2.1.F ht⟩) g.2.2.1.2.2 dX0_openCall_119
      · have fc_20 := eq_f c_20
        have b_32 : bd 0 0 x4_ := eqX fc_20 (bdT x4_) kb_0 (by decide)
        refine lv_iload hx hb dX0_openCall_81 (lv_at hl 0 rfl) ?_
        refine lv_if_ne (tgt := 97) hx hb dX0_openCall_83 (by decide) (fun c_ => absurd c_ (by decide)) (fun c_ => ?_)
        refine lv_aload_n hx hb dX0_openCall_86 rfl (lv_at hl 3 rfl) ?_
        refine g_getk (C := RX0) (T := TX0) (N := 14) hx hb hts (mc_ inX0) hown hK g rfl 0 (by decide) rfl (hts _ (List.mem_cons_of_mem _ t_373)) (fun _ h9 => h9) 3 rfl dX0_openCall_87 ?_
        refine lv_bipush (v := 6) hx hb dX0_openCall_90 (by decide) ?_
        refine lv_iload hx hb dX0_openCall_92 (lv_at hl 2 rfl) ?_
        have kb_6 : bd 6 6 (6 : Int32) := ⟨by decide, by decide⟩
        have go_ := g
        refine g_callv (va_runV (As := [.int 6, .int r_1]) (rest := []) ⟨hx, hb, hml, hown, hts⟩ (r_X8_fail l dC dI L kd tys fr_17 H.size g.2.2.2.1 q0_ mq0_ kq0_ 6 (bd_sub kb_6 (by decide)) r_1 y0_ by0_ (g.fcts [5] rfl)) (cwV 2 hts (gV_ t_1215 t_1107 t_1108 t_184 t_1109) rfl rfl rfl (by decide +kernel) ⟨(Nat.le_of_ble_eq_true rfl), (Nat.le_of_ble_eq_true rfl)⟩) (pre3V g hK mq0_ kq0_ (by decide) (q := (RX8, TX8, 10)) rfl) rfl rfl hl.1 rfl (lv_room (Nat.le_of_ble_eq_true rfl)) dX0_openCall_94 ⟨(Nat.le_of_ble_eq_true rfl), (Nat.le_of_ble_eq_true rfl)⟩) g hK (by decide) (by decide) (fx' := [(7, 18, q1_, .int y_7), (0, 11, a0_, .int x_3), (0, 0, a0_, .ref q0_), (0, 2, a0_, .ref q1_)]) rfl (fun fr_33 H locs hp hMr_33 g => ?_)
        obtain ⟨x_34, h_35, hF_36⟩ := hp
        have hG_37 := eOK.frame hMr_33 go_.2.2.2.1 ma0_ ka0_ (by decide) (by decide) hG_18
        have g := g.more hF_36
        refine lv_iload hx hb dX0_openCall_97 (lv_at hl 0 rfl) ?_
        refine lv_if_ne (tgt := 120) hx hb dX0_openCall_99 (by decide) (fun c_ => absurd c_ (by decide)) (fun c_ => ?_)
        refine lv_aload_n hx hb dX0_openCall_102 rfl (lv_at hl 3 rfl) ?_
        refine lv_iload_n hx hb dX0_openCall_103 rfl (lv_at hl 4 rfl) ?_
        refine lv_iload_n hx hb dX0_openCall_104 rfl (lv_at hl 5 rfl) ?_
        refine lv_iload_n hx hb dX0_openCall_105 rfl (lv_at hl 6 rfl) ?_
        obtain ⟨a_38, ma_38, ka_38, g⟩ := g_factr (K := 110) g ma0_ ka0_ (by decide) 3 rfl
        obtain ⟨a_39, ma_39, ka_39, g⟩ := g_factr (K := 112) g ma0_ ka0_ (by decide) 5 rfl
        have go_ := g
        refine g_callv (va_runV (As := [.int x1_, .int x2_, .int x3_]) (rest := []) ⟨hx, hb, hml, hown, hts⟩ (r_X0_push_2 l dC dI L kd tys fr_33 H.size g.2.2.2.1 a0_ ma0_ ka0_ x1_ x2_ x3_ a_38 ma_38 ka_38 a_39 ma_39 ka_39 hG_37 (erel_bd bx1_ bx3_ (by decide)) (g.fcts [1, 0] rfl)) (cwV 3 hts (gV_ t_1221 t_1223 t_19 t_190 t_1224) rfl rfl rfl (by decide +kernel) ⟨(Nat.le_of_ble_eq_true rfl), (Nat.le_of_ble_eq_true rfl)⟩) (pre3V g hK ma0_ ka0_ (by decide) (q := (RX0, TX0, 14)) rfl) rfl rfl hl.1 rfl (lv_room (Nat.le_of_ble_eq_true rfl)) dX0_openCall_106 ⟨(Nat.le_of_ble_eq_true rfl), (Nat.le_of_ble_eq_true rfl)⟩) g hK (by decide) (by decide) (fx' := [(0, 5, a0_, .ref a_39), (0, 3, a0_, .ref a_38), (8, 6, q0_, .int 1201), (8, 8, q0_, .int x_34), (7, 18, q1_, .int y_7), (0, 11, a0_, .int x_3), (0, 0, a0_, .ref q0_), (0, 2, a0_, .ref q1_)]) rfl (fun fr_40 H locs hp hMr_40 g => ?_)
        obtain ⟨hG_41, x_42, h_43, hF_44⟩ := hp
        have g := g.more hF_44
        refine lv_aload_n hx hb dX0_openCall_109 rfl (lv_at hl 3 rfl) ?_
        refine lv_dup hx hb dX0_openCall_110 rfl ?_
        refine g_getk (C := RX0) (T := TX0) (N := 14) hx hb hts (mc_ inX0) hown hK g rfl 11 (by decide) rfl (hts _ (List.mem_cons_of_mem _ t_384)) (fun _ h9 => h9) 6 rfl dX0_openCall_111 ?_
        refine lv_iconst (v := 1) hx hb dX0_openCall_114 (by decide) ?_
        refine lv_iadd hx hb dX0_openCall_115 ?_
        refine lv_topi (fun y_45 ey_45 => ?_)
        have ty_45 := add_bd ey_45 b_5 kb_1 (by decide)
        have b_46 : bd (-2147483647) 40 y_45 := add_rg ty_45 b_5 kb_1 (by decide)
        have go_ := g
        refine g_put (C := RX0) (T := TX0) (N := 14) hx hb hts (mc_ inX0) tyX0 tyX0_ok nmX0 hown hK g ma0_ ka0_ (by decide) rfl 11 (by decide) (hts _ (List.mem_cons_of_mem _ t_384)) (fun _ h9 => h9) rfl rfl (okV_i (bd_sub b_46 (by decide))) rfl rfl (by decide) (Or.inr (Or.inl (by decide))) (fx' := [(0, 8, a0_, .int x_42), (0, 5, a0_, .ref a_39), (0, 3, a0_, .ref a_38), (8, 6, q0_, .int 1201), (8, 8, q0_, .int x_34), (7, 18, q1_, .int y_7), (0, 0, a0_, .ref q0_), (0, 2, a0_, .ref q1_)]) rfl dX0_openCall_116 (fun f H locs hM_47 g => ?_)
        have hG_48 := eOK.frame hM_47 go_.2.2.2.1 ma0_ ka0_ (by decide) (by decide) hG_41
        subst hQ
        exact W.vret hx hb hr (fun t ht hW => ⟨⟨_, rfl, Or.inr (⟨hG_48, x_34, h_35, (g.fcts [4, 5] rfl)⟩), q3_of g hK ht hW⟩, g.2.2.1.F ht⟩) g.2.2.1.2.2 dX0_openCall_119
    · have fc_19 := eq_f c_19
      have b_49 : bd 41 41 r_17 := eqX fc_19 (bdT r_17) kb_41 (by decide)
      refine lv_iconst (v := 1) hx hb dX0_openCall_69 (by decide) ?_
      refine lv_goto (tgt := 74) hx hb dX0_openCall_70 (by decide) ?_
      refine lv_istore (lv' := [(7, .int 1), (6, .int r_15), (5, .int r_1), (0, .ref a0_), (1, .int x1_), (2, .int x2_), (3, .int x3_), (4, .int x4_)]) hx hb dX0_openCall_74 hl (by decide) rfl (fun ls hl => ?_)
      refine lv_iload hx hb dX0_openCall_76 (lv_at hl 7 rfl) ?_
      have kb_0 : bd 0 0 (0 : Int32) := ⟨by decide, by decide⟩
      refine lv_if_ne (tgt := 97) hx hb dX0_openCall_78 (by decide) (fun c_50 => ?_) (fun c_50 => ?_)
      · have fc_50 := neq_f c_50
        refine lv_iload hx hb dX0_openCall_97 (lv_at hl 0 rfl) ?_
        refine lv_if_ne (tgt := 120) hx hb dX0_openCall_99 (by decide) (fun c_ => ?_) (fun c_ => absurd c_ (by decide))
        refine lv_aload_n hx hb dX0_openCall_120 rfl (lv_at hl 3 rfl) ?_
        refine g_getk (C := RX0) (T := TX0) (N := 14) hx hb hts (mc_ inX0) hown hK g rfl 0 (by decide) rfl (hts _ (List.mem_cons_of_mem _ t_373)) (fun _ h9 => h9) 3 rfl dX0_openCall_121 ?_
        have go_ := g
        refine g_callv (va_runV (As := []) (rest := []) ⟨hx, hb, hml, hown, hts⟩ (r_X8_next l dC dI L kd tys fr_17 H.size g.2.2.2.1 q0_ mq0_ kq0_) (cwV 0 hts (gV_ t_1225 t_1103 t_1104 t_184 t_1105) rfl rfl rfl (by decide +kernel) ⟨(Nat.le_of_ble_eq_true rfl), (Nat.le_of_ble_eq_true rfl)⟩) (pre3V g hK mq0_ kq0_ (by decide) (q := (RX8, TX8, 10)) rfl) rfl rfl hl.1 rfl (lv_room (Nat.le_of_ble_eq_true rfl)) dX0_openCall_124 ⟨(Nat.le_of_ble_eq_true rfl), (Nat.le_of_ble_eq_true rfl)⟩) g hK (by decide) (by decide) (fx' := [(7, 18, q1_, .int y_7), (0, 11, a0_, .int x_3), (0, 0, a0_, .ref q0_), (0, 2, a0_, .ref q1_), (8, 8, q0_, .int y0_)]) rfl (fun fr_51 H locs hp hMr_51 g => ?_)
        obtain ⟨x_52, h_53, hF_54⟩ := hp
        have hG_55 := eOK.frame hMr_51 go_.2.2.2.1 ma0_ ka0_ (by decide) (by decide) hG_18
        have g := g.more hF_54
        refine lv_iload hx hb dX0_openCall_127 (lv_at hl 7 rfl) ?_
        refine lv_if_le (tgt := 143) hx hb dX0_openCall_129 (by decide) (fun c_56 => ?_) (fun c_56 => ?_)
        · have fc_56 := le_f c_56
          have b_57 : bd (-2147483648) 0 x4_ := leL fc_56 (bdT x4_) kb_0 (by decide)
          refine lv_aload_n hx hb dX0_openCall_143 rfl (lv_at hl 3 rfl) ?_
          refine g_getk (C := RX0) (T := TX0) (N := 14) hx hb hts (mc_ inX0) hown hK g rfl 2 (by decide) rfl (hts _ (List.mem_cons_of_mem _ t_375)) (fun _ h9 => h9) 4 rfl dX0_openCall_144 ?_
          refine lv_bipush (v := 13) hx hb dX0_openCall_147 (by decide) ?_
          refine lv_iconst (v := 0) hx hb dX0_openCall_149 (by decide) ?_
          have go_ := g
          refine g_callv (va_runV (As := [.int 13, .int 0]) (rest := []) ⟨hx, hb, hml, hown, hts⟩ (r_X7_emit l dC dI L kd tys fr_51 H.size g.2.2.2.1 q1_ mq1_ kq1_ 13 0) (cwV 2 hts (gV_ t_1203 t_1204 t_1205 t_191 t_1206) rfl rfl rfl (by decide +kernel) ⟨(Nat.le_of_ble_eq_true rfl), (Nat.le_of_ble_eq_true rfl)⟩) (pre3V g hK mq1_ kq1_ (by decide) (q := (RX7, TX7, 19)) rfl) rfl rfl hl.1 rfl (lv_room (Nat.le_of_ble_eq_true rfl)) dX0_openCall_150 ⟨(Nat.le_of_ble_eq_true rfl), (Nat.le_of_ble_eq_true rfl)⟩) g hK (by decide) (by decide) (fx' := [(8, 6, q0_, .int x_52), (7, 18, q1_, .int y_7), (0, 11, a0_, .int x_3), (0, 0, a0_, .ref q0_), (0, 2, a0_, .ref q1_), (8, 8, q0_, .int y0_)]) rfl (fun fr_58 H locs hp hMr_58 g => ?_)
          obtain ⟨x_59, h_60, hF_61⟩ := hp
          have hG_62 := eOK.frame hMr_58 go_.2.2.2.1 ma0_ ka0_ (by decide) (by decide) hG_55
          have g := g.more hF_61
          refine lv_aload_n hx hb dX0_openCall_153 rfl (lv_at hl 3 rfl) ?_
          refine g_getk (C := RX0) (T := TX0) (N := 14) hx hb hts (mc_ inX0) hown hK g rfl 2 (by decide) rfl (hts _ (List.mem_cons_of_mem _ t_375)) (fun _ h9 => h9) 5 rfl dX0_openCall_154 ?_
          refine lv_iload_n hx hb dX0_openCall_157 rfl (lv_at hl 4 rfl) ?_
          refine lv_iconst (v := 2) hx hb dX0_openCall_158 (by decide) ?_
          have kb_2 : bd 2 2 (2 : Int32) := ⟨by decide, by decide⟩
          refine lv_icmp_ne (tgt := 167) hx hb dX0_openCall_159 (by decide) (fun c_63 => ?_) (fun c_63 => ?_)
          · have fc_63 := neq_f c_63
            refine lv_bipush (v := 18) hx hb dX0_openCall_167 (by decide) ?_
            refine lv_iload_n hx hb dX0_openCall_169 rfl (lv_at hl 6 rfl) ?_
            have go_ := g
            refine g_callv (va_runV (As := [.int 18, .int x3_]) (rest := []) ⟨hx, hb, hml, hown, hts⟩ (r_X7_emit l dC dI L kd tys fr_58 H.size g.2.2.2.1 q1_ mq1_ kq1_ 18 x3_) (cwV 2 hts (gV_ t_1203 t_1204 t_1205 t_191 t_1206) rfl rfl rfl (by decide +kernel) ⟨(Nat.le_of_ble_eq_true rfl), (Nat.le_of_ble_eq_true rfl)⟩) (pre3V g hK mq1_ kq1_ (by decide) (q := (RX7, TX7, 19)) rfl) rfl rfl hl.1 rfl (lv_room (Nat.le_of_ble_eq_true rfl)) dX0_openCall_170 ⟨(Nat.le_of_ble_eq_true rfl), (Nat.le_of_ble_eq_true rfl)⟩) g hK (by decide) (by decide) (fx' := [(8, 6, q0_, .int x_52), (7, 18, q1_, .int y_7), (0, 11, a0_, .int x_3), (0, 0, a0_, .ref q0_), (0, 2, a0_, .ref q1_), (8, 8, q0_, .int y0_)]) rfl (fun fr_64 H locs hp hMr_64 g => ?_)
            obtain ⟨x_65, h_66, hF_67⟩ := hp
            have hG_68 := eOK.frame hMr_64 go_.2.2.2.1 ma0_ ka0_ (by decide) (by decide) hG_62
            have g := g.more hF_67
            refine lv_aload_n hx hb dX0_openCall_173 rfl (lv_at hl 3 rfl) ?_
            refine lv_iconst (v := 1) hx hb dX0_openCall_174 (by decide) ?_
            have go_ := g
            refine g_callv (va_runV (As := [.int 1]) (rest := []) ⟨hx, hb, hml, hown, hts⟩ (r_X0_addWhole l dC dI L kd tys fr_64 H.size g.2.2.2.1 a0_ ma0_ ka0_ 1) (cwV 1 hts (gV_ t_1211 t_1213 t_17 t_190 t_1214) rfl rfl rfl (by decide +kernel) ⟨(Nat.le_of_ble_eq_true rfl), (Nat.le_of_ble_eq_true rfl)⟩) (pre3V g hK ma0_ ka0_ (by decide) (q := (RX0, TX0, 14)) rfl) rfl rfl hl.1 rfl (lv_room (Nat.le_of_ble_eq_true rfl)) dX0_openCall_175 ⟨(Nat.le_of_ble_eq_true rfl), (Nat.le_of_ble_eq_true rfl)⟩) g hK (by decide) (by decide) (fx' := [(7, 6, q1_, .int x_65), (8, 6, q0_, .int x_52), (7, 18, q1_, .int y_7), (0, 11, a0_, .int x_3), (0, 0, a0_, .ref q0_), (0, 2, a0_, .ref q1_), (8, 8, q0_, .int y0_)]) rfl (fun fr_69 H locs hp hMr_69 g => ?_)
            obtain ⟨x_70, h_71, hF_72⟩ := hp
            have hG_73 := eOK.frame hMr_69 go_.2.2.2.1 ma0_ ka0_ (by decide) (by decide) hG_68
            have g := g.more hF_72
            subst hQ
            exact W.vret hx hb hr (fun t ht hW => ⟨⟨_, rfl, Or.inl ⟨hG_73, x_3, (bd_sub b_5 (by decide)), x_52, h_53, (g.fcts [5, 3, 8] rfl)⟩, q3_of g hK ht hW⟩, g.2.2.1.F ht⟩) g.2.2.1.2.2 dX0_openCall_178
          · have fc_63 := eq_f c_63
            have b_74 : bd 3 2 x1_ := eqX fc_63 bx1_ kb_2 (by decide)
            exact bd_no b_74 (by decide)
        · have fc_56 := nle_f c_56
          have b_75 : bd 1 2147483647 x4_ := ltR fc_56 kb_0 (bdT x4_) (by decide)
          refine lv_aload_n hx hb dX0_openCall_132 rfl (lv_at hl 3 rfl) ?_
          refine g_getk (C := RX0) (T := TX0) (N := 14) hx hb hts (mc_ inX0) hown hK g rfl 0 (by decide) rfl (hts _ (List.mem_cons_of_mem _ t_373)) (fun _ h9 => h9) 3 rfl dX0_openCall_133 ?_
          refine lv_bipush (v := 6) hx hb dX0_openCall_136 (by decide) ?_
          refine lv_iload hx hb dX0_openCall_138 (lv_at hl 1 rfl) ?_
          have kb_6 : bd 6 6 (6 : Int32) := ⟨by decide, by decide⟩
          have go_ := g
          refine g_callv (va_runV (As := [.int 6, .int r_15]) (rest := []) ⟨hx, hb, hml, hown, hts⟩ (r_X8_fail l dC dI L kd tys fr_51 H.size g.2.2.2.1 q0_ mq0_ kq0_ 6 (bd_sub kb_6 (by decide)) r_15 y0_ by0_ (g.fcts [5] rfl)) (cwV 2 hts (gV_ t_1215 t_1107 t_1108 t_184 t_1109) rfl rfl rfl (by decide +kernel) ⟨(Nat.le_of_ble_eq_true rfl), (Nat.le_of_ble_eq_true rfl)⟩) (pre3V g hK mq0_ kq0_ (by decide) (q := (RX8, TX8, 10)) rfl) rfl rfl hl.1 rfl (lv_room (Nat.le_of_ble_eq_true rfl)) dX0_openCall_140 ⟨(Nat.le_of_ble_eq_true rfl), (Nat.le_of_ble_eq_true rfl)⟩) g hK (by decide) (by decide) (fx' := [(7, 18, q1_, .int y_7), (0, 11, a0_, .int x_3), (0, 0, a0_, .ref q0_), (0, 2, a0_, .ref q1_)]) rfl (fun fr_76 H locs hp hMr_76 g => ?_)
          obtain ⟨x_77, h_78, hF_79⟩ := hp
          have hG_80 := eOK.frame hMr_76 go_.2.2.2.1 ma0_ ka0_ (by decide) (by decide) hG_55
          have g := g.more hF_79
          refine lv_aload_n hx hb dX0_openCall_143 rfl (lv_at hl 3 rfl) ?_
          refine g_getk (C := RX0) (T := TX0) (N := 14) hx hb hts (mc_ inX0) hown hK g rfl 2 (by decide) rfl (hts _ (List.mem_cons_of_mem _ t_375)) (fun _ h9 => h9) 5 rfl dX0_openCall_144 ?_
          refine lv_bipush (v := 13) hx hb dX0_openCall_147 (by decide) ?_
          refine lv_iconst (v := 0) hx hb dX0_openCall_149 (by decide) ?_
          have go_ := g
          refine g_callv (va_runV (As := [.int 13, .int 0]) (rest := []) ⟨hx, hb, hml, hown, hts⟩ (r_X7_emit l dC dI L kd tys fr_76 H.size g.2.2.2.1 q1_ mq1_ kq1_ 13 0) (cwV 2 hts (gV_ t_1203 t_1204 t_1205 t_191 t_1206) rfl rfl rfl (by decide +kernel) ⟨(Nat.le_of_ble_eq_true rfl), (Nat.le_of_ble_eq_true rfl)⟩) (pre3V g hK mq1_ kq1_ (by decide) (q := (RX7, TX7, 19)) rfl) rfl rfl hl.1 rfl (lv_room (Nat.le_of_ble_eq_true rfl)) dX0_openCall_150 ⟨(Nat.le_of_ble_eq_true rfl), (Nat.le_of_ble_eq_true rfl)⟩) g hK (by decide) (by decide) (fx' := [(8, 6, q0_, .int 1201), (8, 8, q0_, .int x_77), (7, 18, q1_, .int y_7), (0, 11, a0_, .int x_3), (0, 0, a0_, .ref q0_), (0, 2, a0_, .ref q1_)]) rfl (fun fr_81 H locs hp hMr_81 g => ?_)
          obtain ⟨x_82, h_83, hF_84⟩ := hp
          have hG_85 := eOK.frame hMr_81 go_.2.2.2.1 ma0_ ka0_ (by decide) (by decide) hG_80
          have g := g.more hF_84
          refine lv_aload_n hx hb dX0_openCall_153 rfl (lv_at hl 3 rfl) ?_
          refine g_getk (C := RX0) (T := TX0) (N := 14) hx hb hts (mc_ inX0) hown hK g rfl 2 (by decide) rfl (hts _ (List.mem_cons_of_mem _ t_375)) (fun _ h9 => h9) 6 rfl dX0_openCall_154 ?_
          refine lv_iload_n hx hb dX0_openCall_157 rfl (lv_at hl 4 rfl) ?_
          refine lv_iconst (v := 2) hx hb dX0_openCall_158 (by decide) ?_
          have kb_2 : bd 2 2 (2 : Int32) := ⟨by decide, by decide⟩
          refine lv_icmp_ne (tgt := 167) hx hb dX0_openCall_159 (by decide) (fun c_86 => ?_) (fun c_86 => ?_)
          · have fc_86 := neq_f c_86
            refine lv_bipush (v := 18) hx hb dX0_openCall_167 (by decide) ?_
            refine lv_iload_n hx hb dX0_openCall_169 rfl (lv_at hl 6 rfl) ?_
            have go_ := g
            refine g_callv (va_runV (As := [.int 18, .int x3_]) (rest := []) ⟨hx, hb, hml, hown, hts⟩ (r_X7_emit l dC dI L kd tys fr_81 H.size g.2.2.2.1 q1_ mq1_ kq1_ 18 x3_) (cwV 2 hts (gV_ t_1203 t_1204 t_1205 t_191 t_1206) rfl rfl rfl (by decide +kernel) ⟨(Nat.le_of_ble_eq_true rfl), (Nat.le_of_ble_eq_true rfl)⟩) (pre3V g hK mq1_ kq1_ (by decide) (q := (RX7, TX7, 19)) rfl) rfl rfl hl.1 rfl (lv_room (Nat.le_of_ble_eq_true rfl)) dX0_openCall_170 ⟨(Nat.le_of_ble_eq_true rfl), (Nat.le_of_ble_eq_true rfl)⟩) g hK (by decide) (by decide) (fx' := [(8, 6, q0_, .int 1201), (8, 8, q0_, .int x_77), (7, 18, q1_, .int y_7), (0, 11, a0_, .int x_3), (0, 0, a0_, .ref q0_), (0, 2, a0_, .ref q1_)]) rfl (fun fr_87 H locs hp hMr_87 g => ?_)
            obtain ⟨x_88, h_89, hF_90⟩ := hp
            have hG_91 := eOK.frame hMr_87 go_.2.2.2.1 ma0_ ka0_ (by decide) (by decide) hG_85
            have g := g.more hF_90
            refine lv_aload_n hx hb dX0_openCall_173 rfl (lv_at hl 3 rfl) ?_
            refine lv_iconst (v := 1) hx hb dX0_openCall_174 (by decide) ?_
            have go_ := g
            refine g_callv (va_runV (As := [.int 1]) (rest := []) ⟨hx, hb, hml, hown, hts⟩ (r_X0_addWhole l dC dI L kd tys fr_87 H.size g.2.2.2.1 a0_ ma0_ ka0_ 1) (cwV 1 hts (gV_ t_1211 t_1213 t_17 t_190 t_1214) rfl rfl rfl (by decide +kernel) ⟨(Nat.le_of_ble_eq_true rfl), (Nat.le_of_ble_eq_true rfl)⟩) (pre3V g hK ma0_ ka0_ (by decide) (q := (RX0, TX0, 14)) rfl) rfl rfl hl.1 rfl (lv_room (Nat.le_of_ble_eq_true rfl)) dX0_openCall_175 ⟨(Nat.le_of_ble_eq_true rfl), (Nat.le_of_ble_eq_true rfl)⟩) g hK (by decide) (by decide) (fx' := [(7, 6, q1_, .int x_88), (8, 6, q0_, .int 1201), (8, 8, q0_, .int x_77), (7, 18, q1_, .int y_7), (0, 11, a0_, .int x_3), (0, 0, a0_, .ref q0_), (0, 2, a0_, .ref q1_)]) rfl (fun fr_92 H locs hp hMr_92 g => ?_)
            obtain ⟨x_93, h_94, hF_95⟩ := hp
            have hG_96 := eOK.frame hMr_92 go_.2.2.2.1 ma0_ ka0_ (by decide) (by decide) hG_91
            have g := g.more hF_95
            subst hQ
            exact W.vret hx hb hr (fun t ht hW => ⟨⟨_, rfl, Or.inr (⟨hG_96, x_77, h_78, (g.fcts [3, 4] rfl)⟩), q3_of g hK ht hW⟩, g.2.2.1.F ht⟩) g.2.2.1.2.2 dX0_openCall_178
          · have fc_86 := eq_f c_86
            have b_97 : bd 3 2 x1_ := eqX fc_86 bx1_ kb_2 (by decide)
            exact bd_no b_97 (by decide)
      · have fc_50 := eq_f c_50
        have b_98 : bd 0 0 x4_ := eqX fc_50 (bdT x4_) kb_0 (by decide)
        refine lv_iload hx hb dX0_openCall_81 (lv_at hl 0 rfl) ?_
        refine lv_if_ne (tgt := 97) hx hb dX0_openCall_83 (by decide) (fun c_ => ?_) (fun c_ => absurd c_ (by decide))
        refine lv_iload hx hb dX0_openCall_97 (lv_at hl 0 rfl) ?_
        refine lv_if_ne (tgt := 120) hx hb dX0_openCall_99 (by decide) (fun c_ => ?_) (fun c_ => absurd c_ (by decide))
        refine lv_aload_n hx hb dX0_openCall_120 rfl (lv_at hl 3 rfl) ?_
        refine g_getk (C := RX0) (T := TX0) (N := 14) hx hb hts (mc_ inX0) hown hK g rfl 0 (by decide) rfl (hts _ (List.mem_cons_of_mem _ t_373)) (fun _ h9 => h9) 3 rfl dX0_openCall_121 ?_
        have go_ := g
        refine g_callv (va_runV (As := []) (rest := []) ⟨hx, hb, hml, hown, hts⟩ (r_X8_next l dC dI L kd tys fr_17 H.size g.2.2.2.1 q0_ mq0_ kq0_) (cwV 0 hts (gV_ t_1225 t_1103 t_1104 t_184 t_1105) rfl rfl rfl (by decide +kernel) ⟨(Nat.le_of_ble_eq_true rfl), (Nat.le_of_ble_eq_true rfl)⟩) (pre3V g hK mq0_ kq0_ (by decide) (q := (RX8, TX8, 10)) rfl) rfl rfl hl.1 rfl (lv_room (Nat.le_of_ble_eq_true rfl)) dX0_openCall_124 ⟨(Nat.le_of_ble_eq_true rfl), (Nat.le_of_ble_eq_true rfl)⟩) g hK (by decide) (by decide) (fx' := [(7, 18, q1_, .int y_7), (0, 11, a0_, .int x_3), (0, 0, a0_, .ref q0_), (0, 2, a0_, .ref q1_), (8, 8, q0_, .int y0_)]) rfl (fun fr_99 H locs hp hMr_99 g => ?_)
        obtain ⟨x_100, h_101, hF_102⟩ := hp
        have hG_103 := eOK.frame hMr_99 go_.2.2.2.1 ma0_ ka0_ (by decide) (by decide) hG_18
        have g := g.more hF_102
        refine lv_iload hx hb dX0_openCall_127 (lv_at hl 7 rfl) ?_
        refine lv_if_le (tgt := 143) hx hb dX0_openCall_129 (by decide) (fun c_104 => ?_) (fun c_104 => ?_)
        · have fc_104 := le_f c_104
          refine lv_aload_n hx hb dX0_openCall_143 rfl (lv_at hl 3 rfl) ?_
          refine g_getk (C := RX0) (T := TX0) (N := 14) hx hb hts (mc_ inX0) hown hK g rfl 2 (by decide) rfl (hts _ (List.mem_cons_of_mem _ t_375)) (fun _ h9 => h9) 4 rfl dX0_openCall_144 ?_
          refine lv_bipush (v := 13) hx hb dX0_openCall_147 (by decide) ?_
          refine lv_iconst (v := 0) hx hb dX0_openCall_149 (by decide) ?_
          have go_ := g
          refine g_callv (va_runV (As := [.int 13, .int 0]) (rest := []) ⟨hx, hb, hml, hown, hts⟩ (r_X7_emit l dC dI L kd tys fr_99 H.size g.2.2.2.1 q1_ mq1_ kq1_ 13 0) (cwV 2 hts (gV_ t_1203 t_1204 t_1205 t_191 t_1206) rfl rfl rfl (by decide +kernel) ⟨(Nat.le_of_ble_eq_true rfl), (Nat.le_of_ble_eq_true rfl)⟩) (pre3V g hK mq1_ kq1_ (by decide) (q := (RX7, TX7, 19)) rfl) rfl rfl hl.1 rfl (lv_room (Nat.le_of_ble_eq_true rfl)) dX0_openCall_150 ⟨(Nat.le_of_ble_eq_true rfl), (Nat.le_of_ble_eq_true rfl)⟩) g hK (by decide) (by decide) (fx' := [(8, 6, q0_, .int x_100), (7, 18, q1_, .int y_7), (0, 11, a0_, .int x_3), (0, 0, a0_, .ref q0_), (0, 2, a0_, .ref q1_), (8, 8, q0_, .int y0_)]) rfl (fun fr_105 H locs hp hMr_105 g => ?_)
          obtain ⟨x_106, h_107, hF_108⟩ := hp
          have hG_109 := eOK.frame hMr_105 go_.2.2.2.1 ma0_ ka0_ (by decide) (by decide) hG_103
          have g := g.more hF_108
          refine lv_aload_n hx hb dX0_openCall_153 rfl (lv_at hl 3 rfl) ?_
          refine g_getk (C := RX0) (T := TX0) (N := 14) hx hb hts (mc_ inX0) hown hK g rfl 2 (by decide) rfl (hts _ (List.mem_cons_of_mem _ t_375)) (fun _ h9 => h9) 5 rfl dX0_openCall_154 ?_
          refine lv_iload_n hx hb dX0_openCall_157 rfl (lv_at hl 4 rfl) ?_
          refine lv_iconst (v := 2) hx hb dX0_openCall_158 (by decide) ?_
          have kb_2 : bd 2 2 (2 : Int32) := ⟨by decide, by decide⟩
          refine lv_icmp_ne (tgt := 167) hx hb dX0_openCall_159 (by decide) (fun c_110 => ?_) (fun c_110 => ?_)
          · have fc_110 := neq_f c_110
            refine lv_bipush (v := 18) hx hb dX0_openCall_167 (by decide) ?_
            refine lv_iload_n hx hb dX0_openCall_169 rfl (lv_at hl 6 rfl) ?_
            have go_ := g
            refine g_callv (va_runV (As := [.int 18, .int x3_]) (rest := []) ⟨hx, hb, hml, hown, hts⟩ (r_X7_emit l dC dI L kd tys fr_105 H.size g.2.2.2.1 q1_ mq1_ kq1_ 18 x3_) (cwV 2 hts (gV_ t_1203 t_1204 t_1205 t_191 t_1206) rfl rfl rfl (by decide +kernel) ⟨(Nat.le_of_ble_eq_true rfl), (Nat.le_of_ble_eq_true rfl)⟩) (pre3V g hK mq1_ kq1_ (by decide) (q := (RX7, TX7, 19)) rfl) rfl rfl hl.1 rfl (lv_room (Nat.le_of_ble_eq_true rfl)) dX0_openCall_170 ⟨(Nat.le_of_ble_eq_true rfl), (Nat.le_of_ble_eq_true rfl)⟩) g hK (by decide) (by decide) (fx' := [(8, 6, q0_, .int x_100), (7, 18, q1_, .int y_7), (0, 11, a0_, .int x_3), (0, 0, a0_, .ref q0_), (0, 2, a0_, .ref q1_), (8, 8, q0_, .int y0_)]) rfl (fun fr_111 H locs hp hMr_111 g => ?_)
            obtain ⟨x_112, h_113, hF_114⟩ := hp
            have hG_115 := eOK.frame hMr_111 go_.2.2.2.1 ma0_ ka0_ (by decide) (by decide) hG_109
            have g := g.more hF_114
            refine lv_aload_n hx hb dX0_openCall_173 rfl (lv_at hl 3 rfl) ?_
            refine lv_iconst (v := 1) hx hb dX0_openCall_174 (by decide) ?_
            have go_ := g
            refine g_callv (va_runV (As := [.int 1]) (rest := []) ⟨hx, hb, hml, hown, hts⟩ (r_X0_addWhole l dC dI L kd tys fr_111 H.size g.2.2.2.1 a0_ ma0_ ka0_ 1) (cwV 1 hts (gV_ t_1211 t_1213 t_17 t_190 t_1214) rfl rfl rfl (by decide +kernel) ⟨(Nat.le_of_ble_eq_true rfl), (Nat.le_of_ble_eq_true rfl)⟩) (pre3V g hK ma0_ ka0_ (by decide) (q := (RX0, TX0, 14)) rfl) rfl rfl hl.1 rfl (lv_room (Nat.le_of_ble_eq_true rfl)) dX0_openCall_175 ⟨(Nat.le_of_ble_eq_true rfl), (Nat.le_of_ble_eq_true rfl)⟩) g hK (by decide) (by decide) (fx' := [(7, 6, q1_, .int x_112), (8, 6, q0_, .int x_100), (7, 18, q1_, .int y_7), (0, 11, a0_, .int x_3), (0, 0, a0_, .ref q0_), (0, 2, a0_, .ref q1_), (8, 8, q0_, .int y0_)]) rfl (fun fr_116 H locs hp hMr_116 g => ?_)
            obtain ⟨x_117, h_118, hF_119⟩ := hp
            have hG_120 := eOK.frame hMr_116 go_.2.2.2.1 ma0_ ka0_ (by decide) (by decide) hG_115
            have g := g.more hF_119
            subst hQ
            exact W.vret hx hb hr (fun t ht hW => ⟨⟨_, rfl, Or.inl ⟨hG_120, x_3, (bd_sub b_5 (by decide)), x_100, h_101, (g.fcts [5, 3, 8] rfl)⟩, q3_of g hK ht hW⟩, g.2.2.1.F ht⟩) g.2.2.1.2.2 dX0_openCall_178
          · have fc_110 := eq_f c_110
            have b_121 : bd 3 2 x1_ := eqX fc_110 bx1_ kb_2 (by decide)
            exact bd_no b_121 (by decide)
        · have fc_104 := nle_f c_104
          have b_122 : bd 0 (-1) (0 : Int32) := ltL fc_104 kb_0 b_98 (by decide)
          exact bd_no (eqX rfl b_122 kb_0 (lo := 0) (hi := (-1)) (by decide)) (by decide)
  · have fc_4 := nlt_f c_4
    have b_123 : bd 40 2147483647 x_3 := leR fc_4 kb_40 (bdT x_3) (by decide)
    refine lv_aload_n hx hb dX0_openCall_18 rfl (lv_at hl 1 rfl) ?_
    refine g_getk (C := RX0) (T := TX0) (N := 14) hx hb hts (mc_ inX0) hown hK g rfl 0 (by decide) rfl (hts _ (List.mem_cons_of_mem _ t_373)) (fun _ h9 => h9) 1 rfl dX0_openCall_19 ?_
    refine lv_iconst (v := 4) hx hb dX0_openCall_22 (by decide) ?_
    refine lv_iload hx hb dX0_openCall_23 (lv_at hl 0 rfl) ?_
    have kb_4 : bd 4 4 (4 : Int32) := ⟨by decide, by decide⟩
    have go_ := g
    refine g_callv (va_runV (As := [.int 4, .int r_1]) (rest := []) ⟨hx, hb, hml, hown, hts⟩ (r_X8_fail l dC dI L kd tys fr_1 H.size g.2.2.2.1 q0_ mq0_ kq0_ 4 (bd_sub kb_4 (by decide)) r_1 y0_ by0_ (g.fcts [3] rfl)) (cwV 2 hts (gV_ t_1215 t_1107 t_1108 t_184 t_1109) rfl rfl rfl (by decide +kernel) ⟨(Nat.le_of_ble_eq_true rfl), (Nat.le_of_ble_eq_true rfl)⟩) (pre3V g hK mq0_ kq0_ (by decide) (q := (RX8, TX8, 10)) rfl) rfl rfl hl.1 rfl (lv_room (Nat.le_of_ble_eq_true rfl)) dX0_openCall_25 ⟨(Nat.le_of_ble_eq_true rfl), (Nat.le_of_ble_eq_true rfl)⟩) g hK (by decide) (by decide) (fx' := [(0, 11, a0_, .int x_3), (0, 0, a0_, .ref q0_), (0, 2, a0_, .ref q1_)]) rfl (fun fr_124 H locs hp hMr_124 g => ?_)
    obtain ⟨x_125, h_126, hF_127⟩ := hp
    have hG_128 := eOK.frame hMr_124 go_.2.2.2.1 ma0_ ka0_ (by decide) (by decide) hG_2
    have g := g.more hF_127
    refine lv_aload_n hx hb dX0_openCall_28 rfl (lv_at hl 1 rfl) ?_
    refine g_getk (C := RX0) (T := TX0) (N := 14) hx hb hts (mc_ inX0) hown hK g rfl 2 (by decide) rfl (hts _ (List.mem_cons_of_mem _ t_375)) (fun _ h9 => h9) 4 rfl dX0_openCall_29 ?_
    refine lv_dup hx hb dX0_openCall_32 rfl ?_
    refine g_geti (C := RX7) (T := TX7) (N := 19) hx hb hts (mc_ inX7) hown hK g mq1_ kq1_ (by decide) rfl 18 (by decide) rfl (hts _ (List.mem_cons_of_mem _ t_681)) (fun _ h9 => h9) rfl dX0_openCall_33 (fun x_129 bx_129 g => ?_)
    refine lv_iconst (v := 1) hx hb dX0_openCall_36 (by decide) ?_
    have kb_1 : bd 1 1 (1 : Int32) := ⟨by decide, by decide⟩
    refine lv_iadd hx hb dX0_openCall_37 ?_
    refine lv_topi (fun y_130 ey_130 => ?_)
    have go_ := g
    refine g_put (C := RX7) (T := TX7) (N := 19) hx hb hts (mc_ inX7) tyX7 tyX7_ok nmX7 hown hK g mq1_ kq1_ (by decide) rfl 18 (by decide) (hts _ (List.mem_cons_of_mem _ t_681)) (fun _ h9 => h9) rfl rfl (okV_i (bdT y_130)) rfl rfl (by decide) (Or.inr (Or.inl (by decide))) (fx' := [(8, 6, q0_, .int 1201), (8, 8, q0_, .int x_125), (0, 11, a0_, .int x_3), (0, 0, a0_, .ref q0_), (0, 2, a0_, .ref q1_)]) rfl dX0_openCall_38 (fun f H locs hM_131 g => ?_)
    have hG_132 := eOK.frame hM_131 go_.2.2.2.1 ma0_ ka0_ (by decide) (by decide) hG_128
    refine lv_aload_n hx hb dX0_openCall_41 rfl (lv_at hl 1 rfl) ?_
    refine g_getk (C := RX0) (T := TX0) (N := 14) hx hb hts (mc_ inX0) hown hK g rfl 0 (by decide) rfl (hts _ (List.mem_cons_of_mem _ t_373)) (fun _ h9 => h9) 4 rfl dX0_openCall_42 ?_
    have kb_1201 : bd 1201 1201 (1201 : Int32) := ⟨by decide, by decide⟩
    have go_ := g
    refine g_callv (va_runV (As := []) (rest := []) ⟨hx, hb, hml, hown, hts⟩ (r_X8_next_2 l dC dI L kd tys f H.size g.2.2.2.1 q0_ mq0_ kq0_ 1201 kb_1201 (g.fcts [1] rfl)) (cwV 0 hts (gV_ t_1225 t_1103 t_1104 t_184 t_1105) rfl rfl rfl (by decide +kernel) ⟨(Nat.le_of_ble_eq_true rfl), (Nat.le_of_ble_eq_true rfl)⟩) (pre3V g hK mq0_ kq0_ (by decide) (q := (RX8, TX8, 10)) rfl) rfl rfl hl.1 rfl (lv_room (Nat.le_of_ble_eq_true rfl)) dX0_openCall_45 ⟨(Nat.le_of_ble_eq_true rfl), (Nat.le_of_ble_eq_true rfl)⟩) g hK (by decide) (by decide) (fx' := [(7, 18, q1_, .int y_130), (8, 6, q0_, .int 1201), (8, 8, q0_, .int x_125), (0, 11, a0_, .int x_3), (0, 0, a0_, .ref q0_), (0, 2, a0_, .ref q1_)]) rfl (fun fr_133 H locs hp hMr_133 g => ?_)
    have hG_134 := eOK.frame hMr_133 go_.2.2.2.1 ma0_ ka0_ (by decide) (by decide) hG_132
    refine lv_aload_n hx hb dX0_openCall_48 rfl (lv_at hl 1 rfl) ?_
    refine g_getk (C := RX0) (T := TX0) (N := 14) hx hb hts (mc_ inX0) hown hK g rfl 0 (by decide) rfl (hts _ (List.mem_cons_of_mem _ t_373)) (fun _ h9 => h9) 4 rfl dX0_openCall_49 ?_
    have go_ := g
    refine g_calli (va_runV (As := []) (rest := []) ⟨hx, hb, hml, hown, hts⟩ (r_X8_place l dC dI L kd tys fr_133 H.size g.2.2.2.1 q0_ mq0_ kq0_) (cwV 0 hts (gV_ t_1220 t_1111 t_1112 t_184 t_1113) rfl rfl rfl (by decide +kernel) ⟨(Nat.le_of_ble_eq_true rfl), (Nat.le_of_ble_eq_true rfl)⟩) (pre3V g hK mq0_ kq0_ (by decide) (q := (RX8, TX8, 10)) rfl) rfl rfl hl.1 rfl (lv_room (Nat.le_of_ble_eq_true rfl)) dX0_openCall_52 ⟨(Nat.le_of_ble_eq_true rfl), (Nat.le_of_ble_eq_true rfl)⟩) g hK (by decide) (by decide) (fx' := [(7, 18, q1_, .int y_130), (8, 6, q0_, .int 1201), (8, 8, q0_, .int x_125), (0, 11, a0_, .int x_3), (0, 0, a0_, .ref q0_), (0, 2, a0_, .ref q1_)]) rfl (fun r_135 fr_135 H locs hp hMr_135 g => ?_)
    have hG_136 := eOK.frame hMr_135 go_.2.2.2.1 ma0_ ka0_ (by decide) (by decide) hG_134
    refine lv_istore (lv' := [(6, .int r_135), (5, .int r_1), (0, .ref a0_), (1, .int x1_), (2, .int x2_), (3, .int x3_), (4, .int x4_)]) hx hb dX0_openCall_55 hl (by decide) rfl (fun ls hl => ?_)
    refine lv_aload_n hx hb dX0_openCall_57 rfl (lv_at hl 2 rfl) ?_
    refine g_getk (C := RX0) (T := TX0) (N := 14) hx hb hts (mc_ inX0) hown hK g rfl 0 (by decide) rfl (hts _ (List.mem_cons_of_mem _ t_373)) (fun _ h9 => h9) 4 rfl dX0_openCall_58 ?_
    have go_ := g
    refine g_calli (va_runV (As := []) (rest := []) ⟨hx, hb, hml, hown, hts⟩ (r_X8_kind_2 l dC dI L kd tys fr_135 H.size g.2.2.2.1 q0_ mq0_ kq0_ 1201 kb_1201 (g.fcts [1] rfl)) (cwV 0 hts (gV_ t_1186 t_1119 t_1120 t_184 t_1121) rfl rfl rfl (by decide +kernel) ⟨(Nat.le_of_ble_eq_true rfl), (Nat.le_of_ble_eq_true rfl)⟩) (pre3V g hK mq0_ kq0_ (by decide) (q := (RX8, TX8, 10)) rfl) rfl rfl hl.1 rfl (lv_room (Nat.le_of_ble_eq_true rfl)) dX0_openCall_61 ⟨(Nat.le_of_ble_eq_true rfl), (Nat.le_of_ble_eq_true rfl)⟩) g hK (by decide) (by decide) (fx' := [(7, 18, q1_, .int y_130), (8, 6, q0_, .int 1201), (8, 8, q0_, .int x_125), (0, 11, a0_, .int x_3), (0, 0, a0_, .ref q0_), (0, 2, a0_, .ref q1_)]) rfl (fun r_137 fr_137 H locs hp hMr_137 g => ?_)
    obtain ⟨h_138, -⟩ := hp
    have hG_139 := eOK.frame hMr_137 go_.2.2.2.1 ma0_ ka0_ (by decide) (by decide) hG_136
    obtain rfl : r_137 = 0 := h_138
    refine lv_bipush (v := 41) hx hb dX0_openCall_64 (by decide) ?_
    refine lv_icmp_ne (tgt := 73) hx hb dX0_openCall_66 (by decide) (fun c_ => ?_) (fun c_ => absurd c_ (by decide))
    refine lv_iconst (v := 0) hx hb dX0_openCall_73 (by decide) ?_
    refine lv_istore (lv' := [(7, .int 0), (6, .int r_135), (5, .int r_1), (0, .ref a0_), (1, .int x1_), (2, .int x2_), (3, .int x3_), (4, .int x4_)]) hx hb dX0_openCall_74 hl (by decide) rfl (fun ls hl => ?_)
    refine lv_iload hx hb dX0_openCall_76 (lv_at hl 7 rfl) ?_
    have kb_0 : bd 0 0 (0 : Int32) := ⟨by decide, by decide⟩
    refine lv_if_ne (tgt := 97) hx hb dX0_openCall_78 (by decide) (fun c_140 => ?_) (fun c_140 => ?_)
    · have fc_140 := neq_f c_140
      refine lv_iload hx hb dX0_openCall_97 (lv_at hl 0 rfl) ?_
      refine lv_if_ne (tgt := 120) hx hb dX0_openCall_99 (by decide) (fun c_ => absurd c_ (by decide)) (fun c_ => ?_)
      refine lv_aload_n hx hb dX0_openCall_102 rfl (lv_at hl 3 rfl) ?_
      refine lv_iload_n hx hb dX0_openCall_103 rfl (lv_at hl 4 rfl) ?_
      refine lv_iload_n hx hb dX0_openCall_104 rfl (lv_at hl 5 rfl) ?_
      refine lv_iload_n hx hb dX0_openCall_105 rfl (lv_at hl 6 rfl) ?_
      obtain ⟨a_141, ma_141, ka_141, g⟩ := g_factr (K := 110) g ma0_ ka0_ (by decide) 3 rfl
      obtain ⟨a_142, ma_142, ka_142, g⟩ := g_factr (K := 112) g ma0_ ka0_ (by decide) 5 rfl
      have go_ := g
      refine g_callv (va_runV (As := [.int x1_, .int x2_, .int x3_]) (rest := []) ⟨hx, hb, hml, hown, hts⟩ (r_X0_push_2 l dC dI L kd tys fr_137 H.size g.2.2.2.1 a0_ ma0_ ka0_ x1_ x2_ x3_ a_141 ma_141 ka_141 a_142 ma_142 ka_142 hG_139 (erel_bd bx1_ bx3_ (by decide)) (g.fcts [1, 0] rfl)) (cwV 3 hts (gV_ t_1221 t_1223 t_19 t_190 t_1224) rfl rfl rfl (by decide +kernel) ⟨(Nat.le_of_ble_eq_true rfl), (Nat.le_of_ble_eq_true rfl)⟩) (pre3V g hK ma0_ ka0_ (by decide) (q := (RX0, TX0, 14)) rfl) rfl rfl hl.1 rfl (lv_room (Nat.le_of_ble_eq_true rfl)) dX0_openCall_106 ⟨(Nat.le_of_ble_eq_true rfl), (Nat.le_of_ble_eq_true rfl)⟩) g hK (by decide) (by decide) (fx' := [(0, 5, a0_, .ref a_142), (0, 3, a0_, .ref a_141), (7, 18, q1_, .int y_130), (8, 6, q0_, .int 1201), (8, 8, q0_, .int x_125), (0, 11, a0_, .int x_3), (0, 0, a0_, .ref q0_), (0, 2, a0_, .ref q1_)]) rfl (fun fr_143 H locs hp hMr_143 g => ?_)
      obtain ⟨hG_144, x_145, h_146, hF_147⟩ := hp
      have g := g.more hF_147
      refine lv_aload_n hx hb dX0_openCall_109 rfl (lv_at hl 3 rfl) ?_
      refine lv_dup hx hb dX0_openCall_110 rfl ?_
      refine g_getk (C := RX0) (T := TX0) (N := 14) hx hb hts (mc_ inX0) hown hK g rfl 11 (by decide) rfl (hts _ (List.mem_cons_of_mem _ t_384)) (fun _ h9 => h9) 6 rfl dX0_openCall_111 ?_
      refine lv_iconst (v := 1) hx hb dX0_openCall_114 (by decide) ?_
      refine lv_iadd hx hb dX0_openCall_115 ?_
      refine lv_topi (fun y_148 ey_148 => ?_)
      have go_ := g
      refine g_put (C := RX0) (T := TX0) (N := 14) hx hb hts (mc_ inX0) tyX0 tyX0_ok nmX0 hown hK g ma0_ ka0_ (by decide) rfl 11 (by decide) (hts _ (List.mem_cons_of_mem _ t_384)) (fun _ h9 => h9) rfl rfl (okV_i (bdT y_148)) rfl rfl (by decide) (Or.inr (Or.inl (by decide))) (fx' := [(0, 8, a0_, .int x_145), (0, 5, a0_, .ref a_142), (0, 3, a0_, .ref a_141), (7, 18, q1_, .int y_130), (8, 6, q0_, .int 1201), (8, 8, q0_, .int x_125), (0, 0, a0_, .ref q0_), (0, 2, a0_, .ref q1_)]) rfl dX0_openCall_116 (fun f H locs hM_149 g => ?_)
      have hG_150 := eOK.frame hM_149 go_.2.2.2.1 ma0_ ka0_ (by decide) (by decide) hG_144
      subst hQ
      exact W.vret hx hb hr (fun t ht hW => ⟨⟨_, rfl, Or.inr (⟨hG_150, x_125, h_126, (g.fcts [5, 6] rfl)⟩), q3_of g hK ht hW⟩, g.2.2.1.F ht⟩) g.2.2.1.2.2 dX0_openCall_119
    · have fc_140 := eq_f c_140
      have b_151 : bd 0 0 x4_ := eqX fc_140 (bdT x4_) kb_0 (by decide)
      refine lv_iload hx hb dX0_openCall_81 (lv_at hl 0 rfl) ?_
      refine lv_if_ne (tgt := 97) hx hb dX0_openCall_83 (by decide) (fun c_ => absurd c_ (by decide)) (fun c_ => ?_)
      refine lv_aload_n hx hb dX0_openCall_86 rfl (lv_at hl 3 rfl) ?_
      refine g_getk (C := RX0) (T := TX0) (N := 14) hx hb hts (mc_ inX0) hown hK g rfl 0 (by decide) rfl (hts _ (List.mem_cons_of_mem _ t_373)) (fun _ h9 => h9) 4 rfl dX0_openCall_87 ?_
      refine lv_bipush (v := 6) hx hb dX0_openCall_90 (by decide) ?_
      refine lv_iload hx hb dX0_openCall_92 (lv_at hl 2 rfl) ?_
      have kb_6 : bd 6 6 (6 : Int32) := ⟨by decide, by decide⟩
      have go_ := g
      refine g_callv (va_runV (As := [.int 6, .int r_1]) (rest := []) ⟨hx, hb, hml, hown, hts⟩ (r_X8_fail_2 l dC dI L kd tys fr_137 H.size g.2.2.2.1 q0_ mq0_ kq0_ 6 (bd_sub kb_6 (by decide)) r_1 x_125 h_126 (g.fcts [2] rfl)) (cwV 2 hts (gV_ t_1215 t_1107 t_1108 t_184 t_1109) rfl rfl rfl (by decide +kernel) ⟨(Nat.le_of_ble_eq_true rfl), (Nat.le_of_ble_eq_true rfl)⟩) (pre3V g hK mq0_ kq0_ (by decide) (q := (RX8, TX8, 10)) rfl) rfl rfl hl.1 rfl (lv_room (Nat.le_of_ble_eq_true rfl)) dX0_openCall_94 ⟨(Nat.le_of_ble_eq_true rfl), (Nat.le_of_ble_eq_true rfl)⟩) g hK (by decide) (by decide) (fx' := [(7, 18, q1_, .int y_130), (8, 8, q0_, .int x_125), (0, 11, a0_, .int x_3), (0, 0, a0_, .ref q0_), (0, 2, a0_, .ref q1_)]) rfl (fun fr_152 H locs hp hMr_152 g => ?_)
      have hF_153 := hp
      have hG_154 := eOK.frame hMr_152 go_.2.2.2.1 ma0_ ka0_ (by decide) (by decide) hG_139
      have g := g.more hF_153
      refine lv_iload hx hb dX0_openCall_97 (lv_at hl 0 rfl) ?_
      refine lv_if_ne (tgt := 120) hx hb dX0_openCall_99 (by decide) (fun c_ => absurd c_ (by decide)) (fun c_ => ?_)
      refine lv_aload_n hx hb dX0_openCall_102 rfl (lv_at hl 3 rfl) ?_
      refine lv_iload_n hx hb dX0_openCall_103 rfl (lv_at hl 4 rfl) ?_
      refine lv_iload_n hx hb dX0_openCall_104 rfl (lv_at hl 5 rfl) ?_
      refine lv_iload_n hx hb dX0_openCall_105 rfl (lv_at hl 6 rfl) ?_
      obtain ⟨a_155, ma_155, ka_155, g⟩ := g_factr (K := 110) g ma0_ ka0_ (by decide) 3 rfl
      obtain ⟨a_156, ma_156, ka_156, g⟩ := g_factr (K := 112) g ma0_ ka0_ (by decide) 5 rfl
      have go_ := g
      refine g_callv (va_runV (As := [.int x1_, .int x2_, .int x3_]) (rest := []) ⟨hx, hb, hml, hown, hts⟩ (r_X0_push_2 l dC dI L kd tys fr_152 H.size g.2.2.2.1 a0_ ma0_ ka0_ x1_ x2_ x3_ a_155 ma_155 ka_155 a_156 ma_156 ka_156 hG_154 (erel_bd bx1_ bx3_ (by decide)) (g.fcts [1, 0] rfl)) (cwV 3 hts (gV_ t_1221 t_1223 t_19 t_190 t_1224) rfl rfl rfl (by decide +kernel) ⟨(Nat.le_of_ble_eq_true rfl), (Nat.le_of_ble_eq_true rfl)⟩) (pre3V g hK ma0_ ka0_ (by decide) (q := (RX0, TX0, 14)) rfl) rfl rfl hl.1 rfl (lv_room (Nat.le_of_ble_eq_true rfl)) dX0_openCall_106 ⟨(Nat.le_of_ble_eq_true rfl), (Nat.le_of_ble_eq_true rfl)⟩) g hK (by decide) (by decide) (fx' := [(0, 5, a0_, .ref a_156), (0, 3, a0_, .ref a_155), (8, 6, q0_, .int 1201), (7, 18, q1_, .int y_130), (8, 8, q0_, .int x_125), (0, 11, a0_, .int x_3), (0, 0, a0_, .ref q0_), (0, 2, a0_, .ref q1_)]) rfl (fun fr_157 H locs hp hMr_157 g => ?_)
      obtain ⟨hG_158, x_159, h_160, hF_161⟩ := hp
      have g := g.more hF_161
      refine lv_aload_n hx hb dX0_openCall_109 rfl (lv_at hl 3 rfl) ?_
      refine lv_dup hx hb dX0_openCall_110 rfl ?_
      refine g_getk (C := RX0) (T := TX0) (N := 14) hx hb hts (mc_ inX0) hown hK g rfl 11 (by decide) rfl (hts _ (List.mem_cons_of_mem _ t_384)) (fun _ h9 => h9) 6 rfl dX0_openCall_111 ?_
      refine lv_iconst (v := 1) hx hb dX0_openCall_114 (by decide) ?_
      refine lv_iadd hx hb dX0_openCall_115 ?_
      refine lv_topi (fun y_162 ey_162 => ?_)
      have go_ := g
      refine g_put (C := RX0) (T := TX0) (N := 14) hx hb hts (mc_ inX0) tyX0 tyX0_ok nmX0 hown hK g ma0_ ka0_ (by decide) rfl 11 (by decide) (hts _ (List.mem_cons_of_mem _ t_384)) (fun _ h9 => h9) rfl rfl (okV_i (bdT y_162)) rfl rfl (by decide) (Or.inr (Or.inl (by decide))) (fx' := [(0, 8, a0_, .int x_159), (0, 5, a0_, .ref a_156), (0, 3, a0_, .ref a_155), (8, 6, q0_, .int 1201), (7, 18, q1_, .int y_130), (8, 8, q0_, .int x_125), (0, 0, a0_, .ref q0_), (0, 2, a0_, .ref q1_)]) rfl dX0_openCall_116 (fun f H locs hM_163 g => ?_)
      have hG_164 := eOK.frame hM_163 go_.2.2.2.1 ma0_ ka0_ (by decide) (by decide) hG_158
      subst hQ
      exact W.vret hx hb hr (fun t ht hW => ⟨⟨_, rfl, Or.inr (⟨hG_164, x_125, h_126, (g.fcts [4, 6] rfl)⟩), q3_of g hK ht hW⟩, g.2.2.1.F ht⟩) g.2.2.1.2.2 dX0_openCall_119
set_option maxHeartbeats 4000000 in
set_option maxRecDepth 100000 in
theorem r_X0_readAbove_2 (l : Launch) (dC : Nat → ClassId) (dI : Nat → Nat → Nat) (L : List Nat) (kd : Nat → Nat) (tys : List (ClassId × FieldType)) (f0 : Nat → va_E) (sz : Nat) (hWT : WT L kd tys f0) (a0_ : Nat) (ma0_ : a0_ ∈ L) (ka0_ : kd a0_ = 0) (q0_ : Nat) (mq0_ : q0_ ∈ L) (kq0_ : kd q0_ = 8) (q1_ : Nat) (mq1_ : q1_ ∈ L) (kq1_ : kd q1_ = 5) (q2_ : Nat) (mq2_ : q2_ ∈ L) (kq2_ : kd q2_ = 7) (q3_ : Nat) (mq3_ : q3_ ∈ L) (kq3_ : kd q3_ = 9) (y0_ : Int32) (by0_ : bd 0 0 y0_) (hGea0_ : eOK f0 a0_) (hfx : Fs L kd f0 [(0, 0, a0_, .ref q0_), (0, 1, a0_, .ref q1_), (0, 2, a0_, .ref q2_), (5, 1, q1_, .ref q3_), (8, 8, q0_, .int y0_)]) : Met l yX0_readAbove (.code yX0_readAbove cX0_readAbove 6 none :: lw_g) ({ frames := 2, cells := 0, slots := 0, locals := 50 }) (va_Pc [.ref a0_] (P3 (dC, dI) L tys f0 sz)) (va_Qv (fun (f : Nat → va_E) => (eOK f a0_ ∧ ∃ z0_ : Int32, bd (-2147483648) 40 z0_ ∧ ∃ z1_ : Int32, bd 1 1201 z1_ ∧ ∃ z3_ : Int32, bd 1 8 z3_ ∧ ∃ z4_ : Int32, bd 0 7 z4_ ∧ Fs L kd f [(0, 11, a0_, .int z0_), (8, 6, q0_, .int z1_), (8, 8, q0_, .int y0_), (7, 1, q2_, .int z3_), (9, 1, q3_, .int z4_)]) ∨ (eOK f a0_ ∧ ∃ z1_ : Int32, bd 1 7 z1_ ∧ Fs L kd f [(8, 6, q0_, .int 1201), (8, 8, q0_, .int z1_)])) (Q3 (dC, dI) L kd tys [(0, 8), (0, 10), (0, 11), (0, 12), (7, 6), (7, 18), (8, 6), (8, 8), (8, 9)] [110, 111, 112, 113, 114, 115, 138, 139] f0 sz) (pA L sz)) 0 0 (pA L sz) := by
  refine Met.ofW (cc := cX0_readAbove) (maxL := 6) (ret := none) (by decide) rfl ?_
  intro p e s m args below meth c s₁ B hml hv
  obtain ⟨rfl, hsz, hP, hK, hD0⟩ := hv
  have hx := B.exec
  have hb := B.bytes
  have hr := B.returns
  have hts := atoms_spec (ws := (.code yX0_readAbove cX0_readAbove 6 none :: lw_g)) B.pre
  have hown : s.vm.findClass RX0 = some m.cls := findClass_of_methodNamed B.named
  have hlocks := B.notSynchronized
  subst hsz
  have g : G3 (dC, dI) L kd tys s f0 [(0, 8), (0, 10), (0, 11), (0, 12), (7, 6), (7, 18), (8, 6), (8, 8), (8, 9)] [110, 111, 112, 113, 114, 115, 138, 139] f0 s.heap [] [(0, 0, a0_, .ref q0_), (0, 1, a0_, .ref q1_), (0, 2, a0_, .ref q2_), (5, 1, q1_, .ref q3_), (8, 8, q0_, .int y0_)] := G3.start hP hD0 hWT hfx
  have hl := lv_entry ([.ref a0_]) (n := 6) (Nat.le_of_ble_eq_true rfl)
  rw [lg_entry_eq]
  generalize (lg_sl ([.ref a0_]) ++ List.replicate (6 - (lg_sl ([.ref a0_])).length) Slot.unset).toArray = ls at hl ⊢
  have hl : lv_has ls 6 [(0, .ref a0_)] := hl
  refine W_q (fun Q hQ => ?_)
  refine lv_aload_n hx hb dX0_readAbove_0 rfl (lv_at hl 0 rfl) ?_
  refine g_getk (C := RX0) (T := TX0) (N := 14) hx hb hts (mc_ inX0) hown hK g rfl 0 (by decide) rfl (hts _ (List.mem_cons_of_mem _ t_373)) (fun _ h9 => h9) 0 rfl dX0_readAbove_1 ?_
  have go_ := g
  refine g_calli (va_runV (As := []) (rest := []) ⟨hx, hb, hml, hown, hts⟩ (r_X8_place l dC dI L kd tys f0 s.heap.size g.2.2.2.1 q0_ mq0_ kq0_) (cwV 0 hts (gV_ t_1220 t_1111 t_1112 t_184 t_1113) rfl rfl rfl (by decide +kernel) ⟨(Nat.le_of_ble_eq_true rfl), (Nat.le_of_ble_eq_true rfl)⟩) (pre3V g hK mq0_ kq0_ (by decide) (q := (RX8, TX8, 10)) rfl) rfl rfl hl.1 rfl (lv_room (Nat.le_of_ble_eq_true rfl)) dX0_readAbove_4 ⟨(Nat.le_of_ble_eq_true rfl), (Nat.le_of_ble_eq_true rfl)⟩) g hK (by decide) (by decide) (fx' := [(0, 0, a0_, .ref q0_), (0, 1, a0_, .ref q1_), (0, 2, a0_, .ref q2_), (5, 1, q1_, .ref q3_), (8, 8, q0_, .int y0_)]) rfl (fun r_1 fr_1 H locs hp hMr_1 g => ?_)
  have hG_2 := eOK.frame hMr_1 go_.2.2.2.1 ma0_ ka0_ (by decide) (by decide) hGea0_
  refine lv_istore_n (lv' := [(1, .int r_1), (0, .ref a0_)]) hx hb dX0_readAbove_7 rfl hl (by decide) rfl (fun ls hl => ?_)
  refine lv_aload_n hx hb dX0_readAbove_8 rfl (lv_at hl 1 rfl) ?_
  refine g_getk (C := RX0) (T := TX0) (N := 14) hx hb hts (mc_ inX0) hown hK g rfl 0 (by decide) rfl (hts _ (List.mem_cons_of_mem _ t_373)) (fun _ h9 => h9) 0 rfl dX0_readAbove_9 ?_
  have go_ := g
  refine g_callv (va_runV (As := []) (rest := []) ⟨hx, hb, hml, hown, hts⟩ (r_X8_next l dC dI L kd tys fr_1 H.size g.2.2.2.1 q0_ mq0_ kq0_) (cwV 0 hts (gV_ t_1225 t_1103 t_1104 t_184 t_1105) rfl rfl rfl (by decide +kernel) ⟨(Nat.le_of_ble_eq_true rfl), (Nat.le_of_ble_eq_true rfl)⟩) (pre3V g hK mq0_ kq0_ (by decide) (q := (RX8, TX8, 10)) rfl) rfl rfl hl.1 rfl (lv_room (Nat.le_of_ble_eq_true rfl)) dX0_readAbove_12 ⟨(Nat.le_of_ble_eq_true rfl), (Nat.le_of_ble_eq_true rfl)⟩) g hK (by decide) (by decide) (fx' := [(0, 0, a0_, .ref q0_), (0, 1, a0_, .ref q1_), (0, 2, a0_, .ref q2_), (5, 1, q1_, .ref q3_), (8, 8, q0_, .int y0_)]) rfl (fun fr_3 H locs hp hMr_3 g => ?_)
  obtain ⟨x_4, h_5, hF_6⟩ := hp
  have hG_7 := eOK.frame hMr_3 go_.2.2.2.1 ma0_ ka0_ (by decide) (by decide) hG_2
  have g := g.more hF_6
  refine lv_aload_n hx hb dX0_readAbove_15 rfl (lv_at hl 1 rfl) ?_
  refine g_getk (C := RX0) (T := TX0) (N := 14) hx hb hts (mc_ inX0) hown hK g rfl 2 (by decide) rfl (hts _ (List.mem_cons_of_mem _ t_375)) (fun _ h9 => h9) 3 rfl dX0_readAbove_16 ?_
  refine lv_aload_n hx hb dX0_readAbove_19 rfl (lv_at hl 1 rfl) ?_
  refine g_getk (C := RX0) (T := TX0) (N := 14) hx hb hts (mc_ inX0) hown hK g rfl 1 (by decide) rfl (hts _ (List.mem_cons_of_mem _ t_374)) (fun _ h9 => h9) 2 rfl dX0_readAbove_20 ?_
  refine g_getk (C := RX5) (T := TX5) (N := 9) hx hb hts (mc_ inX5) hown hK g rfl 1 (by decide) rfl (hts _ (List.mem_cons_of_mem _ t_332)) (fun _ h9 => h9) 4 rfl dX0_readAbove_23 ?_
  refine g_geti (C := RX9) (T := TX9) (N := 13) hx hb hts (mc_ inX9) hown hK g mq3_ kq3_ (by decide) rfl 1 (by decide) rfl (hts _ (List.mem_cons_of_mem _ t_482)) (fun _ h9 => h9) rfl dX0_readAbove_26 (fun x_8 bx_8 g => ?_)
  have go_ := g
  refine g_calli (va_runV (As := [.int x_8]) (rest := []) ⟨hx, hb, hml, hown, hts⟩ (r_X7_hasClass l dC dI L kd tys fr_3 H.size g.2.2.2.1 q2_ mq2_ kq2_ x_8) (cwV 1 hts (gV_ t_1280 t_1281 t_1282 t_191 t_1283) rfl rfl rfl (by decide +kernel) ⟨(Nat.le_of_ble_eq_true rfl), (Nat.le_of_ble_eq_true rfl)⟩) (pre3V g hK mq2_ kq2_ (by decide) (q := (RX7, TX7, 19)) rfl) rfl rfl hl.1 rfl (lv_room (Nat.le_of_ble_eq_true rfl)) dX0_readAbove_29 ⟨(Nat.le_of_ble_eq_true rfl), (Nat.le_of_ble_eq_true rfl)⟩) g hK (by decide) (by decide) (fx' := [(9, 1, q3_, .int x_8), (8, 6, q0_, .int x_4), (0, 0, a0_, .ref q0_), (0, 1, a0_, .ref q1_), (0, 2, a0_, .ref q2_), (5, 1, q1_, .ref q3_), (8, 8, q0_, .int y0_)]) rfl (fun r_9 fr_9 H locs hp hMr_9 g => ?_)
  rcases hp with ⟨h_10, -⟩ | ⟨h_11, h_12, x_13, h_14, hF_15⟩
  · have hG_16 := eOK.frame hMr_9 go_.2.2.2.1 ma0_ ka0_ (by decide) (by decide) hG_7
    obtain rfl : r_9 = 0 := h_10
    refine lv_if_ne (tgt := 45) hx hb dX0_readAbove_32 (by decide) (fun c_ => absurd c_ (by decide)) (fun c_ => ?_)
    refine lv_aload_n hx hb dX0_readAbove_35 rfl (lv_at hl 1 rfl) ?_
    refine g_getk (C := RX0) (T := TX0) (N := 14) hx hb hts (mc_ inX0) hown hK g rfl 0 (by decide) rfl (hts _ (List.mem_cons_of_mem _ t_373)) (fun _ h9 => h9) 2 rfl dX0_readAbove_36 ?_
    refine lv_iconst (v := 5) hx hb dX0_readAbove_39 (by decide) ?_
    refine lv_iload_n hx hb dX0_readAbove_40 rfl (lv_at hl 0 rfl) ?_
    have kb_5 : bd 5 5 (5 : Int32) := ⟨by decide, by decide⟩
    have go_ := g
    refine g_callv (va_runV (As := [.int 5, .int r_1]) (rest := []) ⟨hx, hb, hml, hown, hts⟩ (r_X8_fail l dC dI L kd tys fr_9 H.size g.2.2.2.1 q0_ mq0_ kq0_ 5 (bd_sub kb_5 (by decide)) r_1 y0_ by0_ (g.fcts [6] rfl)) (cwV 2 hts (gV_ t_1215 t_1107 t_1108 t_184 t_1109) rfl rfl rfl (by decide +kernel) ⟨(Nat.le_of_ble_eq_true rfl), (Nat.le_of_ble_eq_true rfl)⟩) (pre3V g hK mq0_ kq0_ (by decide) (q := (RX8, TX8, 10)) rfl) rfl rfl hl.1 rfl (lv_room (Nat.le_of_ble_eq_true rfl)) dX0_readAbove_41 ⟨(Nat.le_of_ble_eq_true rfl), (Nat.le_of_ble_eq_true rfl)⟩) g hK (by decide) (by decide) (fx' := [(9, 1, q3_, .int x_8), (0, 0, a0_, .ref q0_), (0, 1, a0_, .ref q1_), (0, 2, a0_, .ref q2_), (5, 1, q1_, .ref q3_)]) rfl (fun fr_17 H locs hp hMr_17 g => ?_)
    obtain ⟨x_18, h_19, hF_20⟩ := hp
    have hG_21 := eOK.frame hMr_17 go_.2.2.2.1 ma0_ ka0_ (by decide) (by decide) hG_16
    have g := g.more hF_20
    subst hQ
    exact W.vret hx hb hr (fun t ht hW => ⟨⟨_, rfl, Or.inr (⟨hG_21, x_18, h_19, (g.fcts [0, 1] rfl)⟩), q3_of g hK ht hW⟩, g.2.2.1.F ht⟩) g.2.2.1.2.2 dX0_readAbove_44
  · have hG_22 := eOK.frame hMr_9 go_.2.2.2.1 ma0_ ka0_ (by decide) (by decide) hG_7
    obtain rfl : r_9 = 1 := h_11
    have b_23 : bd 0 7 x_8 := eqX rfl (bdT x_8) h_12 (by decide)
    have g := g.more hF_15
    refine lv_if_ne (tgt := 45) hx hb dX0_readAbove_32 (by decide) (fun c_ => ?_) (fun c_ => absurd c_ (by decide))
    refine lv_aload_n hx hb dX0_readAbove_45 rfl (lv_at hl 1 rfl) ?_
    refine g_getk (C := RX0) (T := TX0) (N := 14) hx hb hts (mc_ inX0) hown hK g rfl 2 (by decide) rfl (hts _ (List.mem_cons_of_mem _ t_375)) (fun _ h9 => h9) 5 rfl dX0_readAbove_46 ?_
    refine g_getr (K := 136) (C := RX7) (T := TX7) (N := 19) hx hb hts (mc_ inX7) hown hK g mq2_ kq2_ (by decide) rfl 0 (by decide) rfl (hts _ (List.mem_cons_of_mem _ t_625)) (fun _ h9 => h9) rfl dX0_readAbove_49 (fun a_24 ma_24 ka_24 g => ?_)
    refine lv_aload_n hx hb dX0_readAbove_52 rfl (lv_at hl 1 rfl) ?_
    refine g_getk (C := RX0) (T := TX0) (N := 14) hx hb hts (mc_ inX0) hown hK g rfl 1 (by decide) rfl (hts _ (List.mem_cons_of_mem _ t_374)) (fun _ h9 => h9) 5 rfl dX0_readAbove_53 ?_
    refine g_getk (C := RX5) (T := TX5) (N := 9) hx hb hts (mc_ inX5) hown hK g rfl 1 (by decide) rfl (hts _ (List.mem_cons_of_mem _ t_332)) (fun _ h9 => h9) 7 rfl dX0_readAbove_56 ?_
    refine g_getk (C := RX9) (T := TX9) (N := 13) hx hb hts (mc_ inX9) hown hK g rfl 1 (by decide) rfl (hts _ (List.mem_cons_of_mem _ t_482)) (fun _ h9 => h9) 2 rfl dX0_readAbove_59 ?_
    refine g_aald hx hb hK g ma_24 ka_24 (by decide) rfl (by decide) (in_bd b_23 (by decide)) dX0_readAbove_62 (fun a_25 ma_25 ua_25 wa_25 => ?_)
    have ka_25 : kd a_25 = 9 := by omega
    refine lv_astore_n (lv' := [(2, .ref a_25), (1, .int r_1), (0, .ref a0_)]) hx hb dX0_readAbove_63 rfl hl (by decide) rfl (fun ls hl => ?_)
    refine lv_aload_n hx hb dX0_readAbove_64 rfl (lv_at hl 2 rfl) ?_
    refine g_getk (C := RX0) (T := TX0) (N := 14) hx hb hts (mc_ inX0) hown hK g rfl 0 (by decide) rfl (hts _ (List.mem_cons_of_mem _ t_373)) (fun _ h9 => h9) 4 rfl dX0_readAbove_65 ?_
    refine lv_bipush (v := 46) hx hb dX0_readAbove_68 (by decide) ?_
    have go_ := g
    refine g_callv (va_runV (As := [.int 46]) (rest := []) ⟨hx, hb, hml, hown, hts⟩ (r_X8_take l dC dI L kd tys fr_9 H.size g.2.2.2.1 q0_ mq0_ kq0_ 46 y0_ by0_ (g.fcts [8] rfl)) (cwV 1 hts (gV_ t_1284 t_1099 t_1100 t_184 t_1101) rfl rfl rfl (by decide +kernel) ⟨(Nat.le_of_ble_eq_true rfl), (Nat.le_of_ble_eq_true rfl)⟩) (pre3V g hK mq0_ kq0_ (by decide) (q := (RX8, TX8, 10)) rfl) rfl rfl hl.1 rfl (lv_room (Nat.le_of_ble_eq_true rfl)) dX0_readAbove_70 ⟨(Nat.le_of_ble_eq_true rfl), (Nat.le_of_ble_eq_true rfl)⟩) g hK (by decide) (by decide) (fx' := [(7, 0, q2_, .ref a_24), (7, 1, q2_, .int x_13), (9, 1, q3_, .int x_8), (0, 0, a0_, .ref q0_), (0, 1, a0_, .ref q1_), (0, 2, a0_, .ref q2_), (5, 1, q1_, .ref q3_)]) rfl (fun fr_26 H locs hp hMr_26 g => ?_)
    rcases hp with ⟨x_27, h_28, hF_29⟩ | ⟨x_30, h_31, hF_32⟩
    · have hG_33 := eOK.frame hMr_26 go_.2.2.2.1 ma0_ ka0_ (by decide) (by decide) hG_22
      have g := g.more hF_29
      refine lv_aload_n hx hb dX0_readAbove_73 rfl (lv_at hl 2 rfl) ?_
      refine g_getk (C := RX0) (T := TX0) (N := 14) hx hb hts (mc_ inX0) hown hK g rfl 0 (by decide) rfl (hts _ (List.mem_cons_of_mem _ t_373)) (fun _ h9 => h9) 5 rfl dX0_readAbove_74 ?_
      have go_ := g
      refine g_calli (va_runV (As := []) (rest := []) ⟨hx, hb, hml, hown, hts⟩ (r_X8_place l dC dI L kd tys fr_26 H.size g.2.2.2.1 q0_ mq0_ kq0_) (cwV 0 hts (gV_ t_1220 t_1111 t_1112 t_184 t_1113) rfl rfl rfl (by decide +kernel) ⟨(Nat.le_of_ble_eq_true rfl), (Nat.le_of_ble_eq_true rfl)⟩) (pre3V g hK mq0_ kq0_ (by decide) (q := (RX8, TX8, 10)) rfl) rfl rfl hl.1 rfl (lv_room (Nat.le_of_ble_eq_true rfl)) dX0_readAbove_77 ⟨(Nat.le_of_ble_eq_true rfl), (Nat.le_of_ble_eq_true rfl)⟩) g hK (by decide) (by decide) (fx' := [(8, 6, q0_, .int x_27), (8, 8, q0_, .int y0_), (7, 0, q2_, .ref a_24), (7, 1, q2_, .int x_13), (9, 1, q3_, .int x_8), (0, 0, a0_, .ref q0_), (0, 1, a0_, .ref q1_), (0, 2, a0_, .ref q2_), (5, 1, q1_, .ref q3_)]) rfl (fun r_34 fr_34 H locs hp hMr_34 g => ?_)
      have hG_35 := eOK.frame hMr_34 go_.2.2.2.1 ma0_ ka0_ (by decide) (by decide) hG_33
      refine lv_istore_n (lv' := [(3, .int r_34), (2, .ref a_25), (1, .int r_1), (0, .ref a0_)]) hx hb dX0_readAbove_80 rfl hl (by decide) rfl (fun ls hl => ?_)
      refine lv_aload_n hx hb dX0_readAbove_81 rfl (lv_at hl 3 rfl) ?_
      refine g_getk (C := RX0) (T := TX0) (N := 14) hx hb hts (mc_ inX0) hown hK g rfl 0 (by decide) rfl (hts _ (List.mem_cons_of_mem _ t_373)) (fun _ h9 => h9) 5 rfl dX0_readAbove_82 ?_
      have go_ := g
      refine g_calli (va_runV (As := []) (rest := []) ⟨hx, hb, hml, hown, hts⟩ (r_X8_kind l dC dI L kd tys fr_34 H.size g.2.2.2.1 q0_ mq0_ kq0_) (cwV 0 hts (gV_ t_1186 t_1119 t_1120 t_184 t_1121) rfl rfl rfl (by decide +kernel) ⟨(Nat.le_of_ble_eq_true rfl), (Nat.le_of_ble_eq_true rfl)⟩) (pre3V g hK mq0_ kq0_ (by decide) (q := (RX8, TX8, 10)) rfl) rfl rfl hl.1 rfl (lv_room (Nat.le_of_ble_eq_true rfl)) dX0_readAbove_85 ⟨(Nat.le_of_ble_eq_true rfl), (Nat.le_of_ble_eq_true rfl)⟩) g hK (by decide) (by decide) (fx' := [(8, 6, q0_, .int x_27), (8, 8, q0_, .int y0_), (7, 0, q2_, .ref a_24), (7, 1, q2_, .int x_13), (9, 1, q3_, .int x_8), (0, 0, a0_, .ref q0_), (0, 1, a0_, .ref q1_), (0, 2, a0_, .ref q2_), (5, 1, q1_, .ref q3_)]) rfl (fun r_36 fr_36 H locs hp hMr_36 g => ?_)
      have hG_37 := eOK.frame hMr_36 go_.2.2.2.1 ma0_ ka0_ (by decide) (by decide) hG_35
      refine lv_iconst (v := 3) hx hb dX0_readAbove_88 (by decide) ?_
      have kb_3 : bd 3 3 (3 : Int32) := ⟨by decide, by decide⟩
      refine lv_icmp_eq (tgt := 102) hx hb dX0_readAbove_89 (by decide) (fun c_38 => ?_) (fun c_38 => ?_)
      · have fc_38 := eq_f c_38
        have b_39 : bd 3 3 r_36 := eqX fc_38 (bdT r_36) kb_3 (by decide)
        refine lv_aload_n hx hb dX0_readAbove_102 rfl (lv_at hl 3 rfl) ?_
        refine g_getk (C := RX0) (T := TX0) (N := 14) hx hb hts (mc_ inX0) hown hK g rfl 2 (by decide) rfl (hts _ (List.mem_cons_of_mem _ t_375)) (fun _ h9 => h9) 7 rfl dX0_readAbove_103 ?_
        refine lv_aload_n hx hb dX0_readAbove_106 rfl (lv_at hl 1 rfl) ?_
        refine lv_aload_n hx hb dX0_readAbove_107 rfl (lv_at hl 3 rfl) ?_
        refine g_getk (C := RX0) (T := TX0) (N := 14) hx hb hts (mc_ inX0) hown hK g rfl 0 (by decide) rfl (hts _ (List.mem_cons_of_mem _ t_373)) (fun _ h9 => h9) 5 rfl dX0_readAbove_108 ?_
        have go_ := g
        refine g_calll (va_runV (As := []) (rest := [.ref a_25, .ref q2_]) ⟨hx, hb, hml, hown, hts⟩ (r_X8_value l dC dI L kd tys fr_36 H.size g.2.2.2.1 q0_ mq0_ kq0_) (cwV 0 hts (gV_ t_1238 t_1115 t_1116 t_184 t_1117) rfl rfl rfl (by decide +kernel) ⟨(Nat.le_of_ble_eq_true rfl), (Nat.le_of_ble_eq_true rfl)⟩) (pre3V g hK mq0_ kq0_ (by decide) (q := (RX8, TX8, 10)) rfl) rfl rfl hl.1 rfl (lv_room (Nat.le_of_ble_eq_true rfl)) dX0_readAbove_111 ⟨(Nat.le_of_ble_eq_true rfl), (Nat.le_of_ble_eq_true rfl)⟩) g hK (by decide) (by decide) (fx' := [(8, 6, q0_, .int x_27), (8, 8, q0_, .int y0_), (7, 0, q2_, .ref a_24), (7, 1, q2_, .int x_13), (9, 1, q3_, .int x_8), (0, 0, a0_, .ref q0_), (0, 1, a0_, .ref q1_), (0, 2, a0_, .ref q2_), (5, 1, q1_, .ref q3_)]) rfl (fun r_40 fr_40 H locs hp hMr_40 g => ?_)
        have hG_41 := eOK.frame hMr_40 go_.2.2.2.1 ma0_ ka0_ (by decide) (by decide) hG_37
        have go_ := g
        refine g_calli (va_runV (As := [.ref a_25, .long r_40]) (rest := []) ⟨hx, hb, hml, hown, hts⟩ (r_X7_memberNamed l dC dI L kd tys fr_40 H.size g.2.2.2.1 q2_ mq2_ kq2_ a_25 ma_25 ka_25 r_40) (cwV 2 hts (gV_ t_1243 t_1244 t_1245 t_191 t_1246) rfl rfl rfl (by decide +kernel) ⟨(Nat.le_of_ble_eq_true rfl), (Nat.le_of_ble_eq_true rfl)⟩) (pre3V g hK mq2_ kq2_ (by decide) (q := (RX7, TX7, 19)) rfl) rfl rfl hl.1 rfl (lv_room (Nat.le_of_ble_eq_true rfl)) dX0_readAbove_114 ⟨(Nat.le_of_ble_eq_true rfl), (Nat.le_of_ble_eq_true rfl)⟩) g hK (by decide) (by decide) (fx' := [(8, 6, q0_, .int x_27), (8, 8, q0_, .int y0_), (7, 0, q2_, .ref a_24), (7, 1, q2_, .int x_13), (9, 1, q3_, .int x_8), (0, 0, a0_, .ref q0_), (0, 1, a0_, .ref q1_), (0, 2, a0_, .ref q2_), (5, 1, q1_, .ref q3_)]) rfl (fun r_42 fr_42 H locs hp hMr_42 g => ?_)
        obtain ⟨h_43, -⟩ := hp
        have hG_44 := eOK.frame hMr_42 go_.2.2.2.1 ma0_ ka0_ (by decide) (by decide) hG_41
        refine lv_istore (lv' := [(4, .int r_42), (3, .int r_34), (2, .ref a_25), (1, .int r_1), (0, .ref a0_)]) hx hb dX0_readAbove_117 hl (by decide) rfl (fun ls hl => ?_)
        refine lv_iload hx hb dX0_readAbove_119 (lv_at hl 0 rfl) ?_
        refine lv_iconst (v := (-1)) hx hb dX0_readAbove_121 (by decide) ?_
        have kb_m1 : bd (-1) (-1) ((-1) : Int32) := ⟨by decide, by decide⟩
        refine lv_icmp_ne (tgt := 135) hx hb dX0_readAbove_122 (by decide) (fun c_45 => ?_) (fun c_45 => ?_)
        · have fc_45 := neq_f c_45
          have b_46 : bd 0 11 r_42 := neX fc_45 h_43 kb_m1 (by decide)
          refine lv_aload_n hx hb dX0_readAbove_135 rfl (lv_at hl 4 rfl) ?_
          refine g_getk (C := RX0) (T := TX0) (N := 14) hx hb hts (mc_ inX0) hown hK g rfl 0 (by decide) rfl (hts _ (List.mem_cons_of_mem _ t_373)) (fun _ h9 => h9) 5 rfl dX0_readAbove_136 ?_
          have go_ := g
          refine g_callv (va_runV (As := []) (rest := []) ⟨hx, hb, hml, hown, hts⟩ (r_X8_next l dC dI L kd tys fr_42 H.size g.2.2.2.1 q0_ mq0_ kq0_) (cwV 0 hts (gV_ t_1225 t_1103 t_1104 t_184 t_1105) rfl rfl rfl (by decide +kernel) ⟨(Nat.le_of_ble_eq_true rfl), (Nat.le_of_ble_eq_true rfl)⟩) (pre3V g hK mq0_ kq0_ (by decide) (q := (RX8, TX8, 10)) rfl) rfl rfl hl.1 rfl (lv_room (Nat.le_of_ble_eq_true rfl)) dX0_readAbove_139 ⟨(Nat.le_of_ble_eq_true rfl), (Nat.le_of_ble_eq_true rfl)⟩) g hK (by decide) (by decide) (fx' := [(8, 8, q0_, .int y0_), (7, 0, q2_, .ref a_24), (7, 1, q2_, .int x_13), (9, 1, q3_, .int x_8), (0, 0, a0_, .ref q0_), (0, 1, a0_, .ref q1_), (0, 2, a0_, .ref q2_), (5, 1, q1_, .ref q3_)]) rfl (fun fr_47 H locs hp hMr_47 g => ?_)
          obtain ⟨x_48, h_49, hF_50⟩ := hp
          have hG_51 := eOK.frame hMr_47 go_.2.2.2.1 ma0_ ka0_ (by decide) (by decide) hG_44
          have g := g.more hF_50
          refine lv_aload_n hx hb dX0_readAbove_142 rfl (lv_at hl 2 rfl) ?_
          refine g_getr (K := 156) (C := RX9) (T := TX9) (N := 13) hx hb hts (mc_ inX9) hown hK g ma_25 ka_25 (by decide) rfl 9 (by decide) rfl (hts _ (List.mem_cons_of_mem _ t_508)) (fun _ h9 => h9) rfl dX0_readAbove_143 (fun a_52 ma_52 ka_52 g => ?_)
          refine lv_iload hx hb dX0_readAbove_146 (lv_at hl 0 rfl) ?_
          refine g_iald hx hb hK g ma_52 ka_52 (by decide) rfl (in_bd b_46 (by decide)) dX0_readAbove_148 (fun x_53 bx_53 cx_53 => ?_)
          refine lv_istore (lv' := [(5, .int x_53), (4, .int r_42), (3, .int r_34), (2, .ref a_25), (1, .int r_1), (0, .ref a0_)]) hx hb dX0_readAbove_149 hl (by decide) rfl (fun ls hl => ?_)
          refine lv_aload_n hx hb dX0_readAbove_151 rfl (lv_at hl 5 rfl) ?_
          refine g_getk (C := RX0) (T := TX0) (N := 14) hx hb hts (mc_ inX0) hown hK g rfl 1 (by decide) rfl (hts _ (List.mem_cons_of_mem _ t_374)) (fun _ h9 => h9) 7 rfl dX0_readAbove_152 ?_
          refine g_geti (C := RX5) (T := TX5) (N := 9) hx hb hts (mc_ inX5) hown hK g mq1_ kq1_ (by decide) rfl 7 (by decide) rfl (hts _ (List.mem_cons_of_mem _ t_343)) (fun _ h9 => h9) rfl dX0_readAbove_155 (fun x_54 bx_54 g => ?_)
          have kb_0 : bd 0 0 (0 : Int32) := ⟨by decide, by decide⟩
          refine lv_if_eq (tgt := 186) hx hb dX0_readAbove_158 (by decide) (fun c_55 => ?_) (fun c_55 => ?_)
          · have fc_55 := eq_f c_55
            have b_56 : bd 0 0 x_54 := eqX fc_55 bx_54 kb_0 (by decide)
            refine lv_aload_n hx hb dX0_readAbove_186 rfl (lv_at hl 5 rfl) ?_
            refine g_getk (C := RX0) (T := TX0) (N := 14) hx hb hts (mc_ inX0) hown hK g rfl 0 (by decide) rfl (hts _ (List.mem_cons_of_mem _ t_373)) (fun _ h9 => h9) 7 rfl dX0_readAbove_187 ?_
            have go_ := g
            refine g_calli (va_runV (As := []) (rest := []) ⟨hx, hb, hml, hown, hts⟩ (r_X8_kind l dC dI L kd tys fr_47 H.size g.2.2.2.1 q0_ mq0_ kq0_) (cwV 0 hts (gV_ t_1186 t_1119 t_1120 t_184 t_1121) rfl rfl rfl (by decide +kernel) ⟨(Nat.le_of_ble_eq_true rfl), (Nat.le_of_ble_eq_true rfl)⟩) (pre3V g hK mq0_ kq0_ (by decide) (q := (RX8, TX8, 10)) rfl) rfl rfl hl.1 rfl (lv_room (Nat.le_of_ble_eq_true rfl)) dX0_readAbove_190 ⟨(Nat.le_of_ble_eq_true rfl), (Nat.le_of_ble_eq_true rfl)⟩) g hK (by decide) (by decide) (fx' := [(5, 7, q1_, .int x_54), (9, 9, a_25, .ref a_52), (8, 6, q0_, .int x_48), (8, 8, q0_, .int y0_), (7, 0, q2_, .ref a_24), (7, 1, q2_, .int x_13), (9, 1, q3_, .int x_8), (0, 0, a0_, .ref q0_), (0, 1, a0_, .ref q1_), (0, 2, a0_, .ref q2_), (5, 1, q1_, .ref q3_)]) rfl (fun r_57 fr_57 H locs hp hMr_57 g => ?_)
            have hG_58 := eOK.frame hMr_57 go_.2.2.2.1 ma0_ ka0_ (by decide) (by decide) hG_51
            refine lv_bipush (v := 40) hx hb dX0_readAbove_193 (by decide) ?_
            have kb_40 : bd 40 40 (40 : Int32) := ⟨by decide, by decide⟩
            refine lv_icmp_eq (tgt := 214) hx hb dX0_readAbove_195 (by decide) (fun c_59 => ?_) (fun c_59 => ?_)
            · have fc_59 := eq_f c_59
              have b_60 : bd 40 40 r_57 := eqX fc_59 (bdT r_57) kb_40 (by decide)
              refine lv_aload_n hx hb dX0_readAbove_214 rfl (lv_at hl 5 rfl) ?_
              refine lv_iconst (v := 3) hx hb dX0_readAbove_215 (by decide) ?_
              refine lv_iload_n hx hb dX0_readAbove_216 rfl (lv_at hl 2 rfl) ?_
              refine lv_iload hx hb dX0_readAbove_217 (lv_at hl 0 rfl) ?_
              refine lv_aload_n hx hb dX0_readAbove_219 rfl (lv_at hl 5 rfl) ?_
              refine g_getk (C := RX0) (T := TX0) (N := 14) hx hb hts (mc_ inX0) hown hK g rfl 2 (by decide) rfl (hts _ (List.mem_cons_of_mem _ t_375)) (fun _ h9 => h9) 9 rfl dX0_readAbove_220 ?_
              refine g_getr (K := 137) (C := RX7) (T := TX7) (N := 19) hx hb hts (mc_ inX7) hown hK g mq2_ kq2_ (by decide) rfl 2 (by decide) rfl (hts _ (List.mem_cons_of_mem _ t_633)) (fun _ h9 => h9) rfl dX0_readAbove_223 (fun a_61 ma_61 ka_61 g => ?_)
              refine lv_iload hx hb dX0_readAbove_226 (lv_at hl 0 rfl) ?_
              refine g_aald hx hb hK g ma_61 ka_61 (by decide) rfl (by decide) (in_bd bx_53 (by decide)) dX0_readAbove_228 (fun a_62 ma_62 ua_62 wa_62 => ?_)
              have ka_62 : kd a_62 = 6 := by omega
              refine g_geti (C := RX6) (T := TX6) (N := 13) hx hb hts (mc_ inX6) hown hK g ma_62 ka_62 (by decide) rfl 3 (by decide) rfl (hts _ (List.mem_cons_of_mem _ t_564)) (fun _ h9 => h9) rfl dX0_readAbove_229 (fun x_63 bx_63 g => ?_)
              have go_ := g
              refine g_callv (va_runV (As := [.int 3, .int r_34, .int x_53, .int x_63]) (rest := []) ⟨hx, hb, hml, hown, hts⟩ (r_X0_openCall_4 l dC dI L kd tys fr_57 H.size g.2.2.2.1 a0_ ma0_ ka0_ 3 kb_3 r_34 x_53 bx_53 x_63 q0_ mq0_ kq0_ q2_ mq2_ kq2_ y0_ by0_ hG_58 (g.fcts [9, 11, 5] rfl)) (cwV 4 hts (gV_ t_1247 t_1249 t_23 t_190 t_1250) rfl rfl rfl (by decide +kernel) ⟨(Nat.le_of_ble_eq_true rfl), (Nat.le_of_ble_eq_true rfl)⟩) (pre3V g hK ma0_ ka0_ (by decide) (q := (RX0, TX0, 14)) rfl) rfl rfl hl.1 rfl (lv_room (Nat.le_of_ble_eq_true rfl)) dX0_readAbove_232 ⟨(Nat.le_of_ble_eq_true rfl), (Nat.le_of_ble_eq_true rfl)⟩) g hK (by decide) (by decide) (fx' := [(6, 3, a_62, .int x_63), (7, 2, q2_, .ref a_61), (5, 7, q1_, .int x_54), (9, 9, a_25, .ref a_52), (7, 0, q2_, .ref a_24), (7, 1, q2_, .int x_13), (9, 1, q3_, .int x_8), (0, 0, a0_, .ref q0_), (0, 1, a0_, .ref q1_), (0, 2, a0_, .ref q2_), (5, 1, q1_, .ref q3_)]) rfl (fun fr_64 H locs hp hMr_64 g => ?_)
              rcases hp with ⟨hG_65, x_66, h_67, x_68, h_69, hF_70⟩ | ⟨hG_71, x_72, h_73, hF_74⟩
              · have g := g.more hF_70
                subst hQ
                exact W.vret hx hb hr (fun t ht hW => ⟨⟨_, rfl, Or.inl ⟨hG_65, x_66, h_67, x_68, h_69, x_13, h_14, x_8, b_23, (g.fcts [0, 1, 2, 8, 9] rfl)⟩, q3_of g hK ht hW⟩, g.2.2.1.F ht⟩) g.2.2.1.2.2 dX0_readAbove_235
              · have g := g.more hF_74
                subst hQ
                exact W.vret hx hb hr (fun t ht hW => ⟨⟨_, rfl, Or.inr (⟨hG_71, x_72, h_73, (g.fcts [0, 1] rfl)⟩), q3_of g hK ht hW⟩, g.2.2.1.F ht⟩) g.2.2.1.2.2 dX0_readAbove_235
            · have fc_59 := neq_f c_59
              refine lv_aload_n hx hb dX0_readAbove_198 rfl (lv_at hl 5 rfl) ?_
              refine g_getk (C := RX0) (T := TX0) (N := 14) hx hb hts (mc_ inX0) hown hK g rfl 0 (by decide) rfl (hts _ (List.mem_cons_of_mem _ t_373)) (fun _ h9 => h9) 7 rfl dX0_readAbove_199 ?_
              refine lv_iconst (v := 1) hx hb dX0_readAbove_202 (by decide) ?_
              refine lv_aload_n hx hb dX0_readAbove_203 rfl (lv_at hl 5 rfl) ?_
              refine g_getk (C := RX0) (T := TX0) (N := 14) hx hb hts (mc_ inX0) hown hK g rfl 0 (by decide) rfl (hts _ (List.mem_cons_of_mem _ t_373)) (fun _ h9 => h9) 7 rfl dX0_readAbove_204 ?_
              have go_ := g
              refine g_calli (va_runV (As := []) (rest := [.int 1, .ref q0_]) ⟨hx, hb, hml, hown, hts⟩ (r_X8_place l dC dI L kd tys fr_57 H.size g.2.2.2.1 q0_ mq0_ kq0_) (cwV 0 hts (gV_ t_1220 t_1111 t_1112 t_184 t_1113) rfl rfl rfl (by decide +kernel) ⟨(Nat.le_of_ble_eq_true rfl), (Nat.le_of_ble_eq_true rfl)⟩) (pre3V g hK mq0_ kq0_ (by decide) (q := (RX8, TX8, 10)) rfl) rfl rfl hl.1 rfl (lv_room (Nat.le_of_ble_eq_true rfl)) dX0_readAbove_207 ⟨(Nat.le_of_ble_eq_true rfl), (Nat.le_of_ble_eq_true rfl)⟩) g hK (by decide) (by decide) (fx' := [(5, 7, q1_, .int x_54), (9, 9, a_25, .ref a_52), (8, 6, q0_, .int x_48), (8, 8, q0_, .int y0_), (7, 0, q2_, .ref a_24), (7, 1, q2_, .int x_13), (9, 1, q3_, .int x_8), (0, 0, a0_, .ref q0_), (0, 1, a0_, .ref q1_), (0, 2, a0_, .ref q2_), (5, 1, q1_, .ref q3_)]) rfl (fun r_75 fr_75 H locs hp hMr_75 g => ?_)
              have hG_76 := eOK.frame hMr_75 go_.2.2.2.1 ma0_ ka0_ (by decide) (by decide) hG_58
              have kb_1 : bd 1 1 (1 : Int32) := ⟨by decide, by decide⟩
              have go_ := g
              refine g_callv (va_runV (As := [.int 1, .int r_75]) (rest := []) ⟨hx, hb, hml, hown, hts⟩ (r_X8_fail l dC dI L kd tys fr_75 H.size g.2.2.2.1 q0_ mq0_ kq0_ 1 (bd_sub kb_1 (by decide)) r_75 y0_ by0_ (g.fcts [3] rfl)) (cwV 2 hts (gV_ t_1215 t_1107 t_1108 t_184 t_1109) rfl rfl rfl (by decide +kernel) ⟨(Nat.le_of_ble_eq_true rfl), (Nat.le_of_ble_eq_true rfl)⟩) (pre3V g hK mq0_ kq0_ (by decide) (q := (RX8, TX8, 10)) rfl) rfl rfl hl.1 rfl (lv_room (Nat.le_of_ble_eq_true rfl)) dX0_readAbove_210 ⟨(Nat.le_of_ble_eq_true rfl), (Nat.le_of_ble_eq_true rfl)⟩) g hK (by decide) (by decide) (fx' := [(5, 7, q1_, .int x_54), (9, 9, a_25, .ref a_52), (7, 0, q2_, .ref a_24), (7, 1, q2_, .int x_13), (9, 1, q3_, .int x_8), (0, 0, a0_, .ref q0_), (0, 1, a0_, .ref q1_), (0, 2, a0_, .ref q2_), (5, 1, q1_, .ref q3_)]) rfl (fun fr_77 H locs hp hMr_77 g => ?_)
              obtain ⟨x_78, h_79, hF_80⟩ := hp
              have hG_81 := eOK.frame hMr_77 go_.2.2.2.1 ma0_ ka0_ (by decide) (by decide) hG_76
              have g := g.more hF_80
              subst hQ
              exact W.vret hx hb hr (fun t ht hW => ⟨⟨_, rfl, Or.inr (⟨hG_81, x_78, h_79, (g.fcts [0, 1] rfl)⟩), q3_of g hK ht hW⟩, g.2.2.1.F ht⟩) g.2.2.1.2.2 dX0_readAbove_213
          · have fc_55 := neq_f c_55
            have b_82 : bd 1 1 x_54 := neX fc_55 bx_54 kb_0 (by decide)
            refine lv_aload_n hx hb dX0_readAbove_161 rfl (lv_at hl 5 rfl) ?_
            refine g_getk (C := RX0) (T := TX0) (N := 14) hx hb hts (mc_ inX0) hown hK g rfl 2 (by decide) rfl (hts _ (List.mem_cons_of_mem _ t_375)) (fun _ h9 => h9) 9 rfl dX0_readAbove_162 ?_
            refine g_getr (K := 137) (C := RX7) (T := TX7) (N := 19) hx hb hts (mc_ inX7) hown hK g mq2_ kq2_ (by decide) rfl 2 (by decide) rfl (hts _ (List.mem_cons_of_mem _ t_633)) (fun _ h9 => h9) rfl dX0_readAbove_165 (fun a_83 ma_83 ka_83 g => ?_)
            refine lv_iload hx hb dX0_readAbove_168 (lv_at hl 0 rfl) ?_
            refine g_aald hx hb hK g ma_83 ka_83 (by decide) rfl (by decide) (in_bd bx_53 (by decide)) dX0_readAbove_170 (fun a_84 ma_84 ua_84 wa_84 => ?_)
            have ka_84 : kd a_84 = 6 := by omega
            refine g_geti (C := RX6) (T := TX6) (N := 13) hx hb hts (mc_ inX6) hown hK g ma_84 ka_84 (by decide) rfl 6 (by decide) rfl (hts _ (List.mem_cons_of_mem _ t_577)) (fun _ h9 => h9) rfl dX0_readAbove_171 (fun x_85 bx_85 g => ?_)
            refine lv_if_ne (tgt := 186) hx hb dX0_readAbove_174 (by decide) (fun c_86 => ?_) (fun c_86 => ?_)
            · have fc_86 := neq_f c_86
              have b_87 : bd 1 1 x_85 := neX fc_86 bx_85 kb_0 (by decide)
              refine lv_aload_n hx hb dX0_readAbove_186 rfl (lv_at hl 5 rfl) ?_
              refine g_getk (C := RX0) (T := TX0) (N := 14) hx hb hts (mc_ inX0) hown hK g rfl 0 (by decide) rfl (hts _ (List.mem_cons_of_mem _ t_373)) (fun _ h9 => h9) 9 rfl dX0_readAbove_187 ?_
              have go_ := g
              refine g_calli (va_runV (As := []) (rest := []) ⟨hx, hb, hml, hown, hts⟩ (r_X8_kind l dC dI L kd tys fr_47 H.size g.2.2.2.1 q0_ mq0_ kq0_) (cwV 0 hts (gV_ t_1186 t_1119 t_1120 t_184 t_1121) rfl rfl rfl (by decide +kernel) ⟨(Nat.le_of_ble_eq_true rfl), (Nat.le_of_ble_eq_true rfl)⟩) (pre3V g hK mq0_ kq0_ (by decide) (q := (RX8, TX8, 10)) rfl) rfl rfl hl.1 rfl (lv_room (Nat.le_of_ble_eq_true rfl)) dX0_readAbove_190 ⟨(Nat.le_of_ble_eq_true rfl), (Nat.le_of_ble_eq_true rfl)⟩) g hK (by decide) (by decide) (fx' := [(6, 6, a_84, .int x_85), (7, 2, q2_, .ref a_83), (5, 7, q1_, .int x_54), (9, 9, a_25, .ref a_52), (8, 6, q0_, .int x_48), (8, 8, q0_, .int y0_), (7, 0, q2_, .ref a_24), (7, 1, q2_, .int x_13), (9, 1, q3_, .int x_8), (0, 0, a0_, .ref q0_), (0, 1, a0_, .ref q1_), (0, 2, a0_, .ref q2_), (5, 1, q1_, .ref q3_)]) rfl (fun r_88 fr_88 H locs hp hMr_88 g => ?_)
              have hG_89 := eOK.frame hMr_88 go_.2.2.2.1 ma0_ ka0_ (by decide) (by decide) hG_51
              refine lv_bipush (v := 40) hx hb dX0_readAbove_193 (by decide) ?_
              have kb_40 : bd 40 40 (40 : Int32) := ⟨by decide, by decide⟩
              refine lv_icmp_eq (tgt := 214) hx hb dX0_readAbove_195 (by decide) (fun c_90 => ?_) (fun c_90 => ?_)
              · have fc_90 := eq_f c_90
                have b_91 : bd 40 40 r_88 := eqX fc_90 (bdT r_88) kb_40 (by decide)
                refine lv_aload_n hx hb dX0_readAbove_214 rfl (lv_at hl 5 rfl) ?_
                refine lv_iconst (v := 3) hx hb dX0_readAbove_215 (by decide) ?_
                refine lv_iload_n hx hb dX0_readAbove_216 rfl (lv_at hl 2 rfl) ?_
                refine lv_iload hx hb dX0_readAbove_217 (lv_at hl 0 rfl) ?_
                refine lv_aload_n hx hb dX0_readAbove_219 rfl (lv_at hl 5 rfl) ?_
                refine g_getk (C := RX0) (T := TX0) (N := 14) hx hb hts (mc_ inX0) hown hK g rfl 2 (by decide) rfl (hts _ (List.mem_cons_of_mem _ t_375)) (fun _ h9 => h9) 11 rfl dX0_readAbove_220 ?_
                refine g_getk (C := RX7) (T := TX7) (N := 19) hx hb hts (mc_ inX7) hown hK g rfl 2 (by decide) rfl (hts _ (List.mem_cons_of_mem _ t_633)) (fun _ h9 => h9) 1 rfl dX0_readAbove_223 ?_
                refine lv_iload hx hb dX0_readAbove_226 (lv_at hl 0 rfl) ?_
                refine g_aald hx hb hK g ma_83 ka_83 (by decide) rfl (by decide) (in_bd bx_53 (by decide)) dX0_readAbove_228 (fun a_92 ma_92 ua_92 wa_92 => ?_)
                have ka_92 : kd a_92 = 6 := by omega
                refine g_geti (C := RX6) (T := TX6) (N := 13) hx hb hts (mc_ inX6) hown hK g ma_92 ka_92 (by decide) rfl 3 (by decide) rfl (hts _ (List.mem_cons_of_mem _ t_564)) (fun _ h9 => h9) rfl dX0_readAbove_229 (fun x_93 bx_93 g => ?_)
                have go_ := g
                refine g_callv (va_runV (As := [.int 3, .int r_34, .int x_53, .int x_93]) (rest := []) ⟨hx, hb, hml, hown, hts⟩ (r_X0_openCall_4 l dC dI L kd tys fr_88 H.size g.2.2.2.1 a0_ ma0_ ka0_ 3 kb_3 r_34 x_53 bx_53 x_93 q0_ mq0_ kq0_ q2_ mq2_ kq2_ y0_ by0_ hG_89 (g.fcts [10, 12, 6] rfl)) (cwV 4 hts (gV_ t_1247 t_1249 t_23 t_190 t_1250) rfl rfl rfl (by decide +kernel) ⟨(Nat.le_of_ble_eq_true rfl), (Nat.le_of_ble_eq_true rfl)⟩) (pre3V g hK ma0_ ka0_ (by decide) (q := (RX0, TX0, 14)) rfl) rfl rfl hl.1 rfl (lv_room (Nat.le_of_ble_eq_true rfl)) dX0_readAbove_232 ⟨(Nat.le_of_ble_eq_true rfl), (Nat.le_of_ble_eq_true rfl)⟩) g hK (by decide) (by decide) (fx' := [(6, 3, a_92, .int x_93), (6, 6, a_84, .int x_85), (7, 2, q2_, .ref a_83), (5, 7, q1_, .int x_54), (9, 9, a_25, .ref a_52), (7, 0, q2_, .ref a_24), (7, 1, q2_, .int x_13), (9, 1, q3_, .int x_8), (0, 0, a0_, .ref q0_), (0, 1, a0_, .ref q1_), (0, 2, a0_, .ref q2_), (5, 1, q1_, .ref q3_)]) rfl (fun fr_94 H locs hp hMr_94 g => ?_)
                rcases hp with ⟨hG_95, x_96, h_97, x_98, h_99, hF_100⟩ | ⟨hG_101, x_102, h_103, hF_104⟩
                · have g := g.more hF_100
                  subst hQ
                  exact W.vret hx hb hr (fun t ht hW => ⟨⟨_, rfl, Or.inl ⟨hG_95, x_96, h_97, x_98, h_99, x_13, h_14, x_8, b_23, (g.fcts [0, 1, 2, 9, 10] rfl)⟩, q3_of g hK ht hW⟩, g.2.2.1.F ht⟩) g.2.2.1.2.2 dX0_readAbove_235
                · have g := g.more hF_104
                  subst hQ
                  exact W.vret hx hb hr (fun t ht hW => ⟨⟨_, rfl, Or.inr (⟨hG_101, x_102, h_103, (g.fcts [0, 1] rfl)⟩), q3_of g hK ht hW⟩, g.2.2.1.F ht⟩) g.2.2.1.2.2 dX0_readAbove_235
              · have fc_90 := neq_f c_90
                refine lv_aload_n hx hb dX0_readAbove_198 rfl (lv_at hl 5 rfl) ?_
                refine g_getk (C := RX0) (T := TX0) (N := 14) hx hb hts (mc_ inX0) hown hK g rfl 0 (by decide) rfl (hts _ (List.mem_cons_of_mem _ t_373)) (fun _ h9 => h9) 9 rfl dX0_readAbove_199 ?_
                refine lv_iconst (v := 1) hx hb dX0_readAbove_202 (by decide) ?_
                refine lv_aload_n hx hb dX0_readAbove_203 rfl (lv_at hl 5 rfl) ?_
                refine g_getk (C := RX0) (T := TX0) (N := 14) hx hb hts (mc_ inX0) hown hK g rfl 0 (by decide) rfl (hts _ (List.mem_cons_of_mem _ t_373)) (fun _ h9 => h9) 9 rfl dX0_readAbove_204 ?_
                have go_ := g
                refine g_calli (va_runV (As := []) (rest := [.int 1, .ref q0_]) ⟨hx, hb, hml, hown, hts⟩ (r_X8_place l dC dI L kd tys fr_88 H.size g.2.2.2.1 q0_ mq0_ kq0_) (cwV 0 hts (gV_ t_1220 t_1111 t_1112 t_184 t_1113) rfl rfl rfl (by decide +kernel) ⟨(Nat.le_of_ble_eq_true rfl), (Nat.le_of_ble_eq_true rfl)⟩) (pre3V g hK mq0_ kq0_ (by decide) (q := (RX8, TX8, 10)) rfl) rfl rfl hl.1 rfl (lv_room (Nat.le_of_ble_eq_true rfl)) dX0_readAbove_207 ⟨(Nat.le_of_ble_eq_true rfl), (Nat.le_of_ble_eq_true rfl)⟩) g hK (by decide) (by decide) (fx' := [(6, 6, a_84, .int x_85), (7, 2, q2_, .ref a_83), (5, 7, q1_, .int x_54), (9, 9, a_25, .ref a_52), (8, 6, q0_, .int x_48), (8, 8, q0_, .int y0_), (7, 0, q2_, .ref a_24), (7, 1, q2_, .int x_13), (9, 1, q3_, .int x_8), (0, 0, a0_, .ref q0_), (0, 1, a0_, .ref q1_), (0, 2, a0_, .ref q2_), (5, 1, q1_, .ref q3_)]) rfl (fun r_105 fr_105 H locs hp hMr_105 g => ?_)
                have hG_106 := eOK.frame hMr_105 go_.2.2.2.1 ma0_ ka0_ (by decide) (by decide) hG_89
                have kb_1 : bd 1 1 (1 : Int32) := ⟨by decide, by decide⟩
                have go_ := g
                refine g_callv (va_runV (As := [.int 1, .int r_105]) (rest := []) ⟨hx, hb, hml, hown, hts⟩ (r_X8_fail l dC dI L kd tys fr_105 H.size g.2.2.2.1 q0_ mq0_ kq0_ 1 (bd_sub kb_1 (by decide)) r_105 y0_ by0_ (g.fcts [5] rfl)) (cwV 2 hts (gV_ t_1215 t_1107 t_1108 t_184 t_1109) rfl rfl rfl (by decide +kernel) ⟨(Nat.le_of_ble_eq_true rfl), (Nat.le_of_ble_eq_true rfl)⟩) (pre3V g hK mq0_ kq0_ (by decide) (q := (RX8, TX8, 10)) rfl) rfl rfl hl.1 rfl (lv_room (Nat.le_of_ble_eq_true rfl)) dX0_readAbove_210 ⟨(Nat.le_of_ble_eq_true rfl), (Nat.le_of_ble_eq_true rfl)⟩) g hK (by decide) (by decide) (fx' := [(6, 6, a_84, .int x_85), (7, 2, q2_, .ref a_83), (5, 7, q1_, .int x_54), (9, 9, a_25, .ref a_52), (7, 0, q2_, .ref a_24), (7, 1, q2_, .int x_13), (9, 1, q3_, .int x_8), (0, 0, a0_, .ref q0_), (0, 1, a0_, .ref q1_), (0, 2, a0_, .ref q2_), (5, 1, q1_, .ref q3_)]) rfl (fun fr_107 H locs hp hMr_107 g => ?_)
                obtain ⟨x_108, h_109, hF_110⟩ := hp
                have hG_111 := eOK.frame hMr_107 go_.2.2.2.1 ma0_ ka0_ (by decide) (by decide) hG_106
                have g := g.more hF_110
                subst hQ
                exact W.vret hx hb hr (fun t ht hW => ⟨⟨_, rfl, Or.inr (⟨hG_111, x_108, h_109, (g.fcts [0, 1] rfl)⟩), q3_of g hK ht hW⟩, g.2.2.1.F ht⟩) g.2.2.1.2.2 dX0_readAbove_213
            · have fc_86 := eq_f c_86
              have b_112 : bd 0 0 x_85 := eqX fc_86 bx_85 kb_0 (by decide)
              refine lv_aload_n hx hb dX0_readAbove_177 rfl (lv_at hl 5 rfl) ?_
              refine g_getk (C := RX0) (T := TX0) (N := 14) hx hb hts (mc_ inX0) hown hK g rfl 0 (by decide) rfl (hts _ (List.mem_cons_of_mem _ t_373)) (fun _ h9 => h9) 9 rfl dX0_readAbove_178 ?_
              refine lv_iconst (v := 5) hx hb dX0_readAbove_181 (by decide) ?_
              refine lv_iload_n hx hb dX0_readAbove_182 rfl (lv_at hl 2 rfl) ?_
              have kb_5 : bd 5 5 (5 : Int32) := ⟨by decide, by decide⟩
              have go_ := g
              refine g_callv (va_runV (As := [.int 5, .int r_34]) (rest := []) ⟨hx, hb, hml, hown, hts⟩ (r_X8_fail l dC dI L kd tys fr_47 H.size g.2.2.2.1 q0_ mq0_ kq0_ 5 (bd_sub kb_5 (by decide)) r_34 y0_ by0_ (g.fcts [5] rfl)) (cwV 2 hts (gV_ t_1215 t_1107 t_1108 t_184 t_1109) rfl rfl rfl (by decide +kernel) ⟨(Nat.le_of_ble_eq_true rfl), (Nat.le_of_ble_eq_true rfl)⟩) (pre3V g hK mq0_ kq0_ (by decide) (q := (RX8, TX8, 10)) rfl) rfl rfl hl.1 rfl (lv_room (Nat.le_of_ble_eq_true rfl)) dX0_readAbove_183 ⟨(Nat.le_of_ble_eq_true rfl), (Nat.le_of_ble_eq_true rfl)⟩) g hK (by decide) (by decide) (fx' := [(6, 6, a_84, .int x_85), (7, 2, q2_, .ref a_83), (5, 7, q1_, .int x_54), (9, 9, a_25, .ref a_52), (7, 0, q2_, .ref a_24), (7, 1, q2_, .int x_13), (9, 1, q3_, .int x_8), (0, 0, a0_, .ref q0_), (0, 1, a0_, .ref q1_), (0, 2, a0_, .ref q2_), (5, 1, q1_, .ref q3_)]) rfl (fun fr_113 H locs hp hMr_113 g => ?_)
              obtain ⟨x_114, h_115, hF_116⟩ := hp
              have hG_117 := eOK.frame hMr_113 go_.2.2.2.1 ma0_ ka0_ (by decide) (by decide) hG_51
              have g := g.more hF_116
              refine lv_aload_n hx hb dX0_readAbove_186 rfl (lv_at hl 5 rfl) ?_
              refine g_getk (C := RX0) (T := TX0) (N := 14) hx hb hts (mc_ inX0) hown hK g rfl 0 (by decide) rfl (hts _ (List.mem_cons_of_mem _ t_373)) (fun _ h9 => h9) 9 rfl dX0_readAbove_187 ?_
              have kb_1201 : bd 1201 1201 (1201 : Int32) := ⟨by decide, by decide⟩
              have go_ := g
              refine g_calli (va_runV (As := []) (rest := []) ⟨hx, hb, hml, hown, hts⟩ (r_X8_kind_2 l dC dI L kd tys fr_113 H.size g.2.2.2.1 q0_ mq0_ kq0_ 1201 kb_1201 (g.fcts [0] rfl)) (cwV 0 hts (gV_ t_1186 t_1119 t_1120 t_184 t_1121) rfl rfl rfl (by decide +kernel) ⟨(Nat.le_of_ble_eq_true rfl), (Nat.le_of_ble_eq_true rfl)⟩) (pre3V g hK mq0_ kq0_ (by decide) (q := (RX8, TX8, 10)) rfl) rfl rfl hl.1 rfl (lv_room (Nat.le_of_ble_eq_true rfl)) dX0_readAbove_190 ⟨(Nat.le_of_ble_eq_true rfl), (Nat.le_of_ble_eq_true rfl)⟩) g hK (by decide) (by decide) (fx' := [(8, 6, q0_, .int 1201), (8, 8, q0_, .int x_114), (6, 6, a_84, .int x_85), (7, 2, q2_, .ref a_83), (5, 7, q1_, .int x_54), (9, 9, a_25, .ref a_52), (7, 0, q2_, .ref a_24), (7, 1, q2_, .int x_13), (9, 1, q3_, .int x_8), (0, 0, a0_, .ref q0_), (0, 1, a0_, .ref q1_), (0, 2, a0_, .ref q2_), (5, 1, q1_, .ref q3_)]) rfl (fun r_118 fr_118 H locs hp hMr_118 g => ?_)
              obtain ⟨h_119, -⟩ := hp
              have hG_120 := eOK.frame hMr_118 go_.2.2.2.1 ma0_ ka0_ (by decide) (by decide) hG_117
              obtain rfl : r_118 = 0 := h_119
              refine lv_bipush (v := 40) hx hb dX0_readAbove_193 (by decide) ?_
              refine lv_icmp_eq (tgt := 214) hx hb dX0_readAbove_195 (by decide) (fun c_ => absurd c_ (by decide)) (fun c_ => ?_)
              refine lv_aload_n hx hb dX0_readAbove_198 rfl (lv_at hl 5 rfl) ?_
              refine g_getk (C := RX0) (T := TX0) (N := 14) hx hb hts (mc_ inX0) hown hK g rfl 0 (by decide) rfl (hts _ (List.mem_cons_of_mem _ t_373)) (fun _ h9 => h9) 9 rfl dX0_readAbove_199 ?_
              refine lv_iconst (v := 1) hx hb dX0_readAbove_202 (by decide) ?_
              refine lv_aload_n hx hb dX0_readAbove_203 rfl (lv_at hl 5 rfl) ?_
              refine g_getk (C := RX0) (T := TX0) (N := 14) hx hb hts (mc_ inX0) hown hK g rfl 0 (by decide) rfl (hts _ (List.mem_cons_of_mem _ t_373)) (fun _ h9 => h9) 9 rfl dX0_readAbove_204 ?_
              have go_ := g
              refine g_calli (va_runV (As := []) (rest := [.int 1, .ref q0_]) ⟨hx, hb, hml, hown, hts⟩ (r_X8_place l dC dI L kd tys fr_118 H.size g.2.2.2.1 q0_ mq0_ kq0_) (cwV 0 hts (gV_ t_1220 t_1111 t_1112 t_184 t_1113) rfl rfl rfl (by decide +kernel) ⟨(Nat.le_of_ble_eq_true rfl), (Nat.le_of_ble_eq_true rfl)⟩) (pre3V g hK mq0_ kq0_ (by decide) (q := (RX8, TX8, 10)) rfl) rfl rfl hl.1 rfl (lv_room (Nat.le_of_ble_eq_true rfl)) dX0_readAbove_207 ⟨(Nat.le_of_ble_eq_true rfl), (Nat.le_of_ble_eq_true rfl)⟩) g hK (by decide) (by decide) (fx' := [(8, 6, q0_, .int 1201), (8, 8, q0_, .int x_114), (6, 6, a_84, .int x_85), (7, 2, q2_, .ref a_83), (5, 7, q1_, .int x_54), (9, 9, a_25, .ref a_52), (7, 0, q2_, .ref a_24), (7, 1, q2_, .int x_13), (9, 1, q3_, .int x_8), (0, 0, a0_, .ref q0_), (0, 1, a0_, .ref q1_), (0, 2, a0_, .ref q2_), (5, 1, q1_, .ref q3_)]) rfl (fun r_121 fr_121 H locs hp hMr_121 g => ?_)
              have hG_122 := eOK.frame hMr_121 go_.2.2.2.1 ma0_ ka0_ (by decide) (by decide) hG_120
              have kb_1 : bd 1 1 (1 : Int32) := ⟨by decide, by decide⟩
              have go_ := g
              refine g_callv (va_runV (As := [.int 1, .int r_121]) (rest := []) ⟨hx, hb, hml, hown, hts⟩ (r_X8_fail_2 l dC dI L kd tys fr_121 H.size g.2.2.2.1 q0_ mq0_ kq0_ 1 (bd_sub kb_1 (by decide)) r_121 x_114 h_115 (g.fcts [1] rfl)) (cwV 2 hts (gV_ t_1215 t_1107 t_1108 t_184 t_1109) rfl rfl rfl (by decide +kernel) ⟨(Nat.le_of_ble_eq_true rfl), (Nat.le_of_ble_eq_true rfl)⟩) (pre3V g hK mq0_ kq0_ (by decide) (q := (RX8, TX8, 10)) rfl) rfl rfl hl.1 rfl (lv_room (Nat.le_of_ble_eq_true rfl)) dX0_readAbove_210 ⟨(Nat.le_of_ble_eq_true rfl), (Nat.le_of_ble_eq_true rfl)⟩) g hK (by decide) (by decide) (fx' := [(8, 8, q0_, .int x_114), (6, 6, a_84, .int x_85), (7, 2, q2_, .ref a_83), (5, 7, q1_, .int x_54), (9, 9, a_25, .ref a_52), (7, 0, q2_, .ref a_24), (7, 1, q2_, .int x_13), (9, 1, q3_, .int x_8), (0, 0, a0_, .ref q0_), (0, 1, a0_, .ref q1_), (0, 2, a0_, .ref q2_), (5, 1, q1_, .ref q3_)]) rfl (fun fr_123 H locs hp hMr_123 g => ?_)
              have hF_124 := hp
              have hG_125 := eOK.frame hMr_123 go_.2.2.2.1 ma0_ ka0_ (by decide) (by decide) hG_122
              have g := g.more hF_124
              subst hQ
              exact W.vret hx hb hr (fun t ht hW => ⟨⟨_, rfl, Or.inr (⟨hG_125, x_114, h_115, (g.fcts [0, 1] rfl)⟩), q3_of g hK ht hW⟩, g.2.2.1.F ht⟩) g.2.2.1.2.2 dX0_readAbove_213
        · have fc_45 := eq_f c_45
          have b_126 : bd (-1) (-1) r_42 := eqX fc_45 h_43 kb_m1 (by decide)
          refine lv_aload_n hx hb dX0_readAbove_125 rfl (lv_at hl 4 rfl) ?_
          refine g_getk (C := RX0) (T := TX0) (N := 14) hx hb hts (mc_ inX0) hown hK g rfl 0 (by decide) rfl (hts _ (List.mem_cons_of_mem _ t_373)) (fun _ h9 => h9) 5 rfl dX0_readAbove_126 ?_
          refine lv_iconst (v := 2) hx hb dX0_readAbove_129 (by decide) ?_
          refine lv_iload_n hx hb dX0_readAbove_130 rfl (lv_at hl 1 rfl) ?_
          have kb_2 : bd 2 2 (2 : Int32) := ⟨by decide, by decide⟩
          have go_ := g
          refine g_callv (va_runV (As := [.int 2, .int r_34]) (rest := []) ⟨hx, hb, hml, hown, hts⟩ (r_X8_fail l dC dI L kd tys fr_42 H.size g.2.2.2.1 q0_ mq0_ kq0_ 2 (bd_sub kb_2 (by decide)) r_34 y0_ by0_ (g.fcts [1] rfl)) (cwV 2 hts (gV_ t_1215 t_1107 t_1108 t_184 t_1109) rfl rfl rfl (by decide +kernel) ⟨(Nat.le_of_ble_eq_true rfl), (Nat.le_of_ble_eq_true rfl)⟩) (pre3V g hK mq0_ kq0_ (by decide) (q := (RX8, TX8, 10)) rfl) rfl rfl hl.1 rfl (lv_room (Nat.le_of_ble_eq_true rfl)) dX0_readAbove_131 ⟨(Nat.le_of_ble_eq_true rfl), (Nat.le_of_ble_eq_true rfl)⟩) g hK (by decide) (by decide) (fx' := [(7, 0, q2_, .ref a_24), (7, 1, q2_, .int x_13), (9, 1, q3_, .int x_8), (0, 0, a0_, .ref q0_), (0, 1, a0_, .ref q1_), (0, 2, a0_, .ref q2_), (5, 1, q1_, .ref q3_)]) rfl (fun fr_127 H locs hp hMr_127 g => ?_)
          obtain ⟨x_128, h_129, hF_130⟩ := hp
          have hG_131 := eOK.frame hMr_127 go_.2.2.2.1 ma0_ ka0_ (by decide) (by decide) hG_44
          have g := g.more hF_130
          subst hQ
          exact W.vret hx hb hr (fun t ht hW => ⟨⟨_, rfl, Or.inr (⟨hG_131, x_128, h_129, (g.fcts [0, 1] rfl)⟩), q3_of g hK ht hW⟩, g.2.2.1.F ht⟩) g.2.2.1.2.2 dX0_readAbove_134
      · have fc_38 := neq_f c_38
        refine lv_aload_n hx hb dX0_readAbove_92 rfl (lv_at hl 3 rfl) ?_
        refine g_getk (C := RX0) (T := TX0) (N := 14) hx hb hts (mc_ inX0) hown hK g rfl 0 (by decide) rfl (hts _ (List.mem_cons_of_mem _ t_373)) (fun _ h9 => h9) 5 rfl dX0_readAbove_93 ?_
        refine lv_iconst (v := 1) hx hb dX0_readAbove_96 (by decide) ?_
        refine lv_iload_n hx hb dX0_readAbove_97 rfl (lv_at hl 0 rfl) ?_
        have kb_1 : bd 1 1 (1 : Int32) := ⟨by decide, by decide⟩
        have go_ := g
        refine g_callv (va_runV (As := [.int 1, .int r_34]) (rest := []) ⟨hx, hb, hml, hown, hts⟩ (r_X8_fail l dC dI L kd tys fr_36 H.size g.2.2.2.1 q0_ mq0_ kq0_ 1 (bd_sub kb_1 (by decide)) r_34 y0_ by0_ (g.fcts [1] rfl)) (cwV 2 hts (gV_ t_1215 t_1107 t_1108 t_184 t_1109) rfl rfl rfl (by decide +kernel) ⟨(Nat.le_of_ble_eq_true rfl), (Nat.le_of_ble_eq_true rfl)⟩) (pre3V g hK mq0_ kq0_ (by decide) (q := (RX8, TX8, 10)) rfl) rfl rfl hl.1 rfl (lv_room (Nat.le_of_ble_eq_true rfl)) dX0_readAbove_98 ⟨(Nat.le_of_ble_eq_true rfl), (Nat.le_of_ble_eq_true rfl)⟩) g hK (by decide) (by decide) (fx' := [(7, 0, q2_, .ref a_24), (7, 1, q2_, .int x_13), (9, 1, q3_, .int x_8), (0, 0, a0_, .ref q0_), (0, 1, a0_, .ref q1_), (0, 2, a0_, .ref q2_), (5, 1, q1_, .ref q3_)]) rfl (fun fr_132 H locs hp hMr_132 g => ?_)
        obtain ⟨x_133, h_134, hF_135⟩ := hp
        have hG_136 := eOK.frame hMr_132 go_.2.2.2.1 ma0_ ka0_ (by decide) (by decide) hG_37
        have g := g.more hF_135
        subst hQ
        exact W.vret hx hb hr (fun t ht hW => ⟨⟨_, rfl, Or.inr (⟨hG_136, x_133, h_134, (g.fcts [0, 1] rfl)⟩), q3_of g hK ht hW⟩, g.2.2.1.F ht⟩) g.2.2.1.2.2 dX0_readAbove_101
    · have hG_137 := eOK.frame hMr_26 go_.2.2.2.1 ma0_ ka0_ (by decide) (by decide) hG_22
      have g := g.more hF_32
      refine lv_aload_n hx hb dX0_readAbove_73 rfl (lv_at hl 2 rfl) ?_
      refine g_getk (C := RX0) (T := TX0) (N := 14) hx hb hts (mc_ inX0) hown hK g rfl 0 (by decide) rfl (hts _ (List.mem_cons_of_mem _ t_373)) (fun _ h9 => h9) 5 rfl dX0_readAbove_74 ?_
      have go_ := g
      refine g_calli (va_runV (As := []) (rest := []) ⟨hx, hb, hml, hown, hts⟩ (r_X8_place l dC dI L kd tys fr_26 H.size g.2.2.2.1 q0_ mq0_ kq0_) (cwV 0 hts (gV_ t_1220 t_1111 t_1112 t_184 t_1113) rfl rfl rfl (by decide +kernel) ⟨(Nat.le_of_ble_eq_true rfl), (Nat.le_of_ble_eq_true rfl)⟩) (pre3V g hK mq0_ kq0_ (by decide) (q := (RX8, TX8, 10)) rfl) rfl rfl hl.1 rfl (lv_room (Nat.le_of_ble_eq_true rfl)) dX0_readAbove_77 ⟨(Nat.le_of_ble_eq_true rfl), (Nat.le_of_ble_eq_true rfl)⟩) g hK (by decide) (by decide) (fx' := [(8, 6, q0_, .int 1201), (8, 8, q0_, .int x_30), (7, 0, q2_, .ref a_24), (7, 1, q2_, .int x_13), (9, 1, q3_, .int x_8), (0, 0, a0_, .ref q0_), (0, 1, a0_, .ref q1_), (0, 2, a0_, .ref q2_), (5, 1, q1_, .ref q3_)]) rfl (fun r_138 fr_138 H locs hp hMr_138 g => ?_)
      have hG_139 := eOK.frame hMr_138 go_.2.2.2.1 ma0_ ka0_ (by decide) (by decide) hG_137
      refine lv_istore_n (lv' := [(3, .int r_138), (2, .ref a_25), (1, .int r_1), (0, .ref a0_)]) hx hb dX0_readAbove_80 rfl hl (by decide) rfl (fun ls hl => ?_)
      refine lv_aload_n hx hb dX0_readAbove_81 rfl (lv_at hl 3 rfl) ?_
      refine g_getk (C := RX0) (T := TX0) (N := 14) hx hb hts (mc_ inX0) hown hK g rfl 0 (by decide) rfl (hts _ (List.mem_cons_of_mem _ t_373)) (fun _ h9 => h9) 5 rfl dX0_readAbove_82 ?_
      have kb_1201 : bd 1201 1201 (1201 : Int32) := ⟨by decide, by decide⟩
      have go_ := g
      refine g_calli (va_runV (As := []) (rest := []) ⟨hx, hb, hml, hown, hts⟩ (r_X8_kind_2 l dC dI L kd tys fr_138 H.size g.2.2.2.1 q0_ mq0_ kq0_ 1201 kb_1201 (g.fcts [0] rfl)) (cwV 0 hts (gV_ t_1186 t_1119 t_1120 t_184 t_1121) rfl rfl rfl (by decide +kernel) ⟨(Nat.le_of_ble_eq_true rfl), (Nat.le_of_ble_eq_true rfl)⟩) (pre3V g hK mq0_ kq0_ (by decide) (q := (RX8, TX8, 10)) rfl) rfl rfl hl.1 rfl (lv_room (Nat.le_of_ble_eq_true rfl)) dX0_readAbove_85 ⟨(Nat.le_of_ble_eq_true rfl), (Nat.le_of_ble_eq_true rfl)⟩) g hK (by decide) (by decide) (fx' := [(8, 6, q0_, .int 1201), (8, 8, q0_, .int x_30), (7, 0, q2_, .ref a_24), (7, 1, q2_, .int x_13), (9, 1, q3_, .int x_8), (0, 0, a0_, .ref q0_), (0, 1, a0_, .ref q1_), (0, 2, a0_, .ref q2_), (5, 1, q1_, .ref q3_)]) rfl (fun r_140 fr_140 H locs hp hMr_140 g => ?_)
      obtain ⟨h_141, -⟩ := hp
      have hG_142 := eOK.frame hMr_140 go_.2.2.2.1 ma0_ ka0_ (by decide) (by decide) hG_139
      obtain rfl : r_140 = 0 := h_141
      refine lv_iconst (v := 3) hx hb dX0_readAbove_88 (by decide) ?_
      refine lv_icmp_eq (tgt := 102) hx hb dX0_readAbove_89 (by decide) (fun c_ => absurd c_ (by decide)) (fun c_ => ?_)
      refine lv_aload_n hx hb dX0_readAbove_92 rfl (lv_at hl 3 rfl) ?_
      refine g_getk (C := RX0) (T := TX0) (N := 14) hx hb hts (mc_ inX0) hown hK g rfl 0 (by decide) rfl (hts _ (List.mem_cons_of_mem _ t_373)) (fun _ h9 => h9) 5 rfl dX0_readAbove_93 ?_
      refine lv_iconst (v := 1) hx hb dX0_readAbove_96 (by decide) ?_
      refine lv_iload_n hx hb dX0_readAbove_97 rfl (lv_at hl 0 rfl) ?_
      have kb_1 : bd 1 1 (1 : Int32) := ⟨by decide, by decide⟩
      have go_ := g
      refine g_callv (va_runV (As := [.int 1, .int r_138]) (rest := []) ⟨hx, hb, hml, hown, hts⟩ (r_X8_fail_2 l dC dI L kd tys fr_140 H.size g.2.2.2.1 q0_ mq0_ kq0_ 1 (bd_sub kb_1 (by decide)) r_138 x_30 h_31 (g.fcts [1] rfl)) (cwV 2 hts (gV_ t_1215 t_1107 t_1108 t_184 t_1109) rfl rfl rfl (by decide +kernel) ⟨(Nat.le_of_ble_eq_true rfl), (Nat.le_of_ble_eq_true rfl)⟩) (pre3V g hK mq0_ kq0_ (by decide) (q := (RX8, TX8, 10)) rfl) rfl rfl hl.1 rfl (lv_room (Nat.le_of_ble_eq_true rfl)) dX0_readAbove_98 ⟨(Nat.le_of_ble_eq_true rfl), (Nat.le_of_ble_eq_true rfl)⟩) g hK (by decide) (by decide) (fx' := [(8, 8, q0_, .int x_30), (7, 0, q2_, .ref a_24), (7, 1, q2_, .int x_13), (9, 1, q3_, .int x_8), (0, 0, a0_, .ref q0_), (0, 1, a0_, .ref q1_), (0, 2, a0_, .ref q2_), (5, 1, q1_, .ref q3_)]) rfl (fun fr_143 H locs hp hMr_143 g => ?_)
      have hF_144 := hp
      have hG_145 := eOK.frame hMr_143 go_.2.2.2.1 ma0_ ka0_ (by decide) (by decide) hG_142
      have g := g.more hF_144
      subst hQ
      exact W.vret hx hb hr (fun t ht hW => ⟨⟨_, rfl, Or.inr (⟨hG_145, x_30, h_31, (g.fcts [0, 1] rfl)⟩), q3_of g hK ht hW⟩, g.2.2.1.F ht⟩) g.2.2.1.2.2 dX0_readAbove_101
set_option maxHeartbeats 4000000 in
set_option maxRecDepth 100000 in
theorem r_X0_openIndex_3 (l : Launch) (dC : Nat → ClassId) (dI : Nat → Nat → Nat) (L : List Nat) (kd : Nat → Nat) (tys : List (ClassId × FieldType)) (f0 : Nat → va_E) (sz : Nat) (hWT : WT L kd tys f0) (a0_ : Nat) (ma0_ : a0_ ∈ L) (ka0_ : kd a0_ = 0) (x1_ : Int32) (bx1_ : bd 4 4 x1_) (x2_ : Int32) (x3_ : Int32) (bx3_ : bd 0 9 x3_) (q0_ : Nat) (mq0_ : q0_ ∈ L) (kq0_ : kd q0_ = 8) (q1_ : Nat) (mq1_ : q1_ ∈ L) (kq1_ : kd q1_ = 5) (q2_ : Nat) (mq2_ : q2_ ∈ L) (kq2_ : kd q2_ = 9) (y0_ : Int32) (by0_ : bd 1 10 y0_) (y1_ : Int32) (by1_ : bd 0 0 y1_) (hGea0_ : eOK f0 a0_) (hfx : Fs L kd f0 [(0, 0, a0_, .ref q0_), (0, 1, a0_, .ref q1_), (5, 1, q1_, .ref q2_), (9, 2, q2_, .int y0_), (8, 8, q0_, .int y1_)]) : Met l yX0_openIndex (.code yX0_openIndex cX0_openIndex 4 none :: lw_g) ({ frames := 1, cells := 0, slots := 0, locals := 23 }) (va_Pc [.ref a0_, .int x1_, .int x2_, .int x3_] (P3 (dC, dI) L tys f0 sz)) (va_Qv (fun (f : Nat → va_E) => (eOK f a0_ ∧ ∃ z0_ : Int32, bd 1 1201 z0_ ∧ ∃ z1_ : Int32, bd (-2147483647) 40 z1_ ∧ ∃ z2_ : Int32, bd 1 300 z2_ ∧ Fs L kd f [(8, 6, q0_, .int z0_), (0, 11, a0_, .int z1_), (0, 8, a0_, .int z2_), (8, 8, q0_, .int y1_)]) ∨ (eOK f a0_ ∧ ∃ z0_ : Int32, bd 1 300 z0_ ∧ ∃ z2_ : Int32, bd 1 7 z2_ ∧ Fs L kd f [(0, 8, a0_, .int z0_), (8, 6, q0_, .int 1201), (8, 8, q0_, .int z2_)])) (Q3 (dC, dI) L kd tys [(0, 8), (0, 11), (8, 6), (8, 8), (8, 9)] [110, 111, 112, 113, 114] f0 sz) (pA L sz)) 0 0 (pA L sz) := by
  refine Met.ofW (cc := cX0_openIndex) (maxL := 4) (ret := none) (by decide) rfl ?_
  intro p e s m args below meth c s₁ B hml hv
  obtain ⟨rfl, hsz, hP, hK, hD0⟩ := hv
  have hx := B.exec
  have hb := B.bytes
  have hr := B.returns
  have hts := atoms_spec (ws := (.code yX0_openIndex cX0_openIndex 4 none :: lw_g)) B.pre
  have hown : s.vm.findClass RX0 = some m.cls := findClass_of_methodNamed B.named
  have hlocks := B.notSynchronized
  subst hsz
  have g : G3 (dC, dI) L kd tys s f0 [(0, 8), (0, 11), (8, 6), (8, 8), (8, 9)] [110, 111, 112, 113, 114] f0 s.heap [] [(0, 0, a0_, .ref q0_), (0, 1, a0_, .ref q1_), (5, 1, q1_, .ref q2_), (9, 2, q2_, .int y0_), (8, 8, q0_, .int y1_)] := G3.start hP hD0 hWT hfx
  have hl := lv_entry ([.ref a0_, .int x1_, .int x2_, .int x3_]) (n := 4) (Nat.le_of_ble_eq_true rfl)
  rw [lg_entry_eq]
  generalize (lg_sl ([.ref a0_, .int x1_, .int x2_, .int x3_]) ++ List.replicate (4 - (lg_sl ([.ref a0_, .int x1_, .int x2_, .int x3_])).length) Slot.unset).toArray = ls at hl ⊢
  have hl : lv_has ls 4 [(0, .ref a0_), (1, .int x1_), (2, .int x2_), (3, .int x3_)] := hl
  refine W_q (fun Q hQ => ?_)
  refine lv_aload_n hx hb dX0_openIndex_0 rfl (lv_at hl 0 rfl) ?_
  refine g_geti (C := RX0) (T := TX0) (N := 14) hx hb hts (mc_ inX0) hown hK g ma0_ ka0_ (by decide) rfl 11 (by decide) rfl (hts _ (List.mem_cons_of_mem _ t_384)) (fun _ h9 => h9) rfl dX0_openIndex_1 (fun x_1 bx_1 g => ?_)
  refine lv_bipush (v := 40) hx hb dX0_openIndex_4 (by decide) ?_
  have kb_40 : bd 40 40 (40 : Int32) := ⟨by decide, by decide⟩
  refine lv_icmp_lt (tgt := 24) hx hb dX0_openIndex_6 (by decide) (fun c_2 => ?_) (fun c_2 => ?_)
  · have fc_2 := lt_f c_2
    have b_3 : bd (-2147483648) 39 x_1 := ltL fc_2 (bdT x_1) kb_40 (by decide)
    refine lv_aload_n hx hb dX0_openIndex_24 rfl (lv_at hl 0 rfl) ?_
    refine lv_iload_n hx hb dX0_openIndex_25 rfl (lv_at hl 1 rfl) ?_
    refine lv_iload_n hx hb dX0_openIndex_26 rfl (lv_at hl 2 rfl) ?_
    refine lv_aload_n hx hb dX0_openIndex_27 rfl (lv_at hl 0 rfl) ?_
    refine g_getk (C := RX0) (T := TX0) (N := 14) hx hb hts (mc_ inX0) hown hK g rfl 1 (by decide) rfl (hts _ (List.mem_cons_of_mem _ t_374)) (fun _ h9 => h9) 2 rfl dX0_openIndex_28 ?_
    refine g_getk (C := RX5) (T := TX5) (N := 9) hx hb hts (mc_ inX5) hown hK g rfl 1 (by decide) rfl (hts _ (List.mem_cons_of_mem _ t_332)) (fun _ h9 => h9) 3 rfl dX0_openIndex_31 ?_
    refine lv_iload_n hx hb dX0_openIndex_34 rfl (lv_at hl 3 rfl) ?_
    have go_ := g
    refine g_calli (va_runV (As := [.int x3_]) (rest := [.int x2_, .int x1_, .ref a0_]) ⟨hx, hb, hml, hown, hts⟩ (r_X9_spanOf l dC dI L kd tys f0 s.heap.size g.2.2.2.1 q2_ mq2_ kq2_ x3_) (cwV 1 hts (gV_ t_1264 t_1265 t_1266 t_192 t_1267) rfl rfl rfl (by decide +kernel) ⟨(Nat.le_of_ble_eq_true rfl), (Nat.le_of_ble_eq_true rfl)⟩) (pre3V g hK mq2_ kq2_ (by decide) (q := (RX9, TX9, 13)) rfl) rfl rfl hl.1 rfl (lv_room (Nat.le_of_ble_eq_true rfl)) dX0_openIndex_35 ⟨(Nat.le_of_ble_eq_true rfl), (Nat.le_of_ble_eq_true rfl)⟩) g hK (by decide) (by decide) (fx' := [(0, 11, a0_, .int x_1), (0, 0, a0_, .ref q0_), (0, 1, a0_, .ref q1_), (5, 1, q1_, .ref q2_), (9, 2, q2_, .int y0_), (8, 8, q0_, .int y1_)]) rfl (fun r_4 fr_4 H locs hp hMr_4 g => ?_)
    obtain ⟨h_5, -⟩ := hp
    have hG_6 := eOK.frame hMr_4 go_.2.2.2.1 ma0_ ka0_ (by decide) (by decide) hGea0_
    obtain ⟨a_7, ma_7, ka_7, g⟩ := g_factr (K := 110) g ma0_ ka0_ (by decide) 3 rfl
    obtain ⟨a_8, ma_8, ka_8, g⟩ := g_factr (K := 112) g ma0_ ka0_ (by decide) 5 rfl
    have go_ := g
    refine g_callv (va_runV (As := [.int x1_, .int x2_, .int r_4]) (rest := []) ⟨hx, hb, hml, hown, hts⟩ (r_X0_push_2 l dC dI L kd tys fr_4 H.size g.2.2.2.1 a0_ ma0_ ka0_ x1_ x2_ r_4 a_7 ma_7 ka_7 a_8 ma_8 ka_8 hG_6 (erel_bd bx1_ h_5 (by decide)) (g.fcts [1, 0] rfl)) (cwV 3 hts (gV_ t_1221 t_1223 t_19 t_190 t_1224) rfl rfl rfl (by decide +kernel) ⟨(Nat.le_of_ble_eq_true rfl), (Nat.le_of_ble_eq_true rfl)⟩) (pre3V g hK ma0_ ka0_ (by decide) (q := (RX0, TX0, 14)) rfl) rfl rfl hl.1 rfl (lv_room (Nat.le_of_ble_eq_true rfl)) dX0_openIndex_38 ⟨(Nat.le_of_ble_eq_true rfl), (Nat.le_of_ble_eq_true rfl)⟩) g hK (by decide) (by decide) (fx' := [(0, 5, a0_, .ref a_8), (0, 3, a0_, .ref a_7), (0, 11, a0_, .int x_1), (0, 0, a0_, .ref q0_), (0, 1, a0_, .ref q1_), (5, 1, q1_, .ref q2_), (9, 2, q2_, .int y0_), (8, 8, q0_, .int y1_)]) rfl (fun fr_9 H locs hp hMr_9 g => ?_)
    obtain ⟨hG_10, x_11, h_12, hF_13⟩ := hp
    have g := g.more hF_13
    refine lv_aload_n hx hb dX0_openIndex_41 rfl (lv_at hl 0 rfl) ?_
    refine lv_dup hx hb dX0_openIndex_42 rfl ?_
    refine g_getk (C := RX0) (T := TX0) (N := 14) hx hb hts (mc_ inX0) hown hK g rfl 11 (by decide) rfl (hts _ (List.mem_cons_of_mem _ t_384)) (fun _ h9 => h9) 3 rfl dX0_openIndex_43 ?_
    refine lv_iconst (v := 1) hx hb dX0_openIndex_46 (by decide) ?_
    have kb_1 : bd 1 1 (1 : Int32) := ⟨by decide, by decide⟩
    refine lv_iadd hx hb dX0_openIndex_47 ?_
    refine lv_topi (fun y_14 ey_14 => ?_)
    have ty_14 := add_bd ey_14 b_3 kb_1 (by decide)
    have b_15 : bd (-2147483647) 40 y_14 := add_rg ty_14 b_3 kb_1 (by decide)
    have go_ := g
    refine g_put (C := RX0) (T := TX0) (N := 14) hx hb hts (mc_ inX0) tyX0 tyX0_ok nmX0 hown hK g ma0_ ka0_ (by decide) rfl 11 (by decide) (hts _ (List.mem_cons_of_mem _ t_384)) (fun _ h9 => h9) rfl rfl (okV_i (bd_sub b_15 (by decide))) rfl rfl (by decide) (Or.inr (Or.inl (by decide))) (fx' := [(0, 8, a0_, .int x_11), (0, 5, a0_, .ref a_8), (0, 3, a0_, .ref a_7), (0, 0, a0_, .ref q0_), (0, 1, a0_, .ref q1_), (5, 1, q1_, .ref q2_), (9, 2, q2_, .int y0_), (8, 8, q0_, .int y1_)]) rfl dX0_openIndex_48 (fun f H locs hM_16 g => ?_)
    have hG_17 := eOK.frame hM_16 go_.2.2.2.1 ma0_ ka0_ (by decide) (by decide) hG_10
    refine lv_aload_n hx hb dX0_openIndex_51 rfl (lv_at hl 0 rfl) ?_
    refine g_getk (C := RX0) (T := TX0) (N := 14) hx hb hts (mc_ inX0) hown hK g rfl 0 (by decide) rfl (hts _ (List.mem_cons_of_mem _ t_373)) (fun _ h9 => h9) 4 rfl dX0_openIndex_52 ?_
    have go_ := g
    refine g_callv (va_runV (As := []) (rest := []) ⟨hx, hb, hml, hown, hts⟩ (r_X8_next l dC dI L kd tys f H.size g.2.2.2.1 q0_ mq0_ kq0_) (cwV 0 hts (gV_ t_1225 t_1103 t_1104 t_184 t_1105) rfl rfl rfl (by decide +kernel) ⟨(Nat.le_of_ble_eq_true rfl), (Nat.le_of_ble_eq_true rfl)⟩) (pre3V g hK mq0_ kq0_ (by decide) (q := (RX8, TX8, 10)) rfl) rfl rfl hl.1 rfl (lv_room (Nat.le_of_ble_eq_true rfl)) dX0_openIndex_55 ⟨(Nat.le_of_ble_eq_true rfl), (Nat.le_of_ble_eq_true rfl)⟩) g hK (by decide) (by decide) (fx' := [(0, 11, a0_, .int y_14), (0, 8, a0_, .int x_11), (0, 5, a0_, .ref a_8), (0, 3, a0_, .ref a_7), (0, 0, a0_, .ref q0_), (0, 1, a0_, .ref q1_), (5, 1, q1_, .ref q2_), (9, 2, q2_, .int y0_), (8, 8, q0_, .int y1_)]) rfl (fun fr_18 H locs hp hMr_18 g => ?_)
    obtain ⟨x_19, h_20, hF_21⟩ := hp
    have hG_22 := eOK.frame hMr_18 go_.2.2.2.1 ma0_ ka0_ (by decide) (by decide) hG_17
    have g := g.more hF_21
    subst hQ
    exact W.vret hx hb hr (fun t ht hW => ⟨⟨_, rfl, Or.inl ⟨hG_22, x_19, h_20, y_14, b_15, x_11, h_12, (g.fcts [0, 1, 2, 9] rfl)⟩, q3_of g hK ht hW⟩, g.2.2.1.F ht⟩) g.2.2.1.2.2 dX0_openIndex_58
  · have fc_2 := nlt_f c_2
    have b_23 : bd 40 2147483647 x_1 := leR fc_2 kb_40 (bdT x_1) (by decide)
    refine lv_aload_n hx hb dX0_openIndex_9 rfl (lv_at hl 0 rfl) ?_
    refine g_getk (C := RX0) (T := TX0) (N := 14) hx hb hts (mc_ inX0) hown hK g rfl 0 (by decide) rfl (hts _ (List.mem_cons_of_mem _ t_373)) (fun _ h9 => h9) 1 rfl dX0_openIndex_10 ?_
    refine lv_iconst (v := 4) hx hb dX0_openIndex_13 (by decide) ?_
    refine lv_aload_n hx hb dX0_openIndex_14 rfl (lv_at hl 0 rfl) ?_
    refine g_getk (C := RX0) (T := TX0) (N := 14) hx hb hts (mc_ inX0) hown hK g rfl 0 (by decide) rfl (hts _ (List.mem_cons_of_mem _ t_373)) (fun _ h9 => h9) 1 rfl dX0_openIndex_15 ?_
    have go_ := g
    refine g_calli (va_runV (As := []) (rest := [.int 4, .ref q0_]) ⟨hx, hb, hml, hown, hts⟩ (r_X8_place l dC dI L kd tys f0 s.heap.size g.2.2.2.1 q0_ mq0_ kq0_) (cwV 0 hts (gV_ t_1220 t_1111 t_1112 t_184 t_1113) rfl rfl rfl (by decide +kernel) ⟨(Nat.le_of_ble_eq_true rfl), (Nat.le_of_ble_eq_true rfl)⟩) (pre3V g hK mq0_ kq0_ (by decide) (q := (RX8, TX8, 10)) rfl) rfl rfl hl.1 rfl (lv_room (Nat.le_of_ble_eq_true rfl)) dX0_openIndex_18 ⟨(Nat.le_of_ble_eq_true rfl), (Nat.le_of_ble_eq_true rfl)⟩) g hK (by decide) (by decide) (fx' := [(0, 11, a0_, .int x_1), (0, 0, a0_, .ref q0_), (0, 1, a0_, .ref q1_), (5, 1, q1_, .ref q2_), (9, 2, q2_, .int y0_), (8, 8, q0_, .int y1_)]) rfl (fun r_24 fr_24 H locs hp hMr_24 g => ?_)
    have hG_25 := eOK.frame hMr_24 go_.2.2.2.1 ma0_ ka0_ (by decide) (by decide) hGea0_
    have kb_4 : bd 4 4 (4 : Int32) := ⟨by decide, by decide⟩
    have go_ := g
    refine g_callv (va_runV (As := [.int 4, .int r_24]) (rest := []) ⟨hx, hb, hml, hown, hts⟩ (r_X8_fail l dC dI L kd tys fr_24 H.size g.2.2.2.1 q0_ mq0_ kq0_ 4 (bd_sub kb_4 (by decide)) r_24 y1_ by1_ (g.fcts [5] rfl)) (cwV 2 hts (gV_ t_1215 t_1107 t_1108 t_184 t_1109) rfl rfl rfl (by decide +kernel) ⟨(Nat.le_of_ble_eq_true rfl), (Nat.le_of_ble_eq_true rfl)⟩) (pre3V g hK mq0_ kq0_ (by decide) (q := (RX8, TX8, 10)) rfl) rfl rfl hl.1 rfl (lv_room (Nat.le_of_ble_eq_true rfl)) dX0_openIndex_21 ⟨(Nat.le_of_ble_eq_true rfl), (Nat.le_of_ble_eq_true rfl)⟩) g hK (by decide) (by decide) (fx' := [(0, 11, a0_, .int x_1), (0, 0, a0_, .ref q0_), (0, 1, a0_, .ref q1_), (5, 1, q1_, .ref q2_), (9, 2, q2_, .int y0_)]) rfl (fun fr_26 H locs hp hMr_26 g => ?_)
    obtain ⟨x_27, h_28, hF_29⟩ := hp
    have hG_30 := eOK.frame hMr_26 go_.2.2.2.1 ma0_ ka0_ (by decide) (by decide) hG_25
    have g := g.more hF_29
    refine lv_aload_n hx hb dX0_openIndex_24 rfl (lv_at hl 0 rfl) ?_
    refine lv_iload_n hx hb dX0_openIndex_25 rfl (lv_at hl 1 rfl) ?_
    refine lv_iload_n hx hb dX0_openIndex_26 rfl (lv_at hl 2 rfl) ?_
    refine lv_aload_n hx hb dX0_openIndex_27 rfl (lv_at hl 0 rfl) ?_
    refine g_getk (C := RX0) (T := TX0) (N := 14) hx hb hts (mc_ inX0) hown hK g rfl 1 (by decide) rfl (hts _ (List.mem_cons_of_mem _ t_374)) (fun _ h9 => h9) 4 rfl dX0_openIndex_28 ?_
    refine g_getk (C := RX5) (T := TX5) (N := 9) hx hb hts (mc_ inX5) hown hK g rfl 1 (by decide) rfl (hts _ (List.mem_cons_of_mem _ t_332)) (fun _ h9 => h9) 5 rfl dX0_openIndex_31 ?_
    refine lv_iload_n hx hb dX0_openIndex_34 rfl (lv_at hl 3 rfl) ?_
    have go_ := g
    refine g_calli (va_runV (As := [.int x3_]) (rest := [.int x2_, .int x1_, .ref a0_]) ⟨hx, hb, hml, hown, hts⟩ (r_X9_spanOf l dC dI L kd tys fr_26 H.size g.2.2.2.1 q2_ mq2_ kq2_ x3_) (cwV 1 hts (gV_ t_1264 t_1265 t_1266 t_192 t_1267) rfl rfl rfl (by decide +kernel) ⟨(Nat.le_of_ble_eq_true rfl), (Nat.le_of_ble_eq_true rfl)⟩) (pre3V g hK mq2_ kq2_ (by decide) (q := (RX9, TX9, 13)) rfl) rfl rfl hl.1 rfl (lv_room (Nat.le_of_ble_eq_true rfl)) dX0_openIndex_35 ⟨(Nat.le_of_ble_eq_true rfl), (Nat.le_of_ble_eq_true rfl)⟩) g hK (by decide) (by decide) (fx' := [(8, 6, q0_, .int 1201), (8, 8, q0_, .int x_27), (0, 11, a0_, .int x_1), (0, 0, a0_, .ref q0_), (0, 1, a0_, .ref q1_), (5, 1, q1_, .ref q2_), (9, 2, q2_, .int y0_)]) rfl (fun r_31 fr_31 H locs hp hMr_31 g => ?_)
    obtain ⟨h_32, -⟩ := hp
    have hG_33 := eOK.frame hMr_31 go_.2.2.2.1 ma0_ ka0_ (by decide) (by decide) hG_30
    obtain ⟨a_34, ma_34, ka_34, g⟩ := g_factr (K := 110) g ma0_ ka0_ (by decide) 3 rfl
    obtain ⟨a_35, ma_35, ka_35, g⟩ := g_factr (K := 112) g ma0_ ka0_ (by decide) 5 rfl
    have go_ := g
    refine g_callv (va_runV (As := [.int x1_, .int x2_, .int r_31]) (rest := []) ⟨hx, hb, hml, hown, hts⟩ (r_X0_push_2 l dC dI L kd tys fr_31 H.size g.2.2.2.1 a0_ ma0_ ka0_ x1_ x2_ r_31 a_34 ma_34 ka_34 a_35 ma_35 ka_35 hG_33 (erel_bd bx1_ h_32 (by decide)) (g.fcts [1, 0] rfl)) (cwV 3 hts (gV_ t_1221 t_1223 t_19 t_190 t_1224) rfl rfl rfl (by decide +kernel) ⟨(Nat.le_of_ble_eq_true rfl), (Nat.le_of_ble_eq_true rfl)⟩) (pre3V g hK ma0_ ka0_ (by decide) (q := (RX0, TX0, 14)) rfl) rfl rfl hl.1 rfl (lv_room (Nat.le_of_ble_eq_true rfl)) dX0_openIndex_38 ⟨(Nat.le_of_ble_eq_true rfl), (Nat.le_of_ble_eq_true rfl)⟩) g hK (by decide) (by decide) (fx' := [(0, 5, a0_, .ref a_35), (0, 3, a0_, .ref a_34), (8, 6, q0_, .int 1201), (8, 8, q0_, .int x_27), (0, 11, a0_, .int x_1), (0, 0, a0_, .ref q0_), (0, 1, a0_, .ref q1_), (5, 1, q1_, .ref q2_), (9, 2, q2_, .int y0_)]) rfl (fun fr_36 H locs hp hMr_36 g => ?_)
    obtain ⟨hG_37, x_38, h_39, hF_40⟩ := hp
    have g := g.more hF_40
    refine lv_aload_n hx hb dX0_openIndex_41 rfl (lv_at hl 0 rfl) ?_
    refine lv_dup hx hb dX0_openIndex_42 rfl ?_
    refine g_getk (C := RX0) (T := TX0) (N := 14) hx hb hts (mc_ inX0) hown hK g rfl 11 (by decide) rfl (hts _ (List.mem_cons_of_mem _ t_384)) (fun _ h9 => h9) 5 rfl dX0_openIndex_43 ?_
    refine lv_iconst (v := 1) hx hb dX0_openIndex_46 (by decide) ?_
    have kb_1 : bd 1 1 (1 : Int32) := ⟨by decide, by decide⟩
    refine lv_iadd hx hb dX0_openIndex_47 ?_
    refine lv_topi (fun y_41 ey_41 => ?_)
    have go_ := g
    refine g_put (C := RX0) (T := TX0) (N := 14) hx hb hts (mc_ inX0) tyX0 tyX0_ok nmX0 hown hK g ma0_ ka0_ (by decide) rfl 11 (by decide) (hts _ (List.mem_cons_of_mem _ t_384)) (fun _ h9 => h9) rfl rfl (okV_i (bdT y_41)) rfl rfl (by decide) (Or.inr (Or.inl (by decide))) (fx' := [(0, 8, a0_, .int x_38), (0, 5, a0_, .ref a_35), (0, 3, a0_, .ref a_34), (8, 6, q0_, .int 1201), (8, 8, q0_, .int x_27), (0, 0, a0_, .ref q0_), (0, 1, a0_, .ref q1_), (5, 1, q1_, .ref q2_), (9, 2, q2_, .int y0_)]) rfl dX0_openIndex_48 (fun f H locs hM_42 g => ?_)
    have hG_43 := eOK.frame hM_42 go_.2.2.2.1 ma0_ ka0_ (by decide) (by decide) hG_37
    refine lv_aload_n hx hb dX0_openIndex_51 rfl (lv_at hl 0 rfl) ?_
    refine g_getk (C := RX0) (T := TX0) (N := 14) hx hb hts (mc_ inX0) hown hK g rfl 0 (by decide) rfl (hts _ (List.mem_cons_of_mem _ t_373)) (fun _ h9 => h9) 6 rfl dX0_openIndex_52 ?_
    have kb_1201 : bd 1201 1201 (1201 : Int32) := ⟨by decide, by decide⟩
    have go_ := g
    refine g_callv (va_runV (As := []) (rest := []) ⟨hx, hb, hml, hown, hts⟩ (r_X8_next_2 l dC dI L kd tys f H.size g.2.2.2.1 q0_ mq0_ kq0_ 1201 kb_1201 (g.fcts [4] rfl)) (cwV 0 hts (gV_ t_1225 t_1103 t_1104 t_184 t_1105) rfl rfl rfl (by decide +kernel) ⟨(Nat.le_of_ble_eq_true rfl), (Nat.le_of_ble_eq_true rfl)⟩) (pre3V g hK mq0_ kq0_ (by decide) (q := (RX8, TX8, 10)) rfl) rfl rfl hl.1 rfl (lv_room (Nat.le_of_ble_eq_true rfl)) dX0_openIndex_55 ⟨(Nat.le_of_ble_eq_true rfl), (Nat.le_of_ble_eq_true rfl)⟩) g hK (by decide) (by decide) (fx' := [(0, 11, a0_, .int y_41), (0, 8, a0_, .int x_38), (0, 5, a0_, .ref a_35), (0, 3, a0_, .ref a_34), (8, 6, q0_, .int 1201), (8, 8, q0_, .int x_27), (0, 0, a0_, .ref q0_), (0, 1, a0_, .ref q1_), (5, 1, q1_, .ref q2_), (9, 2, q2_, .int y0_)]) rfl (fun fr_44 H locs hp hMr_44 g => ?_)
    have hG_45 := eOK.frame hMr_44 go_.2.2.2.1 ma0_ ka0_ (by decide) (by decide) hG_43
    subst hQ
    exact W.vret hx hb hr (fun t ht hW => ⟨⟨_, rfl, Or.inr (⟨hG_45, x_38, h_39, x_27, h_28, (g.fcts [1, 4, 5] rfl)⟩), q3_of g hK ht hW⟩, g.2.2.1.F ht⟩) g.2.2.1.2.2 dX0_openIndex_58
