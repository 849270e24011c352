set_option maxHeartbeats 4000000 in
set_option maxRecDepth 100000 in
theorem r_X2_refuseStatement (l : Launch) (dC : Nat → ClassId) (dI : Nat → Nat → Nat) (L : List Nat) (kd : Nat → Nat) (tys : List (ClassId × FieldType)) (f0 : Nat → va_E) (sz : Nat) (hWT : WT L kd tys f0) (a0_ : Nat) (ma0_ : a0_ ∈ L) (ka0_ : kd a0_ = 2) (q0_ : Nat) (mq0_ : q0_ ∈ L) (kq0_ : kd q0_ = 8) (q1_ : Nat) (mq1_ : q1_ ∈ L) (kq1_ : kd q1_ = 5) (q2_ : Nat) (mq2_ : q2_ ∈ L) (kq2_ : kd q2_ = 7) (q3_ : Nat) (mq3_ : q3_ ∈ L) (kq3_ : kd q3_ = 9) (q4_ : Nat) (mq4_ : q4_ ∈ L) (kq4_ : kd q4_ = 9) (y0_ : Int32) (by0_ : bd 0 0 y0_) (hfx : Fs L kd f0 [(2, 0, a0_, .ref q0_), (2, 1, a0_, .ref q1_), (2, 3, a0_, .ref q2_), (2, 4, a0_, .ref q3_), (5, 1, q1_, .ref q4_), (8, 8, q0_, .int y0_)]) : Met l yX2_refuseStatement (.code yX2_refuseStatement cX2_refuseStatement 5 none :: lw_g) ({ frames := 2, cells := 0, slots := 0, locals := 46 }) (va_Pc [.ref a0_] (P3 (dC, dI) L tys f0 sz)) (va_Qv (fun (f : Nat → va_E) => (∃ z1_ : Int32, bd 1 7 z1_ ∧ Fs L kd f [(8, 6, q0_, .int 1201), (8, 8, q0_, .int z1_)])) (Q3 (dC, dI) L kd tys [(8, 6), (8, 8), (8, 9)] [] f0 sz) (pA L sz)) 0 0 (pA L sz) := by
  refine Met.ofW (cc := cX2_refuseStatement) (maxL := 5) (ret := none) (by decide) rfl ?_
  intro p e s m args below meth c s₁ B hml hv
  obtain ⟨rfl, hsz, hP, hK, hD0⟩ := hv
  have hx := B.exec
  have hb := B.bytes
  have hr := B.returns
  have hts := atoms_spec (ws := (.code yX2_refuseStatement cX2_refuseStatement 5 none :: lw_g)) B.pre
  have hown : s.vm.findClass RX2 = some m.cls := findClass_of_methodNamed B.named
  have hlocks := B.notSynchronized
  subst hsz
  have g : G3 (dC, dI) L kd tys s f0 [(8, 6), (8, 8), (8, 9)] [] f0 s.heap [] [(2, 0, a0_, .ref q0_), (2, 1, a0_, .ref q1_), (2, 3, a0_, .ref q2_), (2, 4, a0_, .ref q3_), (5, 1, q1_, .ref q4_), (8, 8, q0_, .int y0_)] := G3.start hP hD0 hWT hfx
  have hl := lv_entry ([.ref a0_]) (n := 5) (Nat.le_of_ble_eq_true rfl)
  rw [lg_entry_eq]
  generalize (lg_sl ([.ref a0_]) ++ List.replicate (5 - (lg_sl ([.ref a0_])).length) Slot.unset).toArray = ls at hl ⊢
  have hl : lv_has ls 5 [(0, .ref a0_)] := hl
  refine W_q (fun Q hQ => ?_)
  refine lv_aload_n hx hb dX2_refuseStatement_0 rfl (lv_at hl 0 rfl) ?_
  refine g_getk (C := RX2) (T := TX2) (N := 16) hx hb hts (mc_ inX2) hown hK g rfl 0 (by decide) rfl (hts _ (List.mem_cons_of_mem _ t_416)) (fun _ h9 => h9) 0 rfl dX2_refuseStatement_1 ?_
  refine g_calli (va_runV (As := []) (rest := []) ⟨hx, hb, hml, hown, hts⟩ (r_X8_place l dC dI L kd tys f0 s.heap.size g.2.2.2.1 q0_ mq0_ kq0_) (cwV 0 hts (gV_ t_1110 t_1111 t_1112 t_184 t_1113) rfl rfl rfl (by decide +kernel) ⟨(Nat.le_of_ble_eq_true rfl), (Nat.le_of_ble_eq_true rfl)⟩) (pre3V g hK mq0_ kq0_ (by decide) (q := (RX8, TX8, 10)) rfl) rfl rfl hl.1 rfl (lv_room (Nat.le_of_ble_eq_true rfl)) dX2_refuseStatement_4 ⟨(Nat.le_of_ble_eq_true rfl), (Nat.le_of_ble_eq_true rfl)⟩) g hK (by decide) (by decide) (fx' := [(2, 0, a0_, .ref q0_), (2, 1, a0_, .ref q1_), (2, 3, a0_, .ref q2_), (2, 4, a0_, .ref q3_), (5, 1, q1_, .ref q4_), (8, 8, q0_, .int y0_)]) rfl (fun r_1 fr_1 H locs hp hMr_1 g => ?_)
  refine lv_istore_n (lv' := [(1, .int r_1), (0, .ref a0_)]) hx hb dX2_refuseStatement_7 rfl hl (by decide) rfl (fun ls hl => ?_)
  refine lv_aload_n hx hb dX2_refuseStatement_8 rfl (lv_at hl 1 rfl) ?_
  refine g_getk (C := RX2) (T := TX2) (N := 16) hx hb hts (mc_ inX2) hown hK g rfl 0 (by decide) rfl (hts _ (List.mem_cons_of_mem _ t_416)) (fun _ h9 => h9) 0 rfl dX2_refuseStatement_9 ?_
  refine g_calli (va_runV (As := []) (rest := []) ⟨hx, hb, hml, hown, hts⟩ (r_X8_kind l dC dI L kd tys fr_1 H.size g.2.2.2.1 q0_ mq0_ kq0_) (cwV 0 hts (gV_ t_1118 t_1119 t_1120 t_184 t_1121) rfl rfl rfl (by decide +kernel) ⟨(Nat.le_of_ble_eq_true rfl), (Nat.le_of_ble_eq_true rfl)⟩) (pre3V g hK mq0_ kq0_ (by decide) (q := (RX8, TX8, 10)) rfl) rfl rfl hl.1 rfl (lv_room (Nat.le_of_ble_eq_true rfl)) dX2_refuseStatement_12 ⟨(Nat.le_of_ble_eq_true rfl), (Nat.le_of_ble_eq_true rfl)⟩) g hK (by decide) (by decide) (fx' := [(2, 0, a0_, .ref q0_), (2, 1, a0_, .ref q1_), (2, 3, a0_, .ref q2_), (2, 4, a0_, .ref q3_), (5, 1, q1_, .ref q4_), (8, 8, q0_, .int y0_)]) rfl (fun r_2 fr_2 H locs hp hMr_2 g => ?_)
  refine lv_iconst (v := 3) hx hb dX2_refuseStatement_15 (by decide) ?_
  have kb_3 : bd 3 3 (3 : Int32) := ⟨by decide, by decide⟩
  refine lv_icmp_ne (tgt := 91) hx hb dX2_refuseStatement_16 (by decide) (fun c_3 => ?_) (fun c_3 => ?_)
  · have fc_3 := neq_f c_3
    refine lv_aload_n hx hb dX2_refuseStatement_91 rfl (lv_at hl 1 rfl) ?_
    refine g_getk (C := RX2) (T := TX2) (N := 16) hx hb hts (mc_ inX2) hown hK g rfl 0 (by decide) rfl (hts _ (List.mem_cons_of_mem _ t_416)) (fun _ h9 => h9) 0 rfl dX2_refuseStatement_92 ?_
    refine lv_iconst (v := 4) hx hb dX2_refuseStatement_95 (by decide) ?_
    refine lv_iload_n hx hb dX2_refuseStatement_96 rfl (lv_at hl 0 rfl) ?_
    have kb_4 : bd 4 4 (4 : Int32) := ⟨by decide, by decide⟩
    refine g_callv (va_runV (As := [.int 4, .int r_1]) (rest := []) ⟨hx, hb, hml, hown, hts⟩ (r_X8_fail l dC dI L kd tys fr_2 H.size g.2.2.2.1 q0_ mq0_ kq0_ 4 (bd_sub kb_4 (by decide)) r_1 y0_ by0_ (g.fcts [5] rfl)) (cwV 2 hts (gV_ t_1122 t_1107 t_1108 t_184 t_1109) rfl rfl rfl (by decide +kernel) ⟨(Nat.le_of_ble_eq_true rfl), (Nat.le_of_ble_eq_true rfl)⟩) (pre3V g hK mq0_ kq0_ (by decide) (q := (RX8, TX8, 10)) rfl) rfl rfl hl.1 rfl (lv_room (Nat.le_of_ble_eq_true rfl)) dX2_refuseStatement_97 ⟨(Nat.le_of_ble_eq_true rfl), (Nat.le_of_ble_eq_true rfl)⟩) g hK (by decide) (by decide) (fx' := [(2, 0, a0_, .ref q0_), (2, 1, a0_, .ref q1_), (2, 3, a0_, .ref q2_), (2, 4, a0_, .ref q3_), (5, 1, q1_, .ref q4_)]) rfl (fun fr_4 H locs hp hMr_4 g => ?_)
    obtain ⟨x_5, h_6, hF_7⟩ := hp
    have g := g.more hF_7
    subst hQ
    exact W.vret hx hb hr (fun t ht hW => ⟨⟨_, rfl, ⟨x_5, h_6, (g.fcts [0, 1] rfl)⟩, q3_of g hK ht hW⟩, g.2.2.1.F ht⟩) g.2.2.1.2.2 dX2_refuseStatement_100
  · have fc_3 := eq_f c_3
    have b_8 : bd 3 3 r_2 := eqX fc_3 (bdT r_2) kb_3 (by decide)
    refine lv_aload_n hx hb dX2_refuseStatement_19 rfl (lv_at hl 1 rfl) ?_
    refine g_getk (C := RX2) (T := TX2) (N := 16) hx hb hts (mc_ inX2) hown hK g rfl 0 (by decide) rfl (hts _ (List.mem_cons_of_mem _ t_416)) (fun _ h9 => h9) 0 rfl dX2_refuseStatement_20 ?_
    refine g_calll (va_runV (As := []) (rest := []) ⟨hx, hb, hml, hown, hts⟩ (r_X8_value l dC dI L kd tys fr_2 H.size g.2.2.2.1 q0_ mq0_ kq0_) (cwV 0 hts (gV_ t_1114 t_1115 t_1116 t_184 t_1117) rfl rfl rfl (by decide +kernel) ⟨(Nat.le_of_ble_eq_true rfl), (Nat.le_of_ble_eq_true rfl)⟩) (pre3V g hK mq0_ kq0_ (by decide) (q := (RX8, TX8, 10)) rfl) rfl rfl hl.1 rfl (lv_room (Nat.le_of_ble_eq_true rfl)) dX2_refuseStatement_23 ⟨(Nat.le_of_ble_eq_true rfl), (Nat.le_of_ble_eq_true rfl)⟩) g hK (by decide) (by decide) (fx' := [(2, 0, a0_, .ref q0_), (2, 1, a0_, .ref q1_), (2, 3, a0_, .ref q2_), (2, 4, a0_, .ref q3_), (5, 1, q1_, .ref q4_), (8, 8, q0_, .int y0_)]) rfl (fun r_9 fr_9 H locs hp hMr_9 g => ?_)
    refine lv_lstore_n (lv' := [(2, .long r_9), (1, .int r_1), (0, .ref a0_)]) hx hb dX2_refuseStatement_26 rfl hl (by decide) rfl (fun ls hl => ?_)
    refine lv_aload_n hx hb dX2_refuseStatement_27 rfl (lv_at hl 2 rfl) ?_
    refine g_getk (C := RX2) (T := TX2) (N := 16) hx hb hts (mc_ inX2) hown hK g rfl 0 (by decide) rfl (hts _ (List.mem_cons_of_mem _ t_416)) (fun _ h9 => h9) 0 rfl dX2_refuseStatement_28 ?_
    refine g_callv (va_runV (As := []) (rest := []) ⟨hx, hb, hml, hown, hts⟩ (r_X8_next l dC dI L kd tys fr_9 H.size g.2.2.2.1 q0_ mq0_ kq0_) (cwV 0 hts (gV_ t_1131 t_1103 t_1104 t_184 t_1105) rfl rfl rfl (by decide +kernel) ⟨(Nat.le_of_ble_eq_true rfl), (Nat.le_of_ble_eq_true rfl)⟩) (pre3V g hK mq0_ kq0_ (by decide) (q := (RX8, TX8, 10)) rfl) rfl rfl hl.1 rfl (lv_room (Nat.le_of_ble_eq_true rfl)) dX2_refuseStatement_31 ⟨(Nat.le_of_ble_eq_true rfl), (Nat.le_of_ble_eq_true rfl)⟩) g hK (by decide) (by decide) (fx' := [(2, 0, a0_, .ref q0_), (2, 1, a0_, .ref q1_), (2, 3, a0_, .ref q2_), (2, 4, a0_, .ref q3_), (5, 1, q1_, .ref q4_), (8, 8, q0_, .int y0_)]) rfl (fun fr_10 H locs hp hMr_10 g => ?_)
    obtain ⟨x_11, h_12, hF_13⟩ := hp
    have g := g.more hF_13
    refine lv_aload_n hx hb dX2_refuseStatement_34 rfl (lv_at hl 2 rfl) ?_
    refine g_getk (C := RX2) (T := TX2) (N := 16) hx hb hts (mc_ inX2) hown hK g rfl 0 (by decide) rfl (hts _ (List.mem_cons_of_mem _ t_416)) (fun _ h9 => h9) 1 rfl dX2_refuseStatement_35 ?_
    refine g_calli (va_runV (As := []) (rest := []) ⟨hx, hb, hml, hown, hts⟩ (r_X8_atBracket l dC dI L kd tys fr_10 H.size g.2.2.2.1 q0_ mq0_ kq0_) (cwV 0 hts (gV_ t_1358 t_1240 t_1241 t_184 t_1242) rfl rfl rfl (by decide +kernel) ⟨(Nat.le_of_ble_eq_true rfl), (Nat.le_of_ble_eq_true rfl)⟩) (pre3V g hK mq0_ kq0_ (by decide) (q := (RX8, TX8, 10)) rfl) rfl rfl hl.1 rfl (lv_room (Nat.le_of_ble_eq_true rfl)) dX2_refuseStatement_38 ⟨(Nat.le_of_ble_eq_true rfl), (Nat.le_of_ble_eq_true rfl)⟩) g hK (by decide) (by decide) (fx' := [(8, 6, q0_, .int x_11), (2, 0, a0_, .ref q0_), (2, 1, a0_, .ref q1_), (2, 3, a0_, .ref q2_), (2, 4, a0_, .ref q3_), (5, 1, q1_, .ref q4_), (8, 8, q0_, .int y0_)]) rfl (fun r_14 fr_14 H locs hp hMr_14 g => ?_)
    obtain ⟨h_15, -⟩ := hp
    have kb_0 : bd 0 0 (0 : Int32) := ⟨by decide, by decide⟩
    refine lv_if_eq (tgt := 59) hx hb dX2_refuseStatement_41 (by decide) (fun c_16 => ?_) (fun c_16 => ?_)
    · have fc_16 := eq_f c_16
      have b_17 : bd 0 0 r_14 := eqX fc_16 h_15 kb_0 (by decide)
      refine lv_aload_n hx hb dX2_refuseStatement_59 rfl (lv_at hl 2 rfl) ?_
      refine g_getk (C := RX2) (T := TX2) (N := 16) hx hb hts (mc_ inX2) hown hK g rfl 1 (by decide) rfl (hts _ (List.mem_cons_of_mem _ t_417)) (fun _ h9 => h9) 2 rfl dX2_refuseStatement_60 ?_
      refine lv_lload_n hx hb dX2_refuseStatement_63 rfl (lv_at hl 0 rfl) ?_
      refine g_calli (va_runV (As := [.long r_9]) (rest := []) ⟨hx, hb, hml, hown, hts⟩ (r_X5_placeNamed l dC dI L kd tys fr_14 H.size g.2.2.2.1 q1_ mq1_ kq1_ r_9 q4_ mq4_ kq4_ (g.fcts [5] rfl)) (cwV 1 hts (gV_ t_1317 t_1252 t_1253 t_189 t_1254) rfl rfl rfl (by decide +kernel) ⟨(Nat.le_of_ble_eq_true rfl), (Nat.le_of_ble_eq_true rfl)⟩) (pre3V g hK mq1_ kq1_ (by decide) (q := (RX5, TX5, 9)) rfl) rfl rfl hl.1 rfl (lv_room (Nat.le_of_ble_eq_true rfl)) dX2_refuseStatement_64 ⟨(Nat.le_of_ble_eq_true rfl), (Nat.le_of_ble_eq_true rfl)⟩) g hK (by decide) (by decide) (fx' := [(8, 6, q0_, .int x_11), (2, 0, a0_, .ref q0_), (2, 1, a0_, .ref q1_), (2, 3, a0_, .ref q2_), (2, 4, a0_, .ref q3_), (5, 1, q1_, .ref q4_), (8, 8, q0_, .int y0_)]) rfl (fun r_18 fr_18 H locs hp hMr_18 g => ?_)
      obtain ⟨h_19, -⟩ := hp
      refine lv_istore (lv' := [(4, .int r_18), (2, .long r_9), (1, .int r_1), (0, .ref a0_)]) hx hb dX2_refuseStatement_67 hl (by decide) rfl (fun ls hl => ?_)
      refine lv_aload_n hx hb dX2_refuseStatement_69 rfl (lv_at hl 3 rfl) ?_
      refine g_getk (C := RX2) (T := TX2) (N := 16) hx hb hts (mc_ inX2) hown hK g rfl 0 (by decide) rfl (hts _ (List.mem_cons_of_mem _ t_416)) (fun _ h9 => h9) 1 rfl dX2_refuseStatement_70 ?_
      refine lv_iload hx hb dX2_refuseStatement_73 (lv_at hl 0 rfl) ?_
      refine lv_iconst (v := (-1)) hx hb dX2_refuseStatement_75 (by decide) ?_
      have kb_m1 : bd (-1) (-1) ((-1) : Int32) := ⟨by decide, by decide⟩
      refine lv_icmp_ne (tgt := 83) hx hb dX2_refuseStatement_76 (by decide) (fun c_20 => ?_) (fun c_20 => ?_)
      · have fc_20 := neq_f c_20
        have b_21 : bd 0 26 r_18 := neX fc_20 h_19 kb_m1 (by decide)
        refine lv_iconst (v := 4) hx hb dX2_refuseStatement_83 (by decide) ?_
        refine lv_iload_n hx hb dX2_refuseStatement_84 rfl (lv_at hl 2 rfl) ?_
        have kb_4 : bd 4 4 (4 : Int32) := ⟨by decide, by decide⟩
        refine g_callv (va_runV (As := [.int 4, .int r_1]) (rest := []) ⟨hx, hb, hml, hown, hts⟩ (r_X8_fail l dC dI L kd tys fr_18 H.size g.2.2.2.1 q0_ mq0_ kq0_ 4 (bd_sub kb_4 (by decide)) r_1 y0_ by0_ (g.fcts [6] rfl)) (cwV 2 hts (gV_ t_1122 t_1107 t_1108 t_184 t_1109) rfl rfl rfl (by decide +kernel) ⟨(Nat.le_of_ble_eq_true rfl), (Nat.le_of_ble_eq_true rfl)⟩) (pre3V g hK mq0_ kq0_ (by decide) (q := (RX8, TX8, 10)) rfl) rfl rfl hl.1 rfl (lv_room (Nat.le_of_ble_eq_true rfl)) dX2_refuseStatement_85 ⟨(Nat.le_of_ble_eq_true rfl), (Nat.le_of_ble_eq_true rfl)⟩) g hK (by decide) (by decide) (fx' := [(2, 0, a0_, .ref q0_), (2, 1, a0_, .ref q1_), (2, 3, a0_, .ref q2_), (2, 4, a0_, .ref q3_), (5, 1, q1_, .ref q4_)]) rfl (fun fr_22 H locs hp hMr_22 g => ?_)
        obtain ⟨x_23, h_24, hF_25⟩ := hp
        have g := g.more hF_25
        refine lv_goto (tgt := 100) hx hb dX2_refuseStatement_88 (by decide) ?_
        subst hQ
        exact W.vret hx hb hr (fun t ht hW => ⟨⟨_, rfl, ⟨x_23, h_24, (g.fcts [0, 1] rfl)⟩, q3_of g hK ht hW⟩, g.2.2.1.F ht⟩) g.2.2.1.2.2 dX2_refuseStatement_100
      · have fc_20 := eq_f c_20
        have b_26 : bd (-1) (-1) r_18 := eqX fc_20 h_19 kb_m1 (by decide)
        refine lv_iconst (v := 2) hx hb dX2_refuseStatement_79 (by decide) ?_
        refine lv_goto (tgt := 84) hx hb dX2_refuseStatement_80 (by decide) ?_
        refine lv_iload_n hx hb dX2_refuseStatement_84 rfl (lv_at hl 2 rfl) ?_
        have kb_2 : bd 2 2 (2 : Int32) := ⟨by decide, by decide⟩
        refine g_callv (va_runV (As := [.int 2, .int r_1]) (rest := []) ⟨hx, hb, hml, hown, hts⟩ (r_X8_fail l dC dI L kd tys fr_18 H.size g.2.2.2.1 q0_ mq0_ kq0_ 2 (bd_sub kb_2 (by decide)) r_1 y0_ by0_ (g.fcts [6] rfl)) (cwV 2 hts (gV_ t_1122 t_1107 t_1108 t_184 t_1109) rfl rfl rfl (by decide +kernel) ⟨(Nat.le_of_ble_eq_true rfl), (Nat.le_of_ble_eq_true rfl)⟩) (pre3V g hK mq0_ kq0_ (by decide) (q := (RX8, TX8, 10)) rfl) rfl rfl hl.1 rfl (lv_room (Nat.le_of_ble_eq_true rfl)) dX2_refuseStatement_85 ⟨(Nat.le_of_ble_eq_true rfl), (Nat.le_of_ble_eq_true rfl)⟩) g hK (by decide) (by decide) (fx' := [(2, 0, a0_, .ref q0_), (2, 1, a0_, .ref q1_), (2, 3, a0_, .ref q2_), (2, 4, a0_, .ref q3_), (5, 1, q1_, .ref q4_)]) rfl (fun fr_27 H locs hp hMr_27 g => ?_)
        obtain ⟨x_28, h_29, hF_30⟩ := hp
        have g := g.more hF_30
        refine lv_goto (tgt := 100) hx hb dX2_refuseStatement_88 (by decide) ?_
        subst hQ
        exact W.vret hx hb hr (fun t ht hW => ⟨⟨_, rfl, ⟨x_28, h_29, (g.fcts [0, 1] rfl)⟩, q3_of g hK ht hW⟩, g.2.2.1.F ht⟩) g.2.2.1.2.2 dX2_refuseStatement_100
    · have fc_16 := neq_f c_16
      have b_31 : bd 1 1 r_14 := neX fc_16 h_15 kb_0 (by decide)
      refine lv_aload_n hx hb dX2_refuseStatement_44 rfl (lv_at hl 2 rfl) ?_
      refine g_getk (C := RX2) (T := TX2) (N := 16) hx hb hts (mc_ inX2) hown hK g rfl 3 (by decide) rfl (hts _ (List.mem_cons_of_mem _ t_419)) (fun _ h9 => h9) 3 rfl dX2_refuseStatement_45 ?_
      refine lv_aload_n hx hb dX2_refuseStatement_48 rfl (lv_at hl 2 rfl) ?_
      refine g_getk (C := RX2) (T := TX2) (N := 16) hx hb hts (mc_ inX2) hown hK g rfl 4 (by decide) rfl (hts _ (List.mem_cons_of_mem _ t_420)) (fun _ h9 => h9) 4 rfl dX2_refuseStatement_49 ?_
      refine lv_lload_n hx hb dX2_refuseStatement_52 rfl (lv_at hl 0 rfl) ?_
      refine g_calli (va_runV (As := [.ref q3_, .long r_9]) (rest := []) ⟨hx, hb, hml, hown, hts⟩ (r_X7_memberNamed l dC dI L kd tys fr_14 H.size g.2.2.2.1 q2_ mq2_ kq2_ q3_ mq3_ kq3_ r_9) (cwV 2 hts (gV_ t_1306 t_1244 t_1245 t_191 t_1246) rfl rfl rfl (by decide +kernel) ⟨(Nat.le_of_ble_eq_true rfl), (Nat.le_of_ble_eq_true rfl)⟩) (pre3V g hK mq2_ kq2_ (by decide) (q := (RX7, TX7, 19)) rfl) rfl rfl hl.1 rfl (lv_room (Nat.le_of_ble_eq_true rfl)) dX2_refuseStatement_53 ⟨(Nat.le_of_ble_eq_true rfl), (Nat.le_of_ble_eq_true rfl)⟩) g hK (by decide) (by decide) (fx' := [(8, 6, q0_, .int x_11), (2, 0, a0_, .ref q0_), (2, 1, a0_, .ref q1_), (2, 3, a0_, .ref q2_), (2, 4, a0_, .ref q3_), (5, 1, q1_, .ref q4_), (8, 8, q0_, .int y0_)]) rfl (fun r_32 fr_32 H locs hp hMr_32 g => ?_)
      obtain ⟨h_33, -⟩ := hp
      refine lv_goto (tgt := 67) hx hb dX2_refuseStatement_56 (by decide) ?_
      refine lv_istore (lv' := [(4, .int r_32), (2, .long r_9), (1, .int r_1), (0, .ref a0_)]) hx hb dX2_refuseStatement_67 hl (by decide) rfl (fun ls hl => ?_)
      refine lv_aload_n hx hb dX2_refuseStatement_69 rfl (lv_at hl 3 rfl) ?_
      refine g_getk (C := RX2) (T := TX2) (N := 16) hx hb hts (mc_ inX2) hown hK g rfl 0 (by decide) rfl (hts _ (List.mem_cons_of_mem _ t_416)) (fun _ h9 => h9) 1 rfl dX2_refuseStatement_70 ?_
      refine lv_iload hx hb dX2_refuseStatement_73 (lv_at hl 0 rfl) ?_
      refine lv_iconst (v := (-1)) hx hb dX2_refuseStatement_75 (by decide) ?_
      have kb_m1 : bd (-1) (-1) ((-1) : Int32) := ⟨by decide, by decide⟩
      refine lv_icmp_ne (tgt := 83) hx hb dX2_refuseStatement_76 (by decide) (fun c_34 => ?_) (fun c_34 => ?_)
      · have fc_34 := neq_f c_34
        have b_35 : bd 0 11 r_32 := neX fc_34 h_33 kb_m1 (by decide)
        refine lv_iconst (v := 4) hx hb dX2_refuseStatement_83 (by decide) ?_
        refine lv_iload_n hx hb dX2_refuseStatement_84 rfl (lv_at hl 2 rfl) ?_
        have kb_4 : bd 4 4 (4 : Int32) := ⟨by decide, by decide⟩
        refine g_callv (va_runV (As := [.int 4, .int r_1]) (rest := []) ⟨hx, hb, hml, hown, hts⟩ (r_X8_fail l dC dI L kd tys fr_32 H.size g.2.2.2.1 q0_ mq0_ kq0_ 4 (bd_sub kb_4 (by decide)) r_1 y0_ by0_ (g.fcts [6] rfl)) (cwV 2 hts (gV_ t_1122 t_1107 t_1108 t_184 t_1109) rfl rfl rfl (by decide +kernel) ⟨(Nat.le_of_ble_eq_true rfl), (Nat.le_of_ble_eq_true rfl)⟩) (pre3V g hK mq0_ kq0_ (by decide) (q := (RX8, TX8, 10)) rfl) rfl rfl hl.1 rfl (lv_room (Nat.le_of_ble_eq_true rfl)) dX2_refuseStatement_85 ⟨(Nat.le_of_ble_eq_true rfl), (Nat.le_of_ble_eq_true rfl)⟩) g hK (by decide) (by decide) (fx' := [(2, 0, a0_, .ref q0_), (2, 1, a0_, .ref q1_), (2, 3, a0_, .ref q2_), (2, 4, a0_, .ref q3_), (5, 1, q1_, .ref q4_)]) rfl (fun fr_36 H locs hp hMr_36 g => ?_)
        obtain ⟨x_37, h_38, hF_39⟩ := hp
        have g := g.more hF_39
        refine lv_goto (tgt := 100) hx hb dX2_refuseStatement_88 (by decide) ?_
        subst hQ
        exact W.vret hx hb hr (fun t ht hW => ⟨⟨_, rfl, ⟨x_37, h_38, (g.fcts [0, 1] rfl)⟩, q3_of g hK ht hW⟩, g.2.2.1.F ht⟩) g.2.2.1.2.2 dX2_refuseStatement_100
      · have fc_34 := eq_f c_34
        have b_40 : bd (-1) (-1) r_32 := eqX fc_34 h_33 kb_m1 (by decide)
        refine lv_iconst (v := 2) hx hb dX2_refuseStatement_79 (by decide) ?_
        refine lv_goto (tgt := 84) hx hb dX2_refuseStatement_80 (by decide) ?_
        refine lv_iload_n hx hb dX2_refuseStatement_84 rfl (lv_at hl 2 rfl) ?_
        have kb_2 : bd 2 2 (2 : Int32) := ⟨by decide, by decide⟩
        refine g_callv (va_runV (As := [.int 2, .int r_1]) (rest := []) ⟨hx, hb, hml, hown, hts⟩ (r_X8_fail l dC dI L kd tys fr_32 H.size g.2.2.2.1 q0_ mq0_ kq0_ 2 (bd_sub kb_2 (by decide)) r_1 y0_ by0_ (g.fcts [6] rfl)) (cwV 2 hts (gV_ t_1122 t_1107 t_1108 t_184 t_1109) rfl rfl rfl (by decide +kernel) ⟨(Nat.le_of_ble_eq_true rfl), (Nat.le_of_ble_eq_true rfl)⟩) (pre3V g hK mq0_ kq0_ (by decide) (q := (RX8, TX8, 10)) rfl) rfl rfl hl.1 rfl (lv_room (Nat.le_of_ble_eq_true rfl)) dX2_refuseStatement_85 ⟨(Nat.le_of_ble_eq_true rfl), (Nat.le_of_ble_eq_true rfl)⟩) g hK (by decide) (by decide) (fx' := [(2, 0, a0_, .ref q0_), (2, 1, a0_, .ref q1_), (2, 3, a0_, .ref q2_), (2, 4, a0_, .ref q3_), (5, 1, q1_, .ref q4_)]) rfl (fun fr_41 H locs hp hMr_41 g => ?_)
        obtain ⟨x_42, h_43, hF_44⟩ := hp
        have g := g.more hF_44
        refine lv_goto (tgt := 100) hx hb dX2_refuseStatement_88 (by decide) ?_
        subst hQ
        exact W.vret hx hb hr (fun t ht hW => ⟨⟨_, rfl, ⟨x_42, h_43, (g.fcts [0, 1] rfl)⟩, q3_of g hK ht hW⟩, g.2.2.1.F ht⟩) g.2.2.1.2.2 dX2_refuseStatement_100
set_option maxHeartbeats 4000000 in
set_option maxRecDepth 100000 in
theorem r_X2_closeBlock (l : Launch) (dC : Nat → ClassId) (dI : Nat → Nat → Nat) (L : List Nat) (kd : Nat → Nat) (tys : List (ClassId × FieldType)) (f0 : Nat → va_E) (sz : Nat) (hWT : WT L kd tys f0) (a0_ : Nat) (ma0_ : a0_ ∈ L) (ka0_ : kd a0_ = 2) (q0_ : Nat) (mq0_ : q0_ ∈ L) (kq0_ : kd q0_ = 8) (q1_ : Nat) (mq1_ : q1_ ∈ L) (kq1_ : kd q1_ = 7) (y0_ : Int32) (by0_ : bd 1 8 y0_) (y1_ : Int32) (by1_ : bd 0 0 y1_) (T_ : Nat) (J_ : Int32 → Prop) (hGba0_ : bJx f0 a0_) (hGcq1_ : cOK f0 q1_) (hGdq1_ : dOK L kd f0 q1_ T_) (hGsq1_ : jS f0 q1_ J_) (hfx : Fs L kd f0 [(2, 0, a0_, .ref q0_), (2, 3, a0_, .ref q1_), (2, 11, a0_, .int y0_), (8, 8, q0_, .int y1_)]) : Met l yX2_closeBlock (.code yX2_closeBlock cX2_closeBlock 4 none :: lw_g) ({ frames := 2, cells := 0, slots := 0, locals := 46 }) (va_Pc [.ref a0_] (P3 (dC, dI) L tys f0 sz)) (va_Qv (fun (f : Nat → va_E) => (bJx f a0_ ∧ cOK f q1_ ∧ dOK L kd f q1_ T_ ∧ jS f q1_ J_ ∧ ∃ z0_ : Int32, bd 1 1201 z0_ ∧ Fs L kd f [(8, 6, q0_, .int z0_), (8, 8, q0_, .int y1_)]) ∨ (bJx f a0_ ∧ cOK f q1_ ∧ dOK L kd f q1_ T_ ∧ jS f q1_ J_ ∧ ∃ z1_ : Int32, bd 1 7 z1_ ∧ Fs L kd f [(8, 6, q0_, .int 1201), (8, 8, q0_, .int z1_)])) (Q3 (dC, dI) L kd tys [(2, 11), (5, 6), (7, 6), (8, 6), (8, 8), (8, 9)] [118, 119, 120, 121, 138, 139] f0 sz) (pA L sz)) 0 0 (pA L sz) := by
  refine Met.ofW (cc := cX2_closeBlock) (maxL := 4) (ret := none) (by decide) rfl ?_
  intro p e s m args below meth c s₁ B hml hv
  obtain ⟨rfl, hsz, hP, hK, hD0⟩ := hv
  have hx := B.exec
  have hb := B.bytes
  have hr := B.returns
  have hts := atoms_spec (ws := (.code yX2_closeBlock cX2_closeBlock 4 none :: lw_g)) B.pre
  have hown : s.vm.findClass RX2 = some m.cls := findClass_of_methodNamed B.named
  have hlocks := B.notSynchronized
  subst hsz
  have g : G3 (dC, dI) L kd tys s f0 [(2, 11), (5, 6), (7, 6), (8, 6), (8, 8), (8, 9)] [118, 119, 120, 121, 138, 139] f0 s.heap [] [(2, 0, a0_, .ref q0_), (2, 3, a0_, .ref q1_), (2, 11, a0_, .int y0_), (8, 8, q0_, .int y1_)] := G3.start hP hD0 hWT hfx
  have hl := lv_entry ([.ref a0_]) (n := 4) (Nat.le_of_ble_eq_true rfl)
  rw [lg_entry_eq]
  generalize (lg_sl ([.ref a0_]) ++ List.replicate (4 - (lg_sl ([.ref a0_])).length) Slot.unset).toArray = ls at hl ⊢
  have hl : lv_has ls 4 [(0, .ref a0_)] := hl
  refine W_q (fun Q hQ => ?_)
  refine lv_aload_n hx hb dX2_closeBlock_0 rfl (lv_at hl 0 rfl) ?_
  refine g_getk (C := RX2) (T := TX2) (N := 16) hx hb hts (mc_ inX2) hown hK g rfl 0 (by decide) rfl (hts _ (List.mem_cons_of_mem _ t_416)) (fun _ h9 => h9) 0 rfl dX2_closeBlock_1 ?_
  have go_ := g
  refine g_callv (va_runV (As := []) (rest := []) ⟨hx, hb, hml, hown, hts⟩ (r_X8_next l dC dI L kd tys f0 s.heap.size g.2.2.2.1 q0_ mq0_ kq0_) (cwV 0 hts (gV_ t_1131 t_1103 t_1104 t_184 t_1105) rfl rfl rfl (by decide +kernel) ⟨(Nat.le_of_ble_eq_true rfl), (Nat.le_of_ble_eq_true rfl)⟩) (pre3V g hK mq0_ kq0_ (by decide) (q := (RX8, TX8, 10)) rfl) rfl rfl hl.1 rfl (lv_room (Nat.le_of_ble_eq_true rfl)) dX2_closeBlock_4 ⟨(Nat.le_of_ble_eq_true rfl), (Nat.le_of_ble_eq_true rfl)⟩) g hK (by decide) (by decide) (fx' := [(2, 0, a0_, .ref q0_), (2, 3, a0_, .ref q1_), (2, 11, a0_, .int y0_), (8, 8, q0_, .int y1_)]) rfl (fun fr_1 H locs hp hMr_1 g => ?_)
  obtain ⟨x_2, h_3, hF_4⟩ := hp
  have hG_5 := bJx.frame hMr_1 go_.2.2.2.1 ma0_ ka0_ (by decide) (by decide) hGba0_
  have hG_6 := cOK.frame hMr_1 go_.2.2.2.1 mq1_ kq1_ (by decide) (by decide) hGcq1_
  have hG_7 := dOK.frame hMr_1 go_.2.2.2.1 mq1_ kq1_ (by decide) (by decide) hGdq1_
  have hG_8 := jS.frame hMr_1 go_.2.2.2.1 mq1_ kq1_ (by decide) (by decide) hGsq1_
  have g := g.more hF_4
  refine lv_aload_n hx hb dX2_closeBlock_7 rfl (lv_at hl 0 rfl) ?_
  refine lv_aload_n hx hb dX2_closeBlock_8 rfl (lv_at hl 0 rfl) ?_
  refine g_getk (C := RX2) (T := TX2) (N := 16) hx hb hts (mc_ inX2) hown hK g rfl 11 (by decide) rfl (hts _ (List.mem_cons_of_mem _ t_427)) (fun _ h9 => h9) 3 rfl dX2_closeBlock_9 ?_
  refine lv_iconst (v := 1) hx hb dX2_closeBlock_12 (by decide) ?_
  have kb_1 : bd 1 1 (1 : Int32) := ⟨by decide, by decide⟩
  refine lv_isub hx hb dX2_closeBlock_13 ?_
  refine lv_topi (fun y_9 ey_9 => ?_)
  have ty_9 := sub_bd ey_9 by0_ kb_1 (by decide)
  have b_10 : bd 0 7 y_9 := sub_rg ty_9 by0_ kb_1 (by decide)
  refine lv_iconst (v := 0) hx hb dX2_closeBlock_14 (by decide) ?_
  have kb_0 : bd 0 0 (0 : Int32) := ⟨by decide, by decide⟩
  refine va_mmax hx hb (hml.trans hl.1.symm) hown (hts _ (List.mem_cons_of_mem _ t_1312)) (hts _ (List.mem_cons_of_mem _ t_1041)) (hts _ (List.mem_cons_of_mem _ t_204)) (hts _ (List.mem_cons_of_mem _ t_1042)) (Nat.le_of_ble_eq_true rfl) (Nat.le_of_ble_eq_true rfl) (Nat.le_of_ble_eq_true rfl) (Nat.le_of_ble_eq_true rfl) dX2_closeBlock_15 ?_
  refine lv_topi (fun y_11 ey_11 => ?_)
  have ty_11 : y_11.toInt = max y_9.toInt (0 : Int32).toInt := by rw [ey_11]; exact mmax_ok _ _
  have b_12 : bd 0 7 y_11 := max_rg ty_11 b_10 kb_0 (by decide)
  obtain ⟨a_13, ma_13, ka_13, g⟩ := g_factr g ma0_ ka0_ (by decide) 7 rfl
  obtain ⟨a_14, ma_14, ka_14, g⟩ := g_factr g ma0_ ka0_ (by decide) 8 rfl
  obtain ⟨kb_15, jb_16, hv_17, hv_18, hl_19⟩ := bJx.at (i := y_11.toNatClampNeg) hG_5 (fx_at g (i := 4) rfl).2.2.2 (fx_at g (i := 1) rfl).2.2.2 (fx_at g (i := 0) rfl).2.2.2 (fx_at g (i := 5) rfl).2.2.2 (by have h9 := tnZ (i := y_11) (by have h9_0 := h_3; unfold bd at h9_0; have h9_1 := by0_; unfold bd at h9_1; have h9_2 := by1_; unfold bd at h9_2; have h9_3 := b_12; unfold bd at h9_3; have h9_4 := b_10; unfold bd at h9_4; have h8_0 := kb_0; unfold bd at h8_0; have h8_1 := kb_1; unfold bd at h8_1; omega); have h9_0 := h_3; unfold bd at h9_0; have h9_1 := by0_; unfold bd at h9_1; have h9_2 := by1_; unfold bd at h9_2; have h9_3 := b_12; unfold bd at h9_3; have h9_4 := b_10; unfold bd at h9_4; have h8_0 := kb_0; unfold bd at h8_0; have h8_1 := kb_1; unfold bd at h8_1; omega)
  have go_ := g
  refine g_putX (C := RX2) (T := TX2) (N := 16) hx hb hts (mc_ inX2) tyX2 tyX2_ok nmX2 hown hK g ma0_ ka0_ (by decide) rfl 11 (by decide) (hts _ (List.mem_cons_of_mem _ t_427)) (fun _ h9 => h9) rfl rfl (okV_i (bd_sub b_12 (by decide))) rfl rfl (by decide) (Or.inr (Or.inl (by decide))) (fx' := [(2, 8, a0_, .ref a_14), (2, 7, a0_, .ref a_13), (8, 6, q0_, .int x_2), (2, 0, a0_, .ref q0_), (2, 3, a0_, .ref q1_), (8, 8, q0_, .int y1_)]) rfl dX2_closeBlock_18 (fun f H locs hM_20 u_27 g => ?_)
  have hG_21 := cOK.frame hM_20 go_.2.2.2.1 mq1_ kq1_ (by decide) (by decide) hG_6
  have hG_22 := dOK.frame hM_20 go_.2.2.2.1 mq1_ kq1_ (by decide) (by decide) hG_7
  have hG_23 := jS.frame hM_20 go_.2.2.2.1 mq1_ kq1_ (by decide) (by decide) hG_8
  have hG_24 := vC.frame hM_20 go_.2.2.2.1 ma_13 ka_13 (by decide) (by decide) hv_17
  have hG_25 := vB.frame hM_20 go_.2.2.2.1 ma_14 ka_14 (by decide) (by decide) hv_18
  have hG_26 := lJ.frame hM_20 go_.2.2.2.1 mq1_ kq1_ (by decide) (by decide) hl_19
  have hb_28 := bJx.dec hG_5 (fx_at go_ (i := 5) rfl).2.2.2 (fx_at go_ (i := 4) rfl).2.2.2 mq1_ kq1_ u_27 (by have h9_0 := h_3; unfold bd at h9_0; have h9_1 := by0_; unfold bd at h9_1; have h9_2 := by1_; unfold bd at h9_2; have h9_3 := b_12; unfold bd at h9_3; have h9_4 := b_10; unfold bd at h9_4; have h8_0 := kb_0; unfold bd at h8_0; have h8_1 := kb_1; unfold bd at h8_1; omega) go_.2.2.2.1 ma0_ ka0_
  refine lv_aload_n hx hb dX2_closeBlock_21 rfl (lv_at hl 0 rfl) ?_
  refine g_getr (K := 5) (C := RX2) (T := TX2) (N := 16) hx hb hts (mc_ inX2) hown hK g ma0_ ka0_ (by decide) rfl 1 (by decide) rfl (hts _ (List.mem_cons_of_mem _ t_417)) (fun _ h9 => h9) rfl dX2_closeBlock_22 (fun a_29 ma_29 ka_29 g => ?_)
  refine lv_aload_n hx hb dX2_closeBlock_25 rfl (lv_at hl 0 rfl) ?_
  refine g_getr (K := 121) (C := RX2) (T := TX2) (N := 16) hx hb hts (mc_ inX2) hown hK g ma0_ ka0_ (by decide) rfl 10 (by decide) rfl (hts _ (List.mem_cons_of_mem _ t_426)) (fun _ h9 => h9) rfl dX2_closeBlock_26 (fun a_30 ma_30 ka_30 g => ?_)
  refine lv_aload_n hx hb dX2_closeBlock_29 rfl (lv_at hl 0 rfl) ?_
  refine g_getk (C := RX2) (T := TX2) (N := 16) hx hb hts (mc_ inX2) hown hK g rfl 11 (by decide) rfl (hts _ (List.mem_cons_of_mem _ t_427)) (fun _ h9 => h9) 2 rfl dX2_closeBlock_30 ?_
  refine g_iald hx hb hK g ma_30 ka_30 (by decide) rfl (in_bd b_12 (by decide)) dX2_closeBlock_33 (fun x_31 bx_31 cx_31 => ?_)
  have go_ := g
  refine g_put (C := RX5) (T := TX5) (N := 9) hx hb hts (mc_ inX5) tyX5 tyX5_ok nmX5 hown hK g ma_29 ka_29 (by decide) rfl 6 (by decide) (hts _ (List.mem_cons_of_mem _ t_341)) (fun _ h9 => h9) rfl rfl (okV_i bx_31) rfl rfl (by decide) (Or.inr (Or.inl (by decide))) (fx' := [(2, 10, a0_, .ref a_30), (2, 1, a0_, .ref a_29), (2, 11, a0_, .int y_11), (2, 8, a0_, .ref a_14), (2, 7, a0_, .ref a_13), (8, 6, q0_, .int x_2), (2, 0, a0_, .ref q0_), (2, 3, a0_, .ref q1_), (8, 8, q0_, .int y1_)]) rfl dX2_closeBlock_34 (fun f H locs hM_32 g => ?_)
  have hG_33 := cOK.frame hM_32 go_.2.2.2.1 mq1_ kq1_ (by decide) (by decide) hG_21
  have hG_34 := dOK.frame hM_32 go_.2.2.2.1 mq1_ kq1_ (by decide) (by decide) hG_22
  have hG_35 := jS.frame hM_32 go_.2.2.2.1 mq1_ kq1_ (by decide) (by decide) hG_23
  have hG_36 := vC.frame hM_32 go_.2.2.2.1 ma_13 ka_13 (by decide) (by decide) hG_24
  have hG_37 := vB.frame hM_32 go_.2.2.2.1 ma_14 ka_14 (by decide) (by decide) hG_25
  have hG_38 := lJ.frame hM_32 go_.2.2.2.1 mq1_ kq1_ (by decide) (by decide) hG_26
  have hG_39 := bJx.frame hM_32 go_.2.2.2.1 ma0_ ka0_ (by decide) (by decide) hb_28
  refine lv_aload_n hx hb dX2_closeBlock_37 rfl (lv_at hl 0 rfl) ?_
  refine g_getk (C := RX2) (T := TX2) (N := 16) hx hb hts (mc_ inX2) hown hK g rfl 8 (by decide) rfl (hts _ (List.mem_cons_of_mem _ t_424)) (fun _ h9 => h9) 4 rfl dX2_closeBlock_38 ?_
  refine lv_aload_n hx hb dX2_closeBlock_41 rfl (lv_at hl 0 rfl) ?_
  refine g_getk (C := RX2) (T := TX2) (N := 16) hx hb hts (mc_ inX2) hown hK g rfl 11 (by decide) rfl (hts _ (List.mem_cons_of_mem _ t_427)) (fun _ h9 => h9) 3 rfl dX2_closeBlock_42 ?_
  refine g_iald hx hb hK g ma_14 ka_14 (by decide) rfl (in_bd b_12 (by decide)) dX2_closeBlock_45 (fun x_40 bx_40 cx_40 => ?_)
  have ht_41 : x_40 = jb_16 := cx_40.trans hG_37
  refine lv_istore_n (lv' := [(1, .int x_40), (0, .ref a0_)]) hx hb dX2_closeBlock_46 rfl hl (by decide) rfl (fun ls hl => ?_)
  refine lv_aload_n hx hb dX2_closeBlock_47 rfl (lv_at hl 1 rfl) ?_
  refine g_getk (C := RX2) (T := TX2) (N := 16) hx hb hts (mc_ inX2) hown hK g rfl 7 (by decide) rfl (hts _ (List.mem_cons_of_mem _ t_423)) (fun _ h9 => h9) 5 rfl dX2_closeBlock_48 ?_
  refine lv_aload_n hx hb dX2_closeBlock_51 rfl (lv_at hl 1 rfl) ?_
  refine g_getk (C := RX2) (T := TX2) (N := 16) hx hb hts (mc_ inX2) hown hK g rfl 11 (by decide) rfl (hts _ (List.mem_cons_of_mem _ t_427)) (fun _ h9 => h9) 3 rfl dX2_closeBlock_52 ?_
  refine g_iald hx hb hK g ma_13 ka_13 (by decide) rfl (in_bd b_12 (by decide)) dX2_closeBlock_55 (fun x_42 bx_42 cx_42 => ?_)
  have ht_43 : x_42 = kb_15 := cx_42.trans hG_36
  refine lv_if_ne (tgt := 70) hx hb dX2_closeBlock_56 (by decide) (fun c_44 => ?_) (fun c_44 => ?_)
  · have fc_44 := neq_f c_44
    refine lv_aload_n hx hb dX2_closeBlock_70 rfl (lv_at hl 1 rfl) ?_
    refine g_getk (C := RX2) (T := TX2) (N := 16) hx hb hts (mc_ inX2) hown hK g rfl 7 (by decide) rfl (hts _ (List.mem_cons_of_mem _ t_423)) (fun _ h9 => h9) 5 rfl dX2_closeBlock_71 ?_
    refine lv_aload_n hx hb dX2_closeBlock_74 rfl (lv_at hl 1 rfl) ?_
    refine g_getk (C := RX2) (T := TX2) (N := 16) hx hb hts (mc_ inX2) hown hK g rfl 11 (by decide) rfl (hts _ (List.mem_cons_of_mem _ t_427)) (fun _ h9 => h9) 3 rfl dX2_closeBlock_75 ?_
    refine g_iald hx hb hK g ma_13 ka_13 (by decide) rfl (in_bd b_12 (by decide)) dX2_closeBlock_78 (fun x_45 bx_45 cx_45 => ?_)
    obtain rfl : x_42 = x_45 := el_same cx_42 cx_45 rfl
    refine lv_iconst (v := 3) hx hb dX2_closeBlock_79 (by decide) ?_
    have kb_3 : bd 3 3 (3 : Int32) := ⟨by decide, by decide⟩
    refine lv_icmp_ne (tgt := 101) hx hb dX2_closeBlock_80 (by decide) (fun c_46 => ?_) (fun c_46 => ?_)
    · have fc_46 := neq_f c_46
      refine lv_aload_n hx hb dX2_closeBlock_101 rfl (lv_at hl 1 rfl) ?_
      refine g_getk (C := RX2) (T := TX2) (N := 16) hx hb hts (mc_ inX2) hown hK g rfl 7 (by decide) rfl (hts _ (List.mem_cons_of_mem _ t_423)) (fun _ h9 => h9) 5 rfl dX2_closeBlock_102 ?_
      refine lv_aload_n hx hb dX2_closeBlock_105 rfl (lv_at hl 1 rfl) ?_
      refine g_getk (C := RX2) (T := TX2) (N := 16) hx hb hts (mc_ inX2) hown hK g rfl 11 (by decide) rfl (hts _ (List.mem_cons_of_mem _ t_427)) (fun _ h9 => h9) 3 rfl dX2_closeBlock_106 ?_
      refine g_iald hx hb hK g ma_13 ka_13 (by decide) rfl (in_bd b_12 (by decide)) dX2_closeBlock_109 (fun x_47 bx_47 cx_47 => ?_)
      obtain rfl : x_42 = x_47 := el_same cx_42 cx_47 rfl
      refine lv_iconst (v := 1) hx hb dX2_closeBlock_110 (by decide) ?_
      refine lv_icmp_ne (tgt := 130) hx hb dX2_closeBlock_111 (by decide) (fun c_48 => ?_) (fun c_48 => ?_)
      · have fc_48 := neq_f c_48
        refine lv_iconst (v := 0) hx hb dX2_closeBlock_130 (by decide) ?_
        refine lv_istore_n (lv' := [(2, .int 0), (1, .int x_40), (0, .ref a0_)]) hx hb dX2_closeBlock_131 rfl hl (by decide) rfl (fun ls hl => ?_)
        refine lv_aload_n hx hb dX2_closeBlock_132 rfl (lv_at hl 2 rfl) ?_
        refine g_getk (C := RX2) (T := TX2) (N := 16) hx hb hts (mc_ inX2) hown hK g rfl 3 (by decide) rfl (hts _ (List.mem_cons_of_mem _ t_419)) (fun _ h9 => h9) 8 rfl dX2_closeBlock_133 ?_
        refine g_geti (C := RX7) (T := TX7) (N := 19) hx hb hts (mc_ inX7) hown hK g mq1_ kq1_ (by decide) rfl 6 (by decide) rfl (hts _ (List.mem_cons_of_mem _ t_647)) (fun _ h9 => h9) rfl dX2_closeBlock_136 (fun x_49 bx_49 g => ?_)
        refine lv_istore_n (lv' := [(3, .int x_49), (2, .int 0), (1, .int x_40), (0, .ref a0_)]) hx hb dX2_closeBlock_139 rfl hl (by decide) rfl (fun ls hl => ?_)
        refine lv_iload_n hx hb dX2_closeBlock_140 rfl (lv_at hl 1 rfl) ?_
        refine lv_if_eq (tgt := 154) hx hb dX2_closeBlock_141 (by decide) (fun c_ => ?_) (fun c_ => absurd (by decide) c_)
        refine lv_aload_n hx hb dX2_closeBlock_154 rfl (lv_at hl 3 rfl) ?_
        refine g_getk (C := RX2) (T := TX2) (N := 16) hx hb hts (mc_ inX2) hown hK g rfl 3 (by decide) rfl (hts _ (List.mem_cons_of_mem _ t_419)) (fun _ h9 => h9) 9 rfl dX2_closeBlock_155 ?_
        refine lv_iload_n hx hb dX2_closeBlock_158 rfl (lv_at hl 2 rfl) ?_
        have hj_50 : jOK f q1_ x_40 := by rw [ht_41]; exact hG_38 (by rw [← ht_43]; have h7_0 := fc_44; have h9_0 := h_3; unfold bd at h9_0; have h9_1 := bx_31; unfold bd at h9_1; have h9_2 := bx_49; unfold bd at h9_2; have h9_3 := by0_; unfold bd at h9_3; have h9_4 := by1_; unfold bd at h9_4; have h9_5 := b_12; unfold bd at h9_5; have h9_6 := b_10; unfold bd at h9_6; have h8_0 := kb_0; unfold bd at h8_0; have h8_1 := kb_1; unfold bd at h8_1; have h8_2 := kb_3; unfold bd at h8_2; omega)
        obtain ⟨a_51, ma_51, ka_51, g⟩ := g_factr g mq1_ kq1_ (by decide) 4 rfl
        obtain ⟨a_52, ma_52, ka_52, g⟩ := g_factr g mq1_ kq1_ (by decide) 5 rfl
        have go_ := g
        refine g_callv (va_runV (As := [.int x_40]) (rest := []) ⟨hx, hb, hml, hown, hts⟩ (r_X7_leadHereN l dC dI L kd tys f H.size g.2.2.2.1 q1_ mq1_ kq1_ a_51 ma_51 ka_51 a_52 ma_52 ka_52 x_49 bx_49 T_ hG_34 x_40 (fun j9 => jOK f q1_ j9) hG_33 (fun _ h9 => h9) hj_50 (g.fcts [1, 0, 2] rfl)) (cwV 1 hts (gV_ t_1350 t_1208 t_1209 t_191 t_1210) rfl rfl rfl (by decide +kernel) ⟨(Nat.le_of_ble_eq_true rfl), (Nat.le_of_ble_eq_true rfl)⟩) (pre3V g hK mq1_ kq1_ (by decide) (q := (RX7, TX7, 19)) rfl) rfl rfl hl.1 rfl (lv_room (Nat.le_of_ble_eq_true rfl)) dX2_closeBlock_159 ⟨(Nat.le_of_ble_eq_true rfl), (Nat.le_of_ble_eq_true rfl)⟩) g hK (by decide) (by decide) (fx' := [(7, 5, q1_, .ref a_52), (7, 4, q1_, .ref a_51), (7, 6, q1_, .int x_49), (5, 6, a_29, .int x_31), (2, 10, a0_, .ref a_30), (2, 1, a0_, .ref a_29), (2, 11, a0_, .int y_11), (2, 8, a0_, .ref a_14), (2, 7, a0_, .ref a_13), (8, 6, q0_, .int x_2), (2, 0, a0_, .ref q0_), (2, 3, a0_, .ref q1_), (8, 8, q0_, .int y1_)]) rfl (fun fr_53 H locs hp hMr_53 g => ?_)
        obtain ⟨hG_54, hG_55, hG_56, x_57, h_58, hF_59⟩ := hp
        have hG_60 := vC.frame hMr_53 go_.2.2.2.1 ma_13 ka_13 (by decide) (by decide) hG_36
        have hG_61 := vB.frame hMr_53 go_.2.2.2.1 ma_14 ka_14 (by decide) (by decide) hG_37
        have hG_62 := lJ.frame hMr_53 go_.2.2.2.1 mq1_ kq1_ (by decide) (by decide) hG_38
        have hG_63 := bJx.frame hMr_53 go_.2.2.2.1 ma0_ ka0_ (by decide) (by decide) hG_39
        have hG_64 := jOK.frame hMr_53 go_.2.2.2.1 mq1_ kq1_ (by decide) (by decide) hj_50
        have g := g.more hF_59
        have e_65 := fx_same g 3 0 rfl rfl
        have g := g.sub (fx' := [(7, 5, q1_, .ref a_52), (7, 4, q1_, .ref a_51), (7, 6, q1_, .int x_49), (5, 6, a_29, .int x_31), (2, 10, a0_, .ref a_30), (2, 1, a0_, .ref a_29), (2, 11, a0_, .int y_11), (2, 8, a0_, .ref a_14), (2, 7, a0_, .ref a_13), (8, 6, q0_, .int x_2), (2, 0, a0_, .ref q0_), (2, 3, a0_, .ref q1_), (8, 8, q0_, .int y1_)]) [1, 2, 3, 4, 5, 6, 7, 8, 9, 10, 11, 12, 13] rfl
        have hs_66 := jS.mv hG_35 hG_56
        refine lv_iload_n hx hb dX2_closeBlock_162 rfl (lv_at hl 1 rfl) ?_
        refine lv_if_eq (tgt := 180) hx hb dX2_closeBlock_163 (by decide) (fun c_ => ?_) (fun c_ => absurd (by decide) c_)
        subst hQ
        exact W.vret hx hb hr (fun t ht hW => ⟨⟨_, rfl, Or.inl ⟨hG_63, hG_55, hG_54, hs_66, x_2, h_3, (g.fcts [9, 12] rfl)⟩, q3_of g hK ht hW⟩, g.2.2.1.F ht⟩) g.2.2.1.2.2 dX2_closeBlock_180
      · have fc_48 := eq_f c_48
        have b_67 : bd 1 1 x_42 := eqX fc_48 (bdT x_42) kb_1 (by decide)
        refine lv_aload_n hx hb dX2_closeBlock_114 rfl (lv_at hl 1 rfl) ?_
        refine g_getk (C := RX2) (T := TX2) (N := 16) hx hb hts (mc_ inX2) hown hK g rfl 0 (by decide) rfl (hts _ (List.mem_cons_of_mem _ t_416)) (fun _ h9 => h9) 7 rfl dX2_closeBlock_115 ?_
        have go_ := g
        refine g_calli (va_runV (As := []) (rest := []) ⟨hx, hb, hml, hown, hts⟩ (r_X8_kind l dC dI L kd tys f H.size g.2.2.2.1 q0_ mq0_ kq0_) (cwV 0 hts (gV_ t_1118 t_1119 t_1120 t_184 t_1121) rfl rfl rfl (by decide +kernel) ⟨(Nat.le_of_ble_eq_true rfl), (Nat.le_of_ble_eq_true rfl)⟩) (pre3V g hK mq0_ kq0_ (by decide) (q := (RX8, TX8, 10)) rfl) rfl rfl hl.1 rfl (lv_room (Nat.le_of_ble_eq_true rfl)) dX2_closeBlock_118 ⟨(Nat.le_of_ble_eq_true rfl), (Nat.le_of_ble_eq_true rfl)⟩) g hK (by decide) (by decide) (fx' := [(5, 6, a_29, .int x_31), (2, 10, a0_, .ref a_30), (2, 1, a0_, .ref a_29), (2, 11, a0_, .int y_11), (2, 8, a0_, .ref a_14), (2, 7, a0_, .ref a_13), (8, 6, q0_, .int x_2), (2, 0, a0_, .ref q0_), (2, 3, a0_, .ref q1_), (8, 8, q0_, .int y1_)]) rfl (fun r_68 fr_68 H locs hp hMr_68 g => ?_)
        have hG_69 := cOK.frame hMr_68 go_.2.2.2.1 mq1_ kq1_ (by decide) (by decide) hG_33
        have hG_70 := dOK.frame hMr_68 go_.2.2.2.1 mq1_ kq1_ (by decide) (by decide) hG_34
        have hG_71 := jS.frame hMr_68 go_.2.2.2.1 mq1_ kq1_ (by decide) (by decide) hG_35
        have hG_72 := vC.frame hMr_68 go_.2.2.2.1 ma_13 ka_13 (by decide) (by decide) hG_36
        have hG_73 := vB.frame hMr_68 go_.2.2.2.1 ma_14 ka_14 (by decide) (by decide) hG_37
        have hG_74 := lJ.frame hMr_68 go_.2.2.2.1 mq1_ kq1_ (by decide) (by decide) hG_38
        have hG_75 := bJx.frame hMr_68 go_.2.2.2.1 ma0_ ka0_ (by decide) (by decide) hG_39
        refine lv_bipush (v := 24) hx hb dX2_closeBlock_121 (by decide) ?_
        have kb_24 : bd 24 24 (24 : Int32) := ⟨by decide, by decide⟩
        refine lv_icmp_ne (tgt := 130) hx hb dX2_closeBlock_123 (by decide) (fun c_76 => ?_) (fun c_76 => ?_)
        · have fc_76 := neq_f c_76
          refine lv_iconst (v := 0) hx hb dX2_closeBlock_130 (by decide) ?_
          refine lv_istore_n (lv' := [(2, .int 0), (1, .int x_40), (0, .ref a0_)]) hx hb dX2_closeBlock_131 rfl hl (by decide) rfl (fun ls hl => ?_)
          refine lv_aload_n hx hb dX2_closeBlock_132 rfl (lv_at hl 2 rfl) ?_
          refine g_getk (C := RX2) (T := TX2) (N := 16) hx hb hts (mc_ inX2) hown hK g rfl 3 (by decide) rfl (hts _ (List.mem_cons_of_mem _ t_419)) (fun _ h9 => h9) 8 rfl dX2_closeBlock_133 ?_
          refine g_geti (C := RX7) (T := TX7) (N := 19) hx hb hts (mc_ inX7) hown hK g mq1_ kq1_ (by decide) rfl 6 (by decide) rfl (hts _ (List.mem_cons_of_mem _ t_647)) (fun _ h9 => h9) rfl dX2_closeBlock_136 (fun x_77 bx_77 g => ?_)
          refine lv_istore_n (lv' := [(3, .int x_77), (2, .int 0), (1, .int x_40), (0, .ref a0_)]) hx hb dX2_closeBlock_139 rfl hl (by decide) rfl (fun ls hl => ?_)
          refine lv_iload_n hx hb dX2_closeBlock_140 rfl (lv_at hl 1 rfl) ?_
          refine lv_if_eq (tgt := 154) hx hb dX2_closeBlock_141 (by decide) (fun c_ => ?_) (fun c_ => absurd (by decide) c_)
          refine lv_aload_n hx hb dX2_closeBlock_154 rfl (lv_at hl 3 rfl) ?_
          refine g_getk (C := RX2) (T := TX2) (N := 16) hx hb hts (mc_ inX2) hown hK g rfl 3 (by decide) rfl (hts _ (List.mem_cons_of_mem _ t_419)) (fun _ h9 => h9) 9 rfl dX2_closeBlock_155 ?_
          refine lv_iload_n hx hb dX2_closeBlock_158 rfl (lv_at hl 2 rfl) ?_
          have hj_78 : jOK fr_68 q1_ x_40 := by rw [ht_41]; exact hG_74 (by rw [← ht_43]; have h7_0 := fc_44; have h9_0 := h_3; unfold bd at h9_0; have h9_1 := bx_31; unfold bd at h9_1; have h9_2 := b_67; unfold bd at h9_2; have h9_3 := bx_77; unfold bd at h9_3; have h9_4 := by0_; unfold bd at h9_4; have h9_5 := by1_; unfold bd at h9_5; have h9_6 := b_12; unfold bd at h9_6; have h9_7 := b_10; unfold bd at h9_7; have h8_0 := kb_0; unfold bd at h8_0; have h8_1 := kb_1; unfold bd at h8_1; have h8_2 := kb_24; unfold bd at h8_2; have h8_3 := kb_3; unfold bd at h8_3; omega)
          obtain ⟨a_79, ma_79, ka_79, g⟩ := g_factr g mq1_ kq1_ (by decide) 4 rfl
          obtain ⟨a_80, ma_80, ka_80, g⟩ := g_factr g mq1_ kq1_ (by decide) 5 rfl
          have go_ := g
          refine g_callv (va_runV (As := [.int x_40]) (rest := []) ⟨hx, hb, hml, hown, hts⟩ (r_X7_leadHereN l dC dI L kd tys fr_68 H.size g.2.2.2.1 q1_ mq1_ kq1_ a_79 ma_79 ka_79 a_80 ma_80 ka_80 x_77 bx_77 T_ hG_70 x_40 (fun j9 => jOK fr_68 q1_ j9) hG_69 (fun _ h9 => h9) hj_78 (g.fcts [1, 0, 2] rfl)) (cwV 1 hts (gV_ t_1350 t_1208 t_1209 t_191 t_1210) rfl rfl rfl (by decide +kernel) ⟨(Nat.le_of_ble_eq_true rfl), (Nat.le_of_ble_eq_true rfl)⟩) (pre3V g hK mq1_ kq1_ (by decide) (q := (RX7, TX7, 19)) rfl) rfl rfl hl.1 rfl (lv_room (Nat.le_of_ble_eq_true rfl)) dX2_closeBlock_159 ⟨(Nat.le_of_ble_eq_true rfl), (Nat.le_of_ble_eq_true rfl)⟩) g hK (by decide) (by decide) (fx' := [(7, 5, q1_, .ref a_80), (7, 4, q1_, .ref a_79), (7, 6, q1_, .int x_77), (5, 6, a_29, .int x_31), (2, 10, a0_, .ref a_30), (2, 1, a0_, .ref a_29), (2, 11, a0_, .int y_11), (2, 8, a0_, .ref a_14), (2, 7, a0_, .ref a_13), (8, 6, q0_, .int x_2), (2, 0, a0_, .ref q0_), (2, 3, a0_, .ref q1_), (8, 8, q0_, .int y1_)]) rfl (fun fr_81 H locs hp hMr_81 g => ?_)
          obtain ⟨hG_82, hG_83, hG_84, x_85, h_86, hF_87⟩ := hp
          have hG_88 := vC.frame hMr_81 go_.2.2.2.1 ma_13 ka_13 (by decide) (by decide) hG_72
          have hG_89 := vB.frame hMr_81 go_.2.2.2.1 ma_14 ka_14 (by decide) (by decide) hG_73
          have hG_90 := lJ.frame hMr_81 go_.2.2.2.1 mq1_ kq1_ (by decide) (by decide) hG_74
          have hG_91 := bJx.frame hMr_81 go_.2.2.2.1 ma0_ ka0_ (by decide) (by decide) hG_75
          have hG_92 := jOK.frame hMr_81 go_.2.2.2.1 mq1_ kq1_ (by decide) (by decide) hj_78
          have g := g.more hF_87
          have e_93 := fx_same g 3 0 rfl rfl
          have g := g.sub (fx' := [(7, 5, q1_, .ref a_80), (7, 4, q1_, .ref a_79), (7, 6, q1_, .int x_77), (5, 6, a_29, .int x_31), (2, 10, a0_, .ref a_30), (2, 1, a0_, .ref a_29), (2, 11, a0_, .int y_11), (2, 8, a0_, .ref a_14), (2, 7, a0_, .ref a_13), (8, 6, q0_, .int x_2), (2, 0, a0_, .ref q0_), (2, 3, a0_, .ref q1_), (8, 8, q0_, .int y1_)]) [1, 2, 3, 4, 5, 6, 7, 8, 9, 10, 11, 12, 13] rfl
          have hs_94 := jS.mv hG_71 hG_84
          refine lv_iload_n hx hb dX2_closeBlock_162 rfl (lv_at hl 1 rfl) ?_
          refine lv_if_eq (tgt := 180) hx hb dX2_closeBlock_163 (by decide) (fun c_ => ?_) (fun c_ => absurd (by decide) c_)
          subst hQ
          exact W.vret hx hb hr (fun t ht hW => ⟨⟨_, rfl, Or.inl ⟨hG_91, hG_83, hG_82, hs_94, x_2, h_3, (g.fcts [9, 12] rfl)⟩, q3_of g hK ht hW⟩, g.2.2.1.F ht⟩) g.2.2.1.2.2 dX2_closeBlock_180
        · have fc_76 := eq_f c_76
          have b_95 : bd 24 24 r_68 := eqX fc_76 (bdT r_68) kb_24 (by decide)
          refine lv_iconst (v := 1) hx hb dX2_closeBlock_126 (by decide) ?_
          refine lv_goto (tgt := 131) hx hb dX2_closeBlock_127 (by decide) ?_
          refine lv_istore_n (lv' := [(2, .int 1), (1, .int x_40), (0, .ref a0_)]) hx hb dX2_closeBlock_131 rfl hl (by decide) rfl (fun ls hl => ?_)
          refine lv_aload_n hx hb dX2_closeBlock_132 rfl (lv_at hl 2 rfl) ?_
          refine g_getk (C := RX2) (T := TX2) (N := 16) hx hb hts (mc_ inX2) hown hK g rfl 3 (by decide) rfl (hts _ (List.mem_cons_of_mem _ t_419)) (fun _ h9 => h9) 8 rfl dX2_closeBlock_133 ?_
          refine g_geti (C := RX7) (T := TX7) (N := 19) hx hb hts (mc_ inX7) hown hK g mq1_ kq1_ (by decide) rfl 6 (by decide) rfl (hts _ (List.mem_cons_of_mem _ t_647)) (fun _ h9 => h9) rfl dX2_closeBlock_136 (fun x_96 bx_96 g => ?_)
          refine lv_istore_n (lv' := [(3, .int x_96), (2, .int 1), (1, .int x_40), (0, .ref a0_)]) hx hb dX2_closeBlock_139 rfl hl (by decide) rfl (fun ls hl => ?_)
          refine lv_iload_n hx hb dX2_closeBlock_140 rfl (lv_at hl 1 rfl) ?_
          refine lv_if_eq (tgt := 154) hx hb dX2_closeBlock_141 (by decide) (fun c_ => absurd c_ (by decide)) (fun c_ => ?_)
          refine lv_aload_n hx hb dX2_closeBlock_144 rfl (lv_at hl 3 rfl) ?_
          refine g_getk (C := RX2) (T := TX2) (N := 16) hx hb hts (mc_ inX2) hown hK g rfl 3 (by decide) rfl (hts _ (List.mem_cons_of_mem _ t_419)) (fun _ h9 => h9) 9 rfl dX2_closeBlock_145 ?_
          refine lv_bipush (v := 15) hx hb dX2_closeBlock_148 (by decide) ?_
          refine lv_iconst (v := 0) hx hb dX2_closeBlock_150 (by decide) ?_
          obtain ⟨a_97, ma_97, ka_97, g⟩ := g_factr g mq1_ kq1_ (by decide) 4 rfl
          obtain ⟨a_98, ma_98, ka_98, g⟩ := g_factr g mq1_ kq1_ (by decide) 5 rfl
          have kb_15 : bd 15 15 (15 : Int32) := ⟨by decide, by decide⟩
          have go_ := g
          refine g_callv (va_runV (As := [.int 15, .int 0]) (rest := []) ⟨hx, hb, hml, hown, hts⟩ (r_X7_emitN l dC dI L kd tys fr_68 H.size g.2.2.2.1 q1_ mq1_ kq1_ a_97 ma_97 ka_97 a_98 ma_98 ka_98 x_96 bx_96 T_ hG_70 (15 : Int32) (0 : Int32) (fun j9 => jOK fr_68 q1_ j9) hG_69 (fun _ h9 => h9) ⟨(fun h9 => ⟨(by have h9_0 := b_95; unfold bd at h9_0; have h9_1 := h_3; unfold bd at h9_1; have h9_2 := bx_31; unfold bd at h9_2; have h9_3 := b_67; unfold bd at h9_3; have h9_4 := bx_96; unfold bd at h9_4; have h9_5 := by0_; unfold bd at h9_5; have h9_6 := by1_; unfold bd at h9_6; have h9_7 := b_12; unfold bd at h9_7; have h9_8 := b_10; unfold bd at h9_8; have h8_0 := kb_0; unfold bd at h8_0; have h8_1 := kb_1; unfold bd at h8_1; have h8_2 := kb_15; unfold bd at h8_2; have h8_3 := kb_24; unfold bd at h8_3; have h8_4 := kb_3; unfold bd at h8_4; omega), (by have h9_0 := b_95; unfold bd at h9_0; have h9_1 := h_3; unfold bd at h9_1; have h9_2 := bx_31; unfold bd at h9_2; have h9_3 := b_67; unfold bd at h9_3; have h9_4 := bx_96; unfold bd at h9_4; have h9_5 := by0_; unfold bd at h9_5; have h9_6 := by1_; unfold bd at h9_6; have h9_7 := b_12; unfold bd at h9_7; have h9_8 := b_10; unfold bd at h9_8; have h8_0 := kb_0; unfold bd at h8_0; have h8_1 := kb_1; unfold bd at h8_1; have h8_2 := kb_15; unfold bd at h8_2; have h8_3 := kb_24; unfold bd at h8_3; have h8_4 := kb_3; unfold bd at h8_4; omega)⟩), (fun h9 => ⟨(by have h9_0 := b_95; unfold bd at h9_0; have h9_1 := h_3; unfold bd at h9_1; have h9_2 := bx_31; unfold bd at h9_2; have h9_3 := b_67; unfold bd at h9_3; have h9_4 := bx_96; unfold bd at h9_4; have h9_5 := by0_; unfold bd at h9_5; have h9_6 := by1_; unfold bd at h9_6; have h9_7 := b_12; unfold bd at h9_7; have h9_8 := b_10; unfold bd at h9_8; have h8_0 := kb_0; unfold bd at h8_0; have h8_1 := kb_1; unfold bd at h8_1; have h8_2 := kb_15; unfold bd at h8_2; have h8_3 := kb_24; unfold bd at h8_3; have h8_4 := kb_3; unfold bd at h8_4; omega), (by have h9_0 := b_95; unfold bd at h9_0; have h9_1 := h_3; unfold bd at h9_1; have h9_2 := bx_31; unfold bd at h9_2; have h9_3 := b_67; unfold bd at h9_3; have h9_4 := bx_96; unfold bd at h9_4; have h9_5 := by0_; unfold bd at h9_5; have h9_6 := by1_; unfold bd at h9_6; have h9_7 := b_12; unfold bd at h9_7; have h9_8 := b_10; unfold bd at h9_8; have h8_0 := kb_0; unfold bd at h8_0; have h8_1 := kb_1; unfold bd at h8_1; have h8_2 := kb_15; unfold bd at h8_2; have h8_3 := kb_24; unfold bd at h8_3; have h8_4 := kb_3; unfold bd at h8_4; omega)⟩), (fun h9 => ⟨(by have h9_0 := b_95; unfold bd at h9_0; have h9_1 := h_3; unfold bd at h9_1; have h9_2 := bx_31; unfold bd at h9_2; have h9_3 := b_67; unfold bd at h9_3; have h9_4 := bx_96; unfold bd at h9_4; have h9_5 := by0_; unfold bd at h9_5; have h9_6 := by1_; unfold bd at h9_6; have h9_7 := b_12; unfold bd at h9_7; have h9_8 := b_10; unfold bd at h9_8; have h8_0 := kb_0; unfold bd at h8_0; have h8_1 := kb_1; unfold bd at h8_1; have h8_2 := kb_15; unfold bd at h8_2; have h8_3 := kb_24; unfold bd at h8_3; have h8_4 := kb_3; unfold bd at h8_4; omega), (by have h9_0 := b_95; unfold bd at h9_0; have h9_1 := h_3; unfold bd at h9_1; have h9_2 := bx_31; unfold bd at h9_2; have h9_3 := b_67; unfold bd at h9_3; have h9_4 := bx_96; unfold bd at h9_4; have h9_5 := by0_; unfold bd at h9_5; have h9_6 := by1_; unfold bd at h9_6; have h9_7 := b_12; unfold bd at h9_7; have h9_8 := b_10; unfold bd at h9_8; have h8_0 := kb_0; unfold bd at h8_0; have h8_1 := kb_1; unfold bd at h8_1; have h8_2 := kb_15; unfold bd at h8_2; have h8_3 := kb_24; unfold bd at h8_3; have h8_4 := kb_3; unfold bd at h8_4; omega)⟩)⟩ (g.fcts [1, 0, 2] rfl)) (cwV 2 hts (gV_ t_1301 t_1204 t_1205 t_191 t_1206) rfl rfl rfl (by decide +kernel) ⟨(Nat.le_of_ble_eq_true rfl), (Nat.le_of_ble_eq_true rfl)⟩) (pre3V g hK mq1_ kq1_ (by decide) (q := (RX7, TX7, 19)) rfl) rfl rfl hl.1 rfl (lv_room (Nat.le_of_ble_eq_true rfl)) dX2_closeBlock_151 ⟨(Nat.le_of_ble_eq_true rfl), (Nat.le_of_ble_eq_true rfl)⟩) g hK (by decide) (by decide) (fx' := [(7, 5, q1_, .ref a_98), (7, 4, q1_, .ref a_97), (5, 6, a_29, .int x_31), (2, 10, a0_, .ref a_30), (2, 1, a0_, .ref a_29), (2, 11, a0_, .int y_11), (2, 8, a0_, .ref a_14), (2, 7, a0_, .ref a_13), (8, 6, q0_, .int x_2), (2, 0, a0_, .ref q0_), (2, 3, a0_, .ref q1_), (8, 8, q0_, .int y1_)]) rfl (fun fr_99 H locs hp hMr_99 g => ?_)
          obtain ⟨hG_100, hG_101, hG_102, hx_103, x_104, h_105, hF_106⟩ := hp
          have hG_107 := vC.frame hMr_99 go_.2.2.2.1 ma_13 ka_13 (by decide) (by decide) hG_72
          have hG_108 := vB.frame hMr_99 go_.2.2.2.1 ma_14 ka_14 (by decide) (by decide) hG_73
          have hj_109 := hx_103 (by unfold jop; decide)
          have g := g.more hF_106
          have hs_110 := jS.mv hG_71 hG_102
          have hl_111 := lJ.mv hG_74 hG_102
          have hG_112 := bJx.mv hG_75 hMr_99 go_.2.2.2.1 ma0_ ka0_ (by decide) (by decide) (((hMr_99 a0_ ma0_).1 3 (by rw [ka0_]; decide) (by rw [ka0_]; decide)).symm.trans (fx_at g (i := 11) rfl).2.2.2) hG_102
          refine lv_aload_n hx hb dX2_closeBlock_154 rfl (lv_at hl 3 rfl) ?_
          refine g_getk (C := RX2) (T := TX2) (N := 16) hx hb hts (mc_ inX2) hown hK g rfl 3 (by decide) rfl (hts _ (List.mem_cons_of_mem _ t_419)) (fun _ h9 => h9) 11 rfl dX2_closeBlock_155 ?_
          refine lv_iload_n hx hb dX2_closeBlock_158 rfl (lv_at hl 2 rfl) ?_
          have hj_113 : jOK fr_99 q1_ x_40 := by rw [ht_41]; exact hl_111 (by rw [← ht_43]; have h7_0 := fc_44; have h9_0 := b_95; unfold bd at h9_0; have h9_1 := h_105; unfold bd at h9_1; have h9_2 := h_3; unfold bd at h9_2; have h9_3 := bx_31; unfold bd at h9_3; have h9_4 := b_67; unfold bd at h9_4; have h9_5 := bx_96; unfold bd at h9_5; have h9_6 := by0_; unfold bd at h9_6; have h9_7 := by1_; unfold bd at h9_7; have h9_8 := b_12; unfold bd at h9_8; have h9_9 := b_10; unfold bd at h9_9; have h8_0 := kb_0; unfold bd at h8_0; have h8_1 := kb_1; unfold bd at h8_1; have h8_2 := kb_15; unfold bd at h8_2; have h8_3 := kb_24; unfold bd at h8_3; have h8_4 := kb_3; unfold bd at h8_4; omega)
          have go_ := g
          refine g_callv (va_runV (As := [.int x_40]) (rest := []) ⟨hx, hb, hml, hown, hts⟩ (r_X7_leadHereN l dC dI L kd tys fr_99 H.size g.2.2.2.1 q1_ mq1_ kq1_ a_97 ma_97 ka_97 a_98 ma_98 ka_98 x_104 h_105 T_ hG_100 x_40 (fun j9 => jOK fr_99 q1_ j9) hG_101 (fun _ h9 => h9) hj_113 (g.fcts [2, 1, 0] rfl)) (cwV 1 hts (gV_ t_1350 t_1208 t_1209 t_191 t_1210) rfl rfl rfl (by decide +kernel) ⟨(Nat.le_of_ble_eq_true rfl), (Nat.le_of_ble_eq_true rfl)⟩) (pre3V g hK mq1_ kq1_ (by decide) (q := (RX7, TX7, 19)) rfl) rfl rfl hl.1 rfl (lv_room (Nat.le_of_ble_eq_true rfl)) dX2_closeBlock_159 ⟨(Nat.le_of_ble_eq_true rfl), (Nat.le_of_ble_eq_true rfl)⟩) g hK (by decide) (by decide) (fx' := [(7, 6, q1_, .int x_104), (7, 5, q1_, .ref a_98), (7, 4, q1_, .ref a_97), (5, 6, a_29, .int x_31), (2, 10, a0_, .ref a_30), (2, 1, a0_, .ref a_29), (2, 11, a0_, .int y_11), (2, 8, a0_, .ref a_14), (2, 7, a0_, .ref a_13), (8, 6, q0_, .int x_2), (2, 0, a0_, .ref q0_), (2, 3, a0_, .ref q1_), (8, 8, q0_, .int y1_)]) rfl (fun fr_114 H locs hp hMr_114 g => ?_)
          obtain ⟨hG_115, hG_116, hG_117, x_118, h_119, hF_120⟩ := hp
          have hG_121 := vC.frame hMr_114 go_.2.2.2.1 ma_13 ka_13 (by decide) (by decide) hG_107
          have hG_122 := vB.frame hMr_114 go_.2.2.2.1 ma_14 ka_14 (by decide) (by decide) hG_108
          have hG_123 := lJ.frame hMr_114 go_.2.2.2.1 mq1_ kq1_ (by decide) (by decide) hl_111
          have hG_124 := bJx.frame hMr_114 go_.2.2.2.1 ma0_ ka0_ (by decide) (by decide) hG_112
          have hG_125 := jOK.frame hMr_114 go_.2.2.2.1 mq1_ kq1_ (by decide) (by decide) hj_109
          have hG_126 := jOK.frame hMr_114 go_.2.2.2.1 mq1_ kq1_ (by decide) (by decide) hj_113
          have g := g.more hF_120
          have e_127 := fx_same g 1 0 rfl rfl
          have g := g.sub (fx' := [(7, 6, q1_, .int x_104), (7, 5, q1_, .ref a_98), (7, 4, q1_, .ref a_97), (5, 6, a_29, .int x_31), (2, 10, a0_, .ref a_30), (2, 1, a0_, .ref a_29), (2, 11, a0_, .int y_11), (2, 8, a0_, .ref a_14), (2, 7, a0_, .ref a_13), (8, 6, q0_, .int x_2), (2, 0, a0_, .ref q0_), (2, 3, a0_, .ref q1_), (8, 8, q0_, .int y1_)]) [1, 2, 3, 4, 5, 6, 7, 8, 9, 10, 11, 12, 13] rfl
          have hs_128 := jS.mv hs_110 hG_117
          refine lv_iload_n hx hb dX2_closeBlock_162 rfl (lv_at hl 1 rfl) ?_
          refine lv_if_eq (tgt := 180) hx hb dX2_closeBlock_163 (by decide) (fun c_ => absurd c_ (by decide)) (fun c_ => ?_)
          refine lv_aload_n hx hb dX2_closeBlock_166 rfl (lv_at hl 3 rfl) ?_
          refine g_getk (C := RX2) (T := TX2) (N := 16) hx hb hts (mc_ inX2) hown hK g rfl 0 (by decide) rfl (hts _ (List.mem_cons_of_mem _ t_416)) (fun _ h9 => h9) 10 rfl dX2_closeBlock_167 ?_
          have go_ := g
          refine g_callv (va_runV (As := []) (rest := []) ⟨hx, hb, hml, hown, hts⟩ (r_X8_next l dC dI L kd tys fr_114 H.size g.2.2.2.1 q0_ mq0_ kq0_) (cwV 0 hts (gV_ t_1131 t_1103 t_1104 t_184 t_1105) rfl rfl rfl (by decide +kernel) ⟨(Nat.le_of_ble_eq_true rfl), (Nat.le_of_ble_eq_true rfl)⟩) (pre3V g hK mq0_ kq0_ (by decide) (q := (RX8, TX8, 10)) rfl) rfl rfl hl.1 rfl (lv_room (Nat.le_of_ble_eq_true rfl)) dX2_closeBlock_170 ⟨(Nat.le_of_ble_eq_true rfl), (Nat.le_of_ble_eq_true rfl)⟩) g hK (by decide) (by decide) (fx' := [(7, 6, q1_, .int x_104), (7, 5, q1_, .ref a_98), (7, 4, q1_, .ref a_97), (5, 6, a_29, .int x_31), (2, 10, a0_, .ref a_30), (2, 1, a0_, .ref a_29), (2, 11, a0_, .int y_11), (2, 8, a0_, .ref a_14), (2, 7, a0_, .ref a_13), (2, 0, a0_, .ref q0_), (2, 3, a0_, .ref q1_), (8, 8, q0_, .int y1_)]) rfl (fun fr_129 H locs hp hMr_129 g => ?_)
          obtain ⟨x_130, h_131, hF_132⟩ := hp
          have hG_133 := cOK.frame hMr_129 go_.2.2.2.1 mq1_ kq1_ (by decide) (by decide) hG_116
          have hG_134 := dOK.frame hMr_129 go_.2.2.2.1 mq1_ kq1_ (by decide) (by decide) hG_115
          have hG_135 := jS.frame hMr_129 go_.2.2.2.1 mq1_ kq1_ (by decide) (by decide) hs_128
          have hG_136 := vC.frame hMr_129 go_.2.2.2.1 ma_13 ka_13 (by decide) (by decide) hG_121
          have hG_137 := vB.frame hMr_129 go_.2.2.2.1 ma_14 ka_14 (by decide) (by decide) hG_122
          have hG_138 := lJ.frame hMr_129 go_.2.2.2.1 mq1_ kq1_ (by decide) (by decide) hG_123
          have hG_139 := bJx.frame hMr_129 go_.2.2.2.1 ma0_ ka0_ (by decide) (by decide) hG_124
          have hG_140 := jOK.frame hMr_129 go_.2.2.2.1 mq1_ kq1_ (by decide) (by decide) hG_125
          have hG_141 := jOK.frame hMr_129 go_.2.2.2.1 mq1_ kq1_ (by decide) (by decide) hG_126
          have g := g.more hF_132
          refine lv_aload_n hx hb dX2_closeBlock_173 rfl (lv_at hl 3 rfl) ?_
          refine lv_iconst (v := 2) hx hb dX2_closeBlock_174 (by decide) ?_
          refine lv_iload_n hx hb dX2_closeBlock_175 rfl (lv_at hl 0 rfl) ?_
          refine lv_iconst (v := (-1)) hx hb dX2_closeBlock_176 (by decide) ?_
          have kb_2 : bd 2 2 (2 : Int32) := ⟨by decide, by decide⟩
          have go_ := g
          refine g_callv (va_runV (As := [.int 2, .int x_96, .int (-1)]) (rest := []) ⟨hx, hb, hml, hown, hts⟩ (r_X2_openBlock l dC dI L kd tys fr_129 H.size g.2.2.2.1 a0_ ma0_ ka0_ 2 x_96 (-1) q0_ mq0_ kq0_ q1_ mq1_ kq1_ y1_ by1_ hG_139 (fun _ => hG_140) (g.fcts [10, 11, 12] rfl)) (cwV 3 hts (gV_ t_1338 t_1340 t_40 t_183 t_1341) rfl rfl rfl (by decide +kernel) ⟨(Nat.le_of_ble_eq_true rfl), (Nat.le_of_ble_eq_true rfl)⟩) (pre3V g hK ma0_ ka0_ (by decide) (q := (RX2, TX2, 16)) rfl) rfl rfl hl.1 rfl (lv_room (Nat.le_of_ble_eq_true rfl)) dX2_closeBlock_177 ⟨(Nat.le_of_ble_eq_true rfl), (Nat.le_of_ble_eq_true rfl)⟩) g hK (by decide) (by decide) (fx' := [(7, 6, q1_, .int x_104), (7, 5, q1_, .ref a_98), (7, 4, q1_, .ref a_97), (5, 6, a_29, .int x_31), (2, 10, a0_, .ref a_30), (2, 1, a0_, .ref a_29), (2, 8, a0_, .ref a_14), (2, 7, a0_, .ref a_13), (2, 0, a0_, .ref q0_), (2, 3, a0_, .ref q1_)]) rfl (fun fr_142 H locs hp hMr_142 g => ?_)
          rcases hp with ⟨hG_143, x_144, h_145, x_146, h_147, hF_148⟩ | ⟨hG_149, x_150, h_151, hF_152⟩
          · have hG_153 := cOK.frame hMr_142 go_.2.2.2.1 mq1_ kq1_ (by decide) (by decide) hG_133
            have hG_154 := dOK.frame hMr_142 go_.2.2.2.1 mq1_ kq1_ (by decide) (by decide) hG_134
            have hG_155 := jS.frame hMr_142 go_.2.2.2.1 mq1_ kq1_ (by decide) (by decide) hG_135
            have hG_156 := lJ.frame hMr_142 go_.2.2.2.1 mq1_ kq1_ (by decide) (by decide) hG_138
            have hG_157 := jOK.frame hMr_142 go_.2.2.2.1 mq1_ kq1_ (by decide) (by decide) hG_140
            have hG_158 := jOK.frame hMr_142 go_.2.2.2.1 mq1_ kq1_ (by decide) (by decide) hG_141
            have g := g.more hF_148
            subst hQ
            exact W.vret hx hb hr (fun t ht hW => ⟨⟨_, rfl, Or.inl ⟨hG_143, hG_153, hG_154, hG_155, x_144, h_145, (g.fcts [0, 2] rfl)⟩, q3_of g hK ht hW⟩, g.2.2.1.F ht⟩) g.2.2.1.2.2 dX2_closeBlock_180
          · have hG_159 := cOK.frame hMr_142 go_.2.2.2.1 mq1_ kq1_ (by decide) (by decide) hG_133
            have hG_160 := dOK.frame hMr_142 go_.2.2.2.1 mq1_ kq1_ (by decide) (by decide) hG_134
            have hG_161 := jS.frame hMr_142 go_.2.2.2.1 mq1_ kq1_ (by decide) (by decide) hG_135
            have hG_162 := lJ.frame hMr_142 go_.2.2.2.1 mq1_ kq1_ (by decide) (by decide) hG_138
            have hG_163 := jOK.frame hMr_142 go_.2.2.2.1 mq1_ kq1_ (by decide) (by decide) hG_140
            have hG_164 := jOK.frame hMr_142 go_.2.2.2.1 mq1_ kq1_ (by decide) (by decide) hG_141
            have g := g.more hF_152
            subst hQ
            exact W.vret hx hb hr (fun t ht hW => ⟨⟨_, rfl, Or.inr (⟨hG_149, hG_159, hG_160, hG_161, x_150, h_151, (g.fcts [0, 1] rfl)⟩), q3_of g hK ht hW⟩, g.2.2.1.F ht⟩) g.2.2.1.2.2 dX2_closeBlock_180
    · have fc_46 := eq_f c_46
      have b_165 : bd 3 3 x_42 := eqX fc_46 (bdT x_42) kb_3 (by decide)
      refine lv_aload_n hx hb dX2_closeBlock_83 rfl (lv_at hl 1 rfl) ?_
      refine g_getk (C := RX2) (T := TX2) (N := 16) hx hb hts (mc_ inX2) hown hK g rfl 3 (by decide) rfl (hts _ (List.mem_cons_of_mem _ t_419)) (fun _ h9 => h9) 8 rfl dX2_closeBlock_84 ?_
      refine lv_bipush (v := 15) hx hb dX2_closeBlock_87 (by decide) ?_
      refine lv_aload_n hx hb dX2_closeBlock_89 rfl (lv_at hl 1 rfl) ?_
      refine g_getr (K := 120) (C := RX2) (T := TX2) (N := 16) hx hb hts (mc_ inX2) hown hK g ma0_ ka0_ (by decide) rfl 9 (by decide) rfl (hts _ (List.mem_cons_of_mem _ t_425)) (fun _ h9 => h9) rfl dX2_closeBlock_90 (fun a_166 ma_166 ka_166 g => ?_)
      refine lv_aload_n hx hb dX2_closeBlock_93 rfl (lv_at hl 1 rfl) ?_
      refine g_getk (C := RX2) (T := TX2) (N := 16) hx hb hts (mc_ inX2) hown hK g rfl 11 (by decide) rfl (hts _ (List.mem_cons_of_mem _ t_427)) (fun _ h9 => h9) 4 rfl dX2_closeBlock_94 ?_
      refine g_iald hx hb hK g ma_166 ka_166 (by decide) rfl (in_bd b_12 (by decide)) dX2_closeBlock_97 (fun x_167 bx_167 cx_167 => ?_)
      obtain ⟨a_168, ma_168, ka_168, g⟩ := g_factr g mq1_ kq1_ (by decide) 4 rfl
      obtain ⟨a_169, ma_169, ka_169, g⟩ := g_factr g mq1_ kq1_ (by decide) 5 rfl
      obtain ⟨x_170, bx_170, g⟩ := g_facti g mq1_ kq1_ (by decide) 6 rfl
      have kb_15 : bd 15 15 (15 : Int32) := ⟨by decide, by decide⟩
      have go_ := g
      refine g_callv (va_runV (As := [.int 15, .int x_167]) (rest := []) ⟨hx, hb, hml, hown, hts⟩ (r_X7_emitN l dC dI L kd tys f H.size g.2.2.2.1 q1_ mq1_ kq1_ a_168 ma_168 ka_168 a_169 ma_169 ka_169 x_170 bx_170 T_ hG_34 (15 : Int32) x_167 (fun j9 => jOK f q1_ j9) hG_33 (fun _ h9 => h9) ⟨(fun h9 => ⟨(by have h9_0 := bx_170; unfold bd at h9_0; have h9_1 := h_3; unfold bd at h9_1; have h9_2 := bx_31; unfold bd at h9_2; have h9_3 := b_165; unfold bd at h9_3; have h9_4 := by0_; unfold bd at h9_4; have h9_5 := by1_; unfold bd at h9_5; have h9_6 := b_12; unfold bd at h9_6; have h9_7 := b_10; unfold bd at h9_7; have h8_0 := kb_0; unfold bd at h8_0; have h8_1 := kb_1; unfold bd at h8_1; have h8_2 := kb_15; unfold bd at h8_2; have h8_3 := kb_3; unfold bd at h8_3; omega), (by have h9_0 := bx_170; unfold bd at h9_0; have h9_1 := h_3; unfold bd at h9_1; have h9_2 := bx_31; unfold bd at h9_2; have h9_3 := b_165; unfold bd at h9_3; have h9_4 := by0_; unfold bd at h9_4; have h9_5 := by1_; unfold bd at h9_5; have h9_6 := b_12; unfold bd at h9_6; have h9_7 := b_10; unfold bd at h9_7; have h8_0 := kb_0; unfold bd at h8_0; have h8_1 := kb_1; unfold bd at h8_1; have h8_2 := kb_15; unfold bd at h8_2; have h8_3 := kb_3; unfold bd at h8_3; omega)⟩), (fun h9 => ⟨(by have h9_0 := bx_170; unfold bd at h9_0; have h9_1 := h_3; unfold bd at h9_1; have h9_2 := bx_31; unfold bd at h9_2; have h9_3 := b_165; unfold bd at h9_3; have h9_4 := by0_; unfold bd at h9_4; have h9_5 := by1_; unfold bd at h9_5; have h9_6 := b_12; unfold bd at h9_6; have h9_7 := b_10; unfold bd at h9_7; have h8_0 := kb_0; unfold bd at h8_0; have h8_1 := kb_1; unfold bd at h8_1; have h8_2 := kb_15; unfold bd at h8_2; have h8_3 := kb_3; unfold bd at h8_3; omega), (by have h9_0 := bx_170; unfold bd at h9_0; have h9_1 := h_3; unfold bd at h9_1; have h9_2 := bx_31; unfold bd at h9_2; have h9_3 := b_165; unfold bd at h9_3; have h9_4 := by0_; unfold bd at h9_4; have h9_5 := by1_; unfold bd at h9_5; have h9_6 := b_12; unfold bd at h9_6; have h9_7 := b_10; unfold bd at h9_7; have h8_0 := kb_0; unfold bd at h8_0; have h8_1 := kb_1; unfold bd at h8_1; have h8_2 := kb_15; unfold bd at h8_2; have h8_3 := kb_3; unfold bd at h8_3; omega)⟩), (fun h9 => ⟨(by have h9_0 := bx_170; unfold bd at h9_0; have h9_1 := h_3; unfold bd at h9_1; have h9_2 := bx_31; unfold bd at h9_2; have h9_3 := b_165; unfold bd at h9_3; have h9_4 := by0_; unfold bd at h9_4; have h9_5 := by1_; unfold bd at h9_5; have h9_6 := b_12; unfold bd at h9_6; have h9_7 := b_10; unfold bd at h9_7; have h8_0 := kb_0; unfold bd at h8_0; have h8_1 := kb_1; unfold bd at h8_1; have h8_2 := kb_15; unfold bd at h8_2; have h8_3 := kb_3; unfold bd at h8_3; omega), (by have h9_0 := bx_170; unfold bd at h9_0; have h9_1 := h_3; unfold bd at h9_1; have h9_2 := bx_31; unfold bd at h9_2; have h9_3 := b_165; unfold bd at h9_3; have h9_4 := by0_; unfold bd at h9_4; have h9_5 := by1_; unfold bd at h9_5; have h9_6 := b_12; unfold bd at h9_6; have h9_7 := b_10; unfold bd at h9_7; have h8_0 := kb_0; unfold bd at h8_0; have h8_1 := kb_1; unfold bd at h8_1; have h8_2 := kb_15; unfold bd at h8_2; have h8_3 := kb_3; unfold bd at h8_3; omega)⟩)⟩ (g.fcts [2, 1, 0] rfl)) (cwV 2 hts (gV_ t_1301 t_1204 t_1205 t_191 t_1206) rfl rfl rfl (by decide +kernel) ⟨(Nat.le_of_ble_eq_true rfl), (Nat.le_of_ble_eq_true rfl)⟩) (pre3V g hK mq1_ kq1_ (by decide) (q := (RX7, TX7, 19)) rfl) rfl rfl hl.1 rfl (lv_room (Nat.le_of_ble_eq_true rfl)) dX2_closeBlock_98 ⟨(Nat.le_of_ble_eq_true rfl), (Nat.le_of_ble_eq_true rfl)⟩) g hK (by decide) (by decide) (fx' := [(7, 5, q1_, .ref a_169), (7, 4, q1_, .ref a_168), (2, 9, a0_, .ref a_166), (5, 6, a_29, .int x_31), (2, 10, a0_, .ref a_30), (2, 1, a0_, .ref a_29), (2, 11, a0_, .int y_11), (2, 8, a0_, .ref a_14), (2, 7, a0_, .ref a_13), (8, 6, q0_, .int x_2), (2, 0, a0_, .ref q0_), (2, 3, a0_, .ref q1_), (8, 8, q0_, .int y1_)]) rfl (fun fr_171 H locs hp hMr_171 g => ?_)
      obtain ⟨hG_172, hG_173, hG_174, hx_175, x_176, h_177, hF_178⟩ := hp
      have hG_179 := vC.frame hMr_171 go_.2.2.2.1 ma_13 ka_13 (by decide) (by decide) hG_36
      have hG_180 := vB.frame hMr_171 go_.2.2.2.1 ma_14 ka_14 (by decide) (by decide) hG_37
      have hj_181 := hx_175 (by unfold jop; decide)
      have g := g.more hF_178
      have hs_182 := jS.mv hG_35 hG_174
      have hl_183 := lJ.mv hG_38 hG_174
      have hG_184 := bJx.mv hG_39 hMr_171 go_.2.2.2.1 ma0_ ka0_ (by decide) (by decide) (((hMr_171 a0_ ma0_).1 3 (by rw [ka0_]; decide) (by rw [ka0_]; decide)).symm.trans (fx_at g (i := 12) rfl).2.2.2) hG_174
      refine lv_aload_n hx hb dX2_closeBlock_101 rfl (lv_at hl 1 rfl) ?_
      refine g_getk (C := RX2) (T := TX2) (N := 16) hx hb hts (mc_ inX2) hown hK g rfl 7 (by decide) rfl (hts _ (List.mem_cons_of_mem _ t_423)) (fun _ h9 => h9) 9 rfl dX2_closeBlock_102 ?_
      refine lv_aload_n hx hb dX2_closeBlock_105 rfl (lv_at hl 1 rfl) ?_
      refine g_getk (C := RX2) (T := TX2) (N := 16) hx hb hts (mc_ inX2) hown hK g rfl 11 (by decide) rfl (hts _ (List.mem_cons_of_mem _ t_427)) (fun _ h9 => h9) 7 rfl dX2_closeBlock_106 ?_
      refine g_iald hx hb hK g ma_13 ka_13 (by decide) rfl (in_bd b_12 (by decide)) dX2_closeBlock_109 (fun x_185 bx_185 cx_185 => ?_)
      obtain rfl : x_42 = x_185 := el_same cx_42 cx_185 (arr_eq hMr_171 ma_13 ka_13 (by decide) rfl)
      refine lv_iconst (v := 1) hx hb dX2_closeBlock_110 (by decide) ?_
      refine lv_icmp_ne (tgt := 130) hx hb dX2_closeBlock_111 (by decide) (fun c_186 => ?_) (fun c_186 => ?_)
      · have fc_186 := neq_f c_186
        refine lv_iconst (v := 0) hx hb dX2_closeBlock_130 (by decide) ?_
        refine lv_istore_n (lv' := [(2, .int 0), (1, .int x_40), (0, .ref a0_)]) hx hb dX2_closeBlock_131 rfl hl (by decide) rfl (fun ls hl => ?_)
        refine lv_aload_n hx hb dX2_closeBlock_132 rfl (lv_at hl 2 rfl) ?_
        refine g_getk (C := RX2) (T := TX2) (N := 16) hx hb hts (mc_ inX2) hown hK g rfl 3 (by decide) rfl (hts _ (List.mem_cons_of_mem _ t_419)) (fun _ h9 => h9) 12 rfl dX2_closeBlock_133 ?_
        refine g_getk (C := RX7) (T := TX7) (N := 19) hx hb hts (mc_ inX7) hown hK g rfl 6 (by decide) rfl (hts _ (List.mem_cons_of_mem _ t_647)) (fun _ h9 => h9) 0 rfl dX2_closeBlock_136 ?_
        refine lv_istore_n (lv' := [(3, .int x_176), (2, .int 0), (1, .int x_40), (0, .ref a0_)]) hx hb dX2_closeBlock_139 rfl hl (by decide) rfl (fun ls hl => ?_)
        refine lv_iload_n hx hb dX2_closeBlock_140 rfl (lv_at hl 1 rfl) ?_
        refine lv_if_eq (tgt := 154) hx hb dX2_closeBlock_141 (by decide) (fun c_ => ?_) (fun c_ => absurd (by decide) c_)
        refine lv_aload_n hx hb dX2_closeBlock_154 rfl (lv_at hl 3 rfl) ?_
        refine g_getk (C := RX2) (T := TX2) (N := 16) hx hb hts (mc_ inX2) hown hK g rfl 3 (by decide) rfl (hts _ (List.mem_cons_of_mem _ t_419)) (fun _ h9 => h9) 12 rfl dX2_closeBlock_155 ?_
        refine lv_iload_n hx hb dX2_closeBlock_158 rfl (lv_at hl 2 rfl) ?_
        have hj_187 : jOK fr_171 q1_ x_40 := by rw [ht_41]; exact hl_183 (by rw [← ht_43]; have h7_0 := fc_44; have h9_0 := bx_170; unfold bd at h9_0; have h9_1 := h_177; unfold bd at h9_1; have h9_2 := h_3; unfold bd at h9_2; have h9_3 := bx_31; unfold bd at h9_3; have h9_4 := b_165; unfold bd at h9_4; have h9_5 := by0_; unfold bd at h9_5; have h9_6 := by1_; unfold bd at h9_6; have h9_7 := b_12; unfold bd at h9_7; have h9_8 := b_10; unfold bd at h9_8; have h8_0 := kb_0; unfold bd at h8_0; have h8_1 := kb_1; unfold bd at h8_1; have h8_2 := kb_15; unfold bd at h8_2; have h8_3 := kb_3; unfold bd at h8_3; omega)
        have go_ := g
        refine g_callv (va_runV (As := [.int x_40]) (rest := []) ⟨hx, hb, hml, hown, hts⟩ (r_X7_leadHereN l dC dI L kd tys fr_171 H.size g.2.2.2.1 q1_ mq1_ kq1_ a_168 ma_168 ka_168 a_169 ma_169 ka_169 x_176 h_177 T_ hG_172 x_40 (fun j9 => jOK fr_171 q1_ j9) hG_173 (fun _ h9 => h9) hj_187 (g.fcts [2, 1, 0] rfl)) (cwV 1 hts (gV_ t_1350 t_1208 t_1209 t_191 t_1210) rfl rfl rfl (by decide +kernel) ⟨(Nat.le_of_ble_eq_true rfl), (Nat.le_of_ble_eq_true rfl)⟩) (pre3V g hK mq1_ kq1_ (by decide) (q := (RX7, TX7, 19)) rfl) rfl rfl hl.1 rfl (lv_room (Nat.le_of_ble_eq_true rfl)) dX2_closeBlock_159 ⟨(Nat.le_of_ble_eq_true rfl), (Nat.le_of_ble_eq_true rfl)⟩) g hK (by decide) (by decide) (fx' := [(7, 6, q1_, .int x_176), (7, 5, q1_, .ref a_169), (7, 4, q1_, .ref a_168), (2, 9, a0_, .ref a_166), (5, 6, a_29, .int x_31), (2, 10, a0_, .ref a_30), (2, 1, a0_, .ref a_29), (2, 11, a0_, .int y_11), (2, 8, a0_, .ref a_14), (2, 7, a0_, .ref a_13), (8, 6, q0_, .int x_2), (2, 0, a0_, .ref q0_), (2, 3, a0_, .ref q1_), (8, 8, q0_, .int y1_)]) rfl (fun fr_188 H locs hp hMr_188 g => ?_)
        obtain ⟨hG_189, hG_190, hG_191, x_192, h_193, hF_194⟩ := hp
        have hG_195 := vC.frame hMr_188 go_.2.2.2.1 ma_13 ka_13 (by decide) (by decide) hG_179
        have hG_196 := vB.frame hMr_188 go_.2.2.2.1 ma_14 ka_14 (by decide) (by decide) hG_180
        have hG_197 := lJ.frame hMr_188 go_.2.2.2.1 mq1_ kq1_ (by decide) (by decide) hl_183
        have hG_198 := bJx.frame hMr_188 go_.2.2.2.1 ma0_ ka0_ (by decide) (by decide) hG_184
        have hG_199 := jOK.frame hMr_188 go_.2.2.2.1 mq1_ kq1_ (by decide) (by decide) hj_181
        have hG_200 := jOK.frame hMr_188 go_.2.2.2.1 mq1_ kq1_ (by decide) (by decide) hj_187
        have g := g.more hF_194
        have e_201 := fx_same g 1 0 rfl rfl
        have g := g.sub (fx' := [(7, 6, q1_, .int x_176), (7, 5, q1_, .ref a_169), (7, 4, q1_, .ref a_168), (2, 9, a0_, .ref a_166), (5, 6, a_29, .int x_31), (2, 10, a0_, .ref a_30), (2, 1, a0_, .ref a_29), (2, 11, a0_, .int y_11), (2, 8, a0_, .ref a_14), (2, 7, a0_, .ref a_13), (8, 6, q0_, .int x_2), (2, 0, a0_, .ref q0_), (2, 3, a0_, .ref q1_), (8, 8, q0_, .int y1_)]) [1, 2, 3, 4, 5, 6, 7, 8, 9, 10, 11, 12, 13, 14] rfl
        have hs_202 := jS.mv hs_182 hG_191
        refine lv_iload_n hx hb dX2_closeBlock_162 rfl (lv_at hl 1 rfl) ?_
        refine lv_if_eq (tgt := 180) hx hb dX2_closeBlock_163 (by decide) (fun c_ => ?_) (fun c_ => absurd (by decide) c_)
        subst hQ
        exact W.vret hx hb hr (fun t ht hW => ⟨⟨_, rfl, Or.inl ⟨hG_198, hG_190, hG_189, hs_202, x_2, h_3, (g.fcts [10, 13] rfl)⟩, q3_of g hK ht hW⟩, g.2.2.1.F ht⟩) g.2.2.1.2.2 dX2_closeBlock_180
      · have fc_186 := eq_f c_186
        have b_203 : bd 3 1 x_42 := eqX fc_186 b_165 kb_1 (by decide)
        exact bd_no b_203 (by decide)
  · have fc_44 := eq_f c_44
    have b_204 : bd 0 0 x_42 := eqX fc_44 (bdT x_42) kb_0 (by decide)
    refine lv_aload_n hx hb dX2_closeBlock_59 rfl (lv_at hl 1 rfl) ?_
    refine g_getk (C := RX2) (T := TX2) (N := 16) hx hb hts (mc_ inX2) hown hK g rfl 3 (by decide) rfl (hts _ (List.mem_cons_of_mem _ t_419)) (fun _ h9 => h9) 8 rfl dX2_closeBlock_60 ?_
    refine lv_bipush (v := 19) hx hb dX2_closeBlock_63 (by decide) ?_
    refine lv_iconst (v := 0) hx hb dX2_closeBlock_65 (by decide) ?_
    obtain ⟨a_205, ma_205, ka_205, g⟩ := g_factr g mq1_ kq1_ (by decide) 4 rfl
    obtain ⟨a_206, ma_206, ka_206, g⟩ := g_factr g mq1_ kq1_ (by decide) 5 rfl
    obtain ⟨x_207, bx_207, g⟩ := g_facti g mq1_ kq1_ (by decide) 6 rfl
    have kb_19 : bd 19 19 (19 : Int32) := ⟨by decide, by decide⟩
    have go_ := g
    refine g_callv (va_runV (As := [.int 19, .int 0]) (rest := []) ⟨hx, hb, hml, hown, hts⟩ (r_X7_emitN l dC dI L kd tys f H.size g.2.2.2.1 q1_ mq1_ kq1_ a_205 ma_205 ka_205 a_206 ma_206 ka_206 x_207 bx_207 T_ hG_34 (19 : Int32) (0 : Int32) (fun j9 => jOK f q1_ j9) hG_33 (fun _ h9 => h9) ⟨(fun h9 => ⟨(by have h9_0 := h_3; unfold bd at h9_0; have h9_1 := bx_207; unfold bd at h9_1; have h9_2 := bx_31; unfold bd at h9_2; have h9_3 := b_204; unfold bd at h9_3; have h9_4 := by0_; unfold bd at h9_4; have h9_5 := by1_; unfold bd at h9_5; have h9_6 := b_12; unfold bd at h9_6; have h9_7 := b_10; unfold bd at h9_7; have h8_0 := kb_0; unfold bd at h8_0; have h8_1 := kb_1; unfold bd at h8_1; have h8_2 := kb_19; unfold bd at h8_2; omega), (by have h9_0 := h_3; unfold bd at h9_0; have h9_1 := bx_207; unfold bd at h9_1; have h9_2 := bx_31; unfold bd at h9_2; have h9_3 := b_204; unfold bd at h9_3; have h9_4 := by0_; unfold bd at h9_4; have h9_5 := by1_; unfold bd at h9_5; have h9_6 := b_12; unfold bd at h9_6; have h9_7 := b_10; unfold bd at h9_7; have h8_0 := kb_0; unfold bd at h8_0; have h8_1 := kb_1; unfold bd at h8_1; have h8_2 := kb_19; unfold bd at h8_2; omega)⟩), (fun h9 => ⟨(by have h9_0 := h_3; unfold bd at h9_0; have h9_1 := bx_207; unfold bd at h9_1; have h9_2 := bx_31; unfold bd at h9_2; have h9_3 := b_204; unfold bd at h9_3; have h9_4 := by0_; unfold bd at h9_4; have h9_5 := by1_; unfold bd at h9_5; have h9_6 := b_12; unfold bd at h9_6; have h9_7 := b_10; unfold bd at h9_7; have h8_0 := kb_0; unfold bd at h8_0; have h8_1 := kb_1; unfold bd at h8_1; have h8_2 := kb_19; unfold bd at h8_2; omega), (by have h9_0 := h_3; unfold bd at h9_0; have h9_1 := bx_207; unfold bd at h9_1; have h9_2 := bx_31; unfold bd at h9_2; have h9_3 := b_204; unfold bd at h9_3; have h9_4 := by0_; unfold bd at h9_4; have h9_5 := by1_; unfold bd at h9_5; have h9_6 := b_12; unfold bd at h9_6; have h9_7 := b_10; unfold bd at h9_7; have h8_0 := kb_0; unfold bd at h8_0; have h8_1 := kb_1; unfold bd at h8_1; have h8_2 := kb_19; unfold bd at h8_2; omega)⟩), (fun h9 => ⟨(by have h9_0 := h_3; unfold bd at h9_0; have h9_1 := bx_207; unfold bd at h9_1; have h9_2 := bx_31; unfold bd at h9_2; have h9_3 := b_204; unfold bd at h9_3; have h9_4 := by0_; unfold bd at h9_4; have h9_5 := by1_; unfold bd at h9_5; have h9_6 := b_12; unfold bd at h9_6; have h9_7 := b_10; unfold bd at h9_7; have h8_0 := kb_0; unfold bd at h8_0; have h8_1 := kb_1; unfold bd at h8_1; have h8_2 := kb_19; unfold bd at h8_2; omega), (by have h9_0 := h_3; unfold bd at h9_0; have h9_1 := bx_207; unfold bd at h9_1; have h9_2 := bx_31; unfold bd at h9_2; have h9_3 := b_204; unfold bd at h9_3; have h9_4 := by0_; unfold bd at h9_4; have h9_5 := by1_; unfold bd at h9_5; have h9_6 := b_12; unfold bd at h9_6; have h9_7 := b_10; unfold bd at h9_7; have h8_0 := kb_0; unfold bd at h8_0; have h8_1 := kb_1; unfold bd at h8_1; have h8_2 := kb_19; unfold bd at h8_2; omega)⟩)⟩ (g.fcts [2, 1, 0] rfl)) (cwV 2 hts (gV_ t_1301 t_1204 t_1205 t_191 t_1206) rfl rfl rfl (by decide +kernel) ⟨(Nat.le_of_ble_eq_true rfl), (Nat.le_of_ble_eq_true rfl)⟩) (pre3V g hK mq1_ kq1_ (by decide) (q := (RX7, TX7, 19)) rfl) rfl rfl hl.1 rfl (lv_room (Nat.le_of_ble_eq_true rfl)) dX2_closeBlock_66 ⟨(Nat.le_of_ble_eq_true rfl), (Nat.le_of_ble_eq_true rfl)⟩) g hK (by decide) (by decide) (fx' := [(7, 5, q1_, .ref a_206), (7, 4, q1_, .ref a_205), (5, 6, a_29, .int x_31), (2, 10, a0_, .ref a_30), (2, 1, a0_, .ref a_29), (2, 11, a0_, .int y_11), (2, 8, a0_, .ref a_14), (2, 7, a0_, .ref a_13), (8, 6, q0_, .int x_2), (2, 0, a0_, .ref q0_), (2, 3, a0_, .ref q1_), (8, 8, q0_, .int y1_)]) rfl (fun fr_208 H locs hp hMr_208 g => ?_)
    obtain ⟨hG_209, hG_210, hG_211, hx_212, x_213, h_214, hF_215⟩ := hp
    have hG_216 := vC.frame hMr_208 go_.2.2.2.1 ma_13 ka_13 (by decide) (by decide) hG_36
    have hG_217 := vB.frame hMr_208 go_.2.2.2.1 ma_14 ka_14 (by decide) (by decide) hG_37
    have g := g.more hF_215
    have hs_218 := jS.mv hG_35 hG_211
    have hl_219 := lJ.mv hG_38 hG_211
    have hG_220 := bJx.mv hG_39 hMr_208 go_.2.2.2.1 ma0_ ka0_ (by decide) (by decide) (((hMr_208 a0_ ma0_).1 3 (by rw [ka0_]; decide) (by rw [ka0_]; decide)).symm.trans (fx_at g (i := 11) rfl).2.2.2) hG_211
    subst hQ
    exact W.vret hx hb hr (fun t ht hW => ⟨⟨_, rfl, Or.inl ⟨hG_220, hG_210, hG_209, hs_218, x_2, h_3, (g.fcts [9, 12] rfl)⟩, q3_of g hK ht hW⟩, g.2.2.1.F ht⟩) g.2.2.1.2.2 dX2_closeBlock_69
