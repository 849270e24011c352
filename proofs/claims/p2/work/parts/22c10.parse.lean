set_option maxHeartbeats 4000000 in
set_option maxRecDepth 100000 in
theorem r_X0_readOld_2 (l : Launch) (dC : Nat → ClassId) (dI : Nat → Nat → Nat) (L : List Nat) (kd : Nat → Nat) (tys : List (ClassId × FieldType)) (f0 : Nat → va_E) (sz : Nat) (hWT : WT L kd tys f0) (a0_ : Nat) (ma0_ : a0_ ∈ L) (ka0_ : kd a0_ = 0) (q0_ : Nat) (mq0_ : q0_ ∈ L) (kq0_ : kd q0_ = 8) (q1_ : Nat) (mq1_ : q1_ ∈ L) (kq1_ : kd q1_ = 5) (q2_ : Nat) (mq2_ : q2_ ∈ L) (kq2_ : kd q2_ = 7) (q3_ : Nat) (mq3_ : q3_ ∈ L) (kq3_ : kd q3_ = 9) (y0_ : Int32) (by0_ : bd 0 0 y0_) (hGea0_ : eOK f0 a0_) (hfx : Fs L kd f0 [(0, 0, a0_, .ref q0_), (0, 1, a0_, .ref q1_), (0, 2, a0_, .ref q2_), (5, 1, q1_, .ref q3_), (8, 8, q0_, .int y0_)]) : Met l yX0_readOld (.code yX0_readOld cX0_readOld 5 none :: lw_g) ({ frames := 2, cells := 0, slots := 0, locals := 46 }) (va_Pc [.ref a0_] (P3 (dC, dI) L tys f0 sz)) (va_Qv (fun (f : Nat → va_E) => (eOK f a0_ ∧ ∃ z0_ : Int32, bd 1 1201 z0_ ∧ ∃ z1_ : Int32, bd 0 0 z1_ ∧ ∃ z2_ : Int32, bd (-2147483648) 40 z2_ ∧ Fs L kd f [(8, 6, q0_, .int z0_), (8, 8, q0_, .int z1_), (0, 11, a0_, .int z2_)]) ∨ (eOK f a0_ ∧ ∃ z0_ : Int32, bd 1201 1201 z0_ ∧ ∃ z1_ : Int32, bd 1 7 z1_ ∧ Fs L kd f [(8, 6, q0_, .int z0_), (8, 8, q0_, .int z1_)])) (Q3 (dC, dI) L kd tys [(0, 8), (0, 10), (0, 11), (0, 12), (7, 6), (7, 18), (8, 6), (8, 8), (8, 9)] [110, 111, 112, 113, 114, 115, 138, 139] f0 sz) (pA L sz)) 0 0 (pA L sz) := by
  refine Met.ofW (cc := cX0_readOld) (maxL := 5) (ret := none) (by decide) rfl ?_
  intro p e s m args below meth c s₁ B hml hv
  obtain ⟨rfl, hsz, hP, hK, hD0⟩ := hv
  have hx := B.exec
  have hb := B.bytes
  have hr := B.returns
  have hts := atoms_spec (ws := (.code yX0_readOld cX0_readOld 5 none :: lw_g)) B.pre
  have hown : s.vm.findClass RX0 = some m.cls := findClass_of_methodNamed B.named
  have hlocks := B.notSynchronized
  subst hsz
  have g : G3 (dC, dI) L kd tys s f0 [(0, 8), (0, 10), (0, 11), (0, 12), (7, 6), (7, 18), (8, 6), (8, 8), (8, 9)] [110, 111, 112, 113, 114, 115, 138, 139] f0 s.heap [] [(0, 0, a0_, .ref q0_), (0, 1, a0_, .ref q1_), (0, 2, a0_, .ref q2_), (5, 1, q1_, .ref q3_), (8, 8, q0_, .int y0_)] := G3.start hP hD0 hWT hfx
  have hl := lv_entry ([.ref a0_]) (n := 5) (Nat.le_of_ble_eq_true rfl)
  rw [lg_entry_eq]
  generalize (lg_sl ([.ref a0_]) ++ List.replicate (5 - (lg_sl ([.ref a0_])).length) Slot.unset).toArray = ls at hl ⊢
  have hl : lv_has ls 5 [(0, .ref a0_)] := hl
  refine W_q (fun Q hQ => ?_)
  refine lv_aload_n hx hb dX0_readOld_0 rfl (lv_at hl 0 rfl) ?_
  refine g_getk (C := RX0) (T := TX0) (N := 14) hx hb hts (mc_ inX0) hown hK g rfl 0 (by decide) rfl (hts _ (List.mem_cons_of_mem _ t_373)) (fun _ h9 => h9) 0 rfl dX0_readOld_1 ?_
  have go_ := g
  refine g_calli (va_runV (As := []) (rest := []) ⟨hx, hb, hml, hown, hts⟩ (r_X8_place l dC dI L kd tys f0 s.heap.size g.2.2.2.1 q0_ mq0_ kq0_) (cwV 0 hts (gV_ t_1220 t_1111 t_1112 t_184 t_1113) rfl rfl rfl (by decide +kernel) ⟨(Nat.le_of_ble_eq_true rfl), (Nat.le_of_ble_eq_true rfl)⟩) (pre3V g hK mq0_ kq0_ (by decide) (q := (RX8, TX8, 10)) rfl) rfl rfl hl.1 rfl (lv_room (Nat.le_of_ble_eq_true rfl)) dX0_readOld_4 ⟨(Nat.le_of_ble_eq_true rfl), (Nat.le_of_ble_eq_true rfl)⟩) g hK (by decide) (by decide) (fx' := [(0, 0, a0_, .ref q0_), (0, 1, a0_, .ref q1_), (0, 2, a0_, .ref q2_), (5, 1, q1_, .ref q3_), (8, 8, q0_, .int y0_)]) rfl (fun r_1 fr_1 H locs hp hMr_1 g => ?_)
  have hG_2 := eOK.frame hMr_1 go_.2.2.2.1 ma0_ ka0_ (by decide) (by decide) hGea0_
  refine lv_istore_n (lv' := [(1, .int r_1), (0, .ref a0_)]) hx hb dX0_readOld_7 rfl hl (by decide) rfl (fun ls hl => ?_)
  refine lv_aload_n hx hb dX0_readOld_8 rfl (lv_at hl 1 rfl) ?_
  refine g_getk (C := RX0) (T := TX0) (N := 14) hx hb hts (mc_ inX0) hown hK g rfl 0 (by decide) rfl (hts _ (List.mem_cons_of_mem _ t_373)) (fun _ h9 => h9) 0 rfl dX0_readOld_9 ?_
  have go_ := g
  refine g_callv (va_runV (As := []) (rest := []) ⟨hx, hb, hml, hown, hts⟩ (r_X8_next l dC dI L kd tys fr_1 H.size g.2.2.2.1 q0_ mq0_ kq0_) (cwV 0 hts (gV_ t_1225 t_1103 t_1104 t_184 t_1105) rfl rfl rfl (by decide +kernel) ⟨(Nat.le_of_ble_eq_true rfl), (Nat.le_of_ble_eq_true rfl)⟩) (pre3V g hK mq0_ kq0_ (by decide) (q := (RX8, TX8, 10)) rfl) rfl rfl hl.1 rfl (lv_room (Nat.le_of_ble_eq_true rfl)) dX0_readOld_12 ⟨(Nat.le_of_ble_eq_true rfl), (Nat.le_of_ble_eq_true rfl)⟩) g hK (by decide) (by decide) (fx' := [(0, 0, a0_, .ref q0_), (0, 1, a0_, .ref q1_), (0, 2, a0_, .ref q2_), (5, 1, q1_, .ref q3_), (8, 8, q0_, .int y0_)]) rfl (fun fr_3 H locs hp hMr_3 g => ?_)
  obtain ⟨x_4, h_5, hF_6⟩ := hp
  have hG_7 := eOK.frame hMr_3 go_.2.2.2.1 ma0_ ka0_ (by decide) (by decide) hG_2
  have g := g.more hF_6
  refine lv_aload_n hx hb dX0_readOld_15 rfl (lv_at hl 1 rfl) ?_
  have go_ := g
  refine g_callv (va_runV (As := []) (rest := []) ⟨hx, hb, hml, hown, hts⟩ (r_X0_takeBracket l dC dI L kd tys fr_3 H.size g.2.2.2.1 a0_ ma0_ ka0_ q0_ mq0_ kq0_ y0_ by0_ (g.fcts [1, 5] rfl)) (cwV 0 hts (gV_ t_1289 t_1291 t_29 t_190 t_1292) rfl rfl rfl (by decide +kernel) ⟨(Nat.le_of_ble_eq_true rfl), (Nat.le_of_ble_eq_true rfl)⟩) (pre3V g hK ma0_ ka0_ (by decide) (q := (RX0, TX0, 14)) rfl) rfl rfl hl.1 rfl (lv_room (Nat.le_of_ble_eq_true rfl)) dX0_readOld_16 ⟨(Nat.le_of_ble_eq_true rfl), (Nat.le_of_ble_eq_true rfl)⟩) g hK (by decide) (by decide) (fx' := [(0, 0, a0_, .ref q0_), (0, 1, a0_, .ref q1_), (0, 2, a0_, .ref q2_), (5, 1, q1_, .ref q3_)]) rfl (fun fr_8 H locs hp hMr_8 g => ?_)
  rcases hp with ⟨x_9, h_10, x_11, h_12, x_13, h_14, hF_15⟩ | ⟨x_16, h_17, hF_18⟩
  · have hG_19 := eOK.frame hMr_8 go_.2.2.2.1 ma0_ ka0_ (by decide) (by decide) hG_7
    have g := g.more hF_15
    refine lv_aload_n hx hb dX0_readOld_19 rfl (lv_at hl 1 rfl) ?_
    refine g_getk (C := RX0) (T := TX0) (N := 14) hx hb hts (mc_ inX0) hown hK g rfl 0 (by decide) rfl (hts _ (List.mem_cons_of_mem _ t_373)) (fun _ h9 => h9) 3 rfl dX0_readOld_20 ?_
    have go_ := g
    refine g_calli (va_runV (As := []) (rest := []) ⟨hx, hb, hml, hown, hts⟩ (r_X8_place l dC dI L kd tys fr_8 H.size g.2.2.2.1 q0_ mq0_ kq0_) (cwV 0 hts (gV_ t_1220 t_1111 t_1112 t_184 t_1113) rfl rfl rfl (by decide +kernel) ⟨(Nat.le_of_ble_eq_true rfl), (Nat.le_of_ble_eq_true rfl)⟩) (pre3V g hK mq0_ kq0_ (by decide) (q := (RX8, TX8, 10)) rfl) rfl rfl hl.1 rfl (lv_room (Nat.le_of_ble_eq_true rfl)) dX0_readOld_23 ⟨(Nat.le_of_ble_eq_true rfl), (Nat.le_of_ble_eq_true rfl)⟩) g hK (by decide) (by decide) (fx' := [(8, 6, q0_, .int x_9), (0, 11, a0_, .int x_11), (8, 8, q0_, .int x_13), (0, 0, a0_, .ref q0_), (0, 1, a0_, .ref q1_), (0, 2, a0_, .ref q2_), (5, 1, q1_, .ref q3_)]) rfl (fun r_20 fr_20 H locs hp hMr_20 g => ?_)
    have hG_21 := eOK.frame hMr_20 go_.2.2.2.1 ma0_ ka0_ (by decide) (by decide) hG_19
    refine lv_istore_n (lv' := [(2, .int r_20), (1, .int r_1), (0, .ref a0_)]) hx hb dX0_readOld_26 rfl hl (by decide) rfl (fun ls hl => ?_)
    refine lv_aload_n hx hb dX0_readOld_27 rfl (lv_at hl 2 rfl) ?_
    refine g_getk (C := RX0) (T := TX0) (N := 14) hx hb hts (mc_ inX0) hown hK g rfl 1 (by decide) rfl (hts _ (List.mem_cons_of_mem _ t_374)) (fun _ h9 => h9) 4 rfl dX0_readOld_28 ?_
    refine lv_aload_n hx hb dX0_readOld_31 rfl (lv_at hl 2 rfl) ?_
    refine g_getk (C := RX0) (T := TX0) (N := 14) hx hb hts (mc_ inX0) hown hK g rfl 0 (by decide) rfl (hts _ (List.mem_cons_of_mem _ t_373)) (fun _ h9 => h9) 3 rfl dX0_readOld_32 ?_
    have go_ := g
    refine g_calll (va_runV (As := []) (rest := [.ref q1_]) ⟨hx, hb, hml, hown, hts⟩ (r_X8_value l dC dI L kd tys fr_20 H.size g.2.2.2.1 q0_ mq0_ kq0_) (cwV 0 hts (gV_ t_1238 t_1115 t_1116 t_184 t_1117) rfl rfl rfl (by decide +kernel) ⟨(Nat.le_of_ble_eq_true rfl), (Nat.le_of_ble_eq_true rfl)⟩) (pre3V g hK mq0_ kq0_ (by decide) (q := (RX8, TX8, 10)) rfl) rfl rfl hl.1 rfl (lv_room (Nat.le_of_ble_eq_true rfl)) dX0_readOld_35 ⟨(Nat.le_of_ble_eq_true rfl), (Nat.le_of_ble_eq_true rfl)⟩) g hK (by decide) (by decide) (fx' := [(8, 6, q0_, .int x_9), (0, 11, a0_, .int x_11), (8, 8, q0_, .int x_13), (0, 0, a0_, .ref q0_), (0, 1, a0_, .ref q1_), (0, 2, a0_, .ref q2_), (5, 1, q1_, .ref q3_)]) rfl (fun r_22 fr_22 H locs hp hMr_22 g => ?_)
    have hG_23 := eOK.frame hMr_22 go_.2.2.2.1 ma0_ ka0_ (by decide) (by decide) hG_21
    have go_ := g
    refine g_calli (va_runV (As := [.long r_22]) (rest := []) ⟨hx, hb, hml, hown, hts⟩ (r_X5_placeNamed l dC dI L kd tys fr_22 H.size g.2.2.2.1 q1_ mq1_ kq1_ r_22 q3_ mq3_ kq3_ (g.fcts [6] rfl)) (cwV 1 hts (gV_ t_1251 t_1252 t_1253 t_189 t_1254) rfl rfl rfl (by decide +kernel) ⟨(Nat.le_of_ble_eq_true rfl), (Nat.le_of_ble_eq_true rfl)⟩) (pre3V g hK mq1_ kq1_ (by decide) (q := (RX5, TX5, 9)) rfl) rfl rfl hl.1 rfl (lv_room (Nat.le_of_ble_eq_true rfl)) dX0_readOld_38 ⟨(Nat.le_of_ble_eq_true rfl), (Nat.le_of_ble_eq_true rfl)⟩) g hK (by decide) (by decide) (fx' := [(8, 6, q0_, .int x_9), (0, 11, a0_, .int x_11), (8, 8, q0_, .int x_13), (0, 0, a0_, .ref q0_), (0, 1, a0_, .ref q1_), (0, 2, a0_, .ref q2_), (5, 1, q1_, .ref q3_)]) rfl (fun r_24 fr_24 H locs hp hMr_24 g => ?_)
    obtain ⟨h_25, -⟩ := hp
    have hG_26 := eOK.frame hMr_24 go_.2.2.2.1 ma0_ ka0_ (by decide) (by decide) hG_23
    refine lv_istore_n (lv' := [(3, .int r_24), (2, .int r_20), (1, .int r_1), (0, .ref a0_)]) hx hb dX0_readOld_41 rfl hl (by decide) rfl (fun ls hl => ?_)
    refine lv_aload_n hx hb dX0_readOld_42 rfl (lv_at hl 3 rfl) ?_
    refine g_getk (C := RX0) (T := TX0) (N := 14) hx hb hts (mc_ inX0) hown hK g rfl 0 (by decide) rfl (hts _ (List.mem_cons_of_mem _ t_373)) (fun _ h9 => h9) 3 rfl dX0_readOld_43 ?_
    have go_ := g
    refine g_callv (va_runV (As := []) (rest := []) ⟨hx, hb, hml, hown, hts⟩ (r_X8_next l dC dI L kd tys fr_24 H.size g.2.2.2.1 q0_ mq0_ kq0_) (cwV 0 hts (gV_ t_1225 t_1103 t_1104 t_184 t_1105) rfl rfl rfl (by decide +kernel) ⟨(Nat.le_of_ble_eq_true rfl), (Nat.le_of_ble_eq_true rfl)⟩) (pre3V g hK mq0_ kq0_ (by decide) (q := (RX8, TX8, 10)) rfl) rfl rfl hl.1 rfl (lv_room (Nat.le_of_ble_eq_true rfl)) dX0_readOld_46 ⟨(Nat.le_of_ble_eq_true rfl), (Nat.le_of_ble_eq_true rfl)⟩) g hK (by decide) (by decide) (fx' := [(0, 11, a0_, .int x_11), (8, 8, q0_, .int x_13), (0, 0, a0_, .ref q0_), (0, 1, a0_, .ref q1_), (0, 2, a0_, .ref q2_), (5, 1, q1_, .ref q3_)]) rfl (fun fr_27 H locs hp hMr_27 g => ?_)
    obtain ⟨x_28, h_29, hF_30⟩ := hp
    have hG_31 := eOK.frame hMr_27 go_.2.2.2.1 ma0_ ka0_ (by decide) (by decide) hG_26
    have g := g.more hF_30
    refine lv_iload_n hx hb dX0_readOld_49 rfl (lv_at hl 0 rfl) ?_
    refine lv_iconst (v := (-1)) hx hb dX0_readOld_50 (by decide) ?_
    have kb_m1 : bd (-1) (-1) ((-1) : Int32) := ⟨by decide, by decide⟩
    refine lv_icmp_ne (tgt := 64) hx hb dX0_readOld_51 (by decide) (fun c_32 => ?_) (fun c_32 => ?_)
    · have fc_32 := neq_f c_32
      have b_33 : bd 0 26 r_24 := neX fc_32 h_25 kb_m1 (by decide)
      refine lv_aload_n hx hb dX0_readOld_64 rfl (lv_at hl 3 rfl) ?_
      refine g_getk (C := RX0) (T := TX0) (N := 14) hx hb hts (mc_ inX0) hown hK g rfl 1 (by decide) rfl (hts _ (List.mem_cons_of_mem _ t_374)) (fun _ h9 => h9) 4 rfl dX0_readOld_65 ?_
      refine g_getk (C := RX5) (T := TX5) (N := 9) hx hb hts (mc_ inX5) hown hK g rfl 1 (by decide) rfl (hts _ (List.mem_cons_of_mem _ t_332)) (fun _ h9 => h9) 6 rfl dX0_readOld_68 ?_
      refine lv_iload_n hx hb dX0_readOld_71 rfl (lv_at hl 0 rfl) ?_
      have go_ := g
      refine g_calli (va_runV (As := [.int r_24]) (rest := []) ⟨hx, hb, hml, hown, hts⟩ (r_X9_isRow l dC dI L kd tys fr_27 H.size g.2.2.2.1 q3_ mq3_ kq3_ r_24) (cwV 1 hts (gV_ t_1256 t_1257 t_1258 t_192 t_1259) rfl rfl rfl (by decide +kernel) ⟨(Nat.le_of_ble_eq_true rfl), (Nat.le_of_ble_eq_true rfl)⟩) (pre3V g hK mq3_ kq3_ (by decide) (q := (RX9, TX9, 13)) rfl) rfl rfl hl.1 rfl (lv_room (Nat.le_of_ble_eq_true rfl)) dX0_readOld_72 ⟨(Nat.le_of_ble_eq_true rfl), (Nat.le_of_ble_eq_true rfl)⟩) g hK (by decide) (by decide) (fx' := [(8, 6, q0_, .int x_28), (0, 11, a0_, .int x_11), (8, 8, q0_, .int x_13), (0, 0, a0_, .ref q0_), (0, 1, a0_, .ref q1_), (0, 2, a0_, .ref q2_), (5, 1, q1_, .ref q3_)]) rfl (fun r_34 fr_34 H locs hp hMr_34 g => ?_)
      rcases hp with ⟨h_35, -⟩ | ⟨h_36, h_37, x_38, h_39, hF_40⟩
      · have hG_41 := eOK.frame hMr_34 go_.2.2.2.1 ma0_ ka0_ (by decide) (by decide) hG_31
        obtain rfl : r_34 = 0 := h_35
        refine lv_istore (lv' := [(4, .int 0), (3, .int r_24), (2, .int r_20), (1, .int r_1), (0, .ref a0_)]) hx hb dX0_readOld_75 hl (by decide) rfl (fun ls hl => ?_)
        refine lv_iload_n hx hb dX0_readOld_77 rfl (lv_at hl 1 rfl) ?_
        refine lv_bipush (v := 16) hx hb dX0_readOld_78 (by decide) ?_
        have kb_16 : bd 16 16 (16 : Int32) := ⟨by decide, by decide⟩
        refine lv_icmp_ge (tgt := 105) hx hb dX0_readOld_80 (by decide) (fun c_42 => ?_) (fun c_42 => ?_)
        · have fc_42 := le_f c_42
          have b_43 : bd 16 26 r_24 := leR fc_42 kb_16 b_33 (by decide)
          refine lv_aload_n hx hb dX0_readOld_105 rfl (lv_at hl 4 rfl) ?_
          refine g_getk (C := RX0) (T := TX0) (N := 14) hx hb hts (mc_ inX0) hown hK g rfl 0 (by decide) rfl (hts _ (List.mem_cons_of_mem _ t_373)) (fun _ h9 => h9) 3 rfl dX0_readOld_106 ?_
          refine lv_iconst (v := 5) hx hb dX0_readOld_109 (by decide) ?_
          refine lv_iload_n hx hb dX0_readOld_110 rfl (lv_at hl 2 rfl) ?_
          have kb_5 : bd 5 5 (5 : Int32) := ⟨by decide, by decide⟩
          have go_ := g
          refine g_callv (va_runV (As := [.int 5, .int r_20]) (rest := []) ⟨hx, hb, hml, hown, hts⟩ (r_X8_fail l dC dI L kd tys fr_34 H.size g.2.2.2.1 q0_ mq0_ kq0_ 5 (bd_sub kb_5 (by decide)) r_20 x_13 h_14 (g.fcts [2] rfl)) (cwV 2 hts (gV_ t_1215 t_1107 t_1108 t_184 t_1109) rfl rfl rfl (by decide +kernel) ⟨(Nat.le_of_ble_eq_true rfl), (Nat.le_of_ble_eq_true rfl)⟩) (pre3V g hK mq0_ kq0_ (by decide) (q := (RX8, TX8, 10)) rfl) rfl rfl hl.1 rfl (lv_room (Nat.le_of_ble_eq_true rfl)) dX0_readOld_111 ⟨(Nat.le_of_ble_eq_true rfl), (Nat.le_of_ble_eq_true rfl)⟩) g hK (by decide) (by decide) (fx' := [(0, 11, a0_, .int x_11), (0, 0, a0_, .ref q0_), (0, 1, a0_, .ref q1_), (0, 2, a0_, .ref q2_), (5, 1, q1_, .ref q3_)]) rfl (fun fr_44 H locs hp hMr_44 g => ?_)
          obtain ⟨x_45, h_46, hF_47⟩ := hp
          have hG_48 := eOK.frame hMr_44 go_.2.2.2.1 ma0_ ka0_ (by decide) (by decide) hG_41
          have g := g.more hF_47
          have kb_1201 : bd 1201 1201 (1201 : Int32) := ⟨by decide, by decide⟩
          subst hQ
          exact W.vret hx hb hr (fun t ht hW => ⟨⟨_, rfl, Or.inr (⟨hG_48, 1201, kb_1201, x_45, h_46, (g.fcts [0, 1] rfl)⟩), q3_of g hK ht hW⟩, g.2.2.1.F ht⟩) g.2.2.1.2.2 dX0_readOld_114
        · have fc_42 := nle_f c_42
          have b_49 : bd 0 15 r_24 := ltL fc_42 b_33 kb_16 (by decide)
          refine lv_iload hx hb dX0_readOld_83 (lv_at hl 0 rfl) ?_
          refine lv_aload_n hx hb dX0_readOld_85 rfl (lv_at hl 4 rfl) ?_
          refine g_getk (C := RX0) (T := TX0) (N := 14) hx hb hts (mc_ inX0) hown hK g rfl 0 (by decide) rfl (hts _ (List.mem_cons_of_mem _ t_373)) (fun _ h9 => h9) 3 rfl dX0_readOld_86 ?_
          have go_ := g
          refine g_calli (va_runV (As := []) (rest := [.int 0]) ⟨hx, hb, hml, hown, hts⟩ (r_X8_kind l dC dI L kd tys fr_34 H.size g.2.2.2.1 q0_ mq0_ kq0_) (cwV 0 hts (gV_ t_1186 t_1119 t_1120 t_184 t_1121) rfl rfl rfl (by decide +kernel) ⟨(Nat.le_of_ble_eq_true rfl), (Nat.le_of_ble_eq_true rfl)⟩) (pre3V g hK mq0_ kq0_ (by decide) (q := (RX8, TX8, 10)) rfl) rfl rfl hl.1 rfl (lv_room (Nat.le_of_ble_eq_true rfl)) dX0_readOld_89 ⟨(Nat.le_of_ble_eq_true rfl), (Nat.le_of_ble_eq_true rfl)⟩) g hK (by decide) (by decide) (fx' := [(8, 6, q0_, .int x_28), (0, 11, a0_, .int x_11), (8, 8, q0_, .int x_13), (0, 0, a0_, .ref q0_), (0, 1, a0_, .ref q1_), (0, 2, a0_, .ref q2_), (5, 1, q1_, .ref q3_)]) rfl (fun r_50 fr_50 H locs hp hMr_50 g => ?_)
          have hG_51 := eOK.frame hMr_50 go_.2.2.2.1 ma0_ ka0_ (by decide) (by decide) hG_41
          refine lv_bipush (v := 91) hx hb dX0_readOld_92 (by decide) ?_
          have kb_91 : bd 91 91 (91 : Int32) := ⟨by decide, by decide⟩
          refine lv_icmp_ne (tgt := 101) hx hb dX0_readOld_94 (by decide) (fun c_52 => ?_) (fun c_52 => ?_)
          · have fc_52 := neq_f c_52
            refine lv_iconst (v := 0) hx hb dX0_readOld_101 (by decide) ?_
            refine lv_icmp_eq (tgt := 115) hx hb dX0_readOld_102 (by decide) (fun c_ => ?_) (fun c_ => absurd (by decide) c_)
            refine lv_aload_n hx hb dX0_readOld_115 rfl (lv_at hl 4 rfl) ?_
            refine g_getk (C := RX0) (T := TX0) (N := 14) hx hb hts (mc_ inX0) hown hK g rfl 2 (by decide) rfl (hts _ (List.mem_cons_of_mem _ t_375)) (fun _ h9 => h9) 5 rfl dX0_readOld_116 ?_
            refine lv_dup hx hb dX0_readOld_119 rfl ?_
            refine g_geti (C := RX7) (T := TX7) (N := 19) hx hb hts (mc_ inX7) hown hK g mq2_ kq2_ (by decide) rfl 18 (by decide) rfl (hts _ (List.mem_cons_of_mem _ t_681)) (fun _ h9 => h9) rfl dX0_readOld_120 (fun x_53 bx_53 g => ?_)
            refine lv_iconst (v := 2) hx hb dX0_readOld_123 (by decide) ?_
            have kb_2 : bd 2 2 (2 : Int32) := ⟨by decide, by decide⟩
            refine lv_iadd hx hb dX0_readOld_124 ?_
            refine lv_topi (fun y_54 ey_54 => ?_)
            have go_ := g
            refine g_put (C := RX7) (T := TX7) (N := 19) hx hb hts (mc_ inX7) tyX7 tyX7_ok nmX7 hown hK g mq2_ kq2_ (by decide) rfl 18 (by decide) (hts _ (List.mem_cons_of_mem _ t_681)) (fun _ h9 => h9) rfl rfl (okV_i (bdT y_54)) rfl rfl (by decide) (Or.inr (Or.inl (by decide))) (fx' := [(8, 6, q0_, .int x_28), (0, 11, a0_, .int x_11), (8, 8, q0_, .int x_13), (0, 0, a0_, .ref q0_), (0, 1, a0_, .ref q1_), (0, 2, a0_, .ref q2_), (5, 1, q1_, .ref q3_)]) rfl dX0_readOld_125 (fun f H locs hM_55 g => ?_)
            have hG_56 := eOK.frame hM_55 go_.2.2.2.1 ma0_ ka0_ (by decide) (by decide) hG_51
            refine lv_iload hx hb dX0_readOld_128 (lv_at hl 0 rfl) ?_
            refine lv_if_eq (tgt := 167) hx hb dX0_readOld_130 (by decide) (fun c_ => ?_) (fun c_ => absurd (by decide) c_)
            refine lv_aload_n hx hb dX0_readOld_167 rfl (lv_at hl 4 rfl) ?_
            refine g_getk (C := RX0) (T := TX0) (N := 14) hx hb hts (mc_ inX0) hown hK g rfl 0 (by decide) rfl (hts _ (List.mem_cons_of_mem _ t_373)) (fun _ h9 => h9) 4 rfl dX0_readOld_168 ?_
            refine lv_bipush (v := 41) hx hb dX0_readOld_171 (by decide) ?_
            have go_ := g
            refine g_callv (va_runV (As := [.int 41]) (rest := []) ⟨hx, hb, hml, hown, hts⟩ (r_X8_take l dC dI L kd tys f H.size g.2.2.2.1 q0_ mq0_ kq0_ 41 x_13 h_14 (g.fcts [3] rfl)) (cwV 1 hts (gV_ t_1284 t_1099 t_1100 t_184 t_1101) rfl rfl rfl (by decide +kernel) ⟨(Nat.le_of_ble_eq_true rfl), (Nat.le_of_ble_eq_true rfl)⟩) (pre3V g hK mq0_ kq0_ (by decide) (q := (RX8, TX8, 10)) rfl) rfl rfl hl.1 rfl (lv_room (Nat.le_of_ble_eq_true rfl)) dX0_readOld_173 ⟨(Nat.le_of_ble_eq_true rfl), (Nat.le_of_ble_eq_true rfl)⟩) g hK (by decide) (by decide) (fx' := [(7, 18, q2_, .int y_54), (0, 11, a0_, .int x_11), (0, 0, a0_, .ref q0_), (0, 1, a0_, .ref q1_), (0, 2, a0_, .ref q2_), (5, 1, q1_, .ref q3_)]) rfl (fun fr_57 H locs hp hMr_57 g => ?_)
            rcases hp with ⟨x_58, h_59, x_60, h_61, hF_62⟩ | ⟨x_63, h_64, hF_65⟩
            · have hG_66 := eOK.frame hMr_57 go_.2.2.2.1 ma0_ ka0_ (by decide) (by decide) hG_56
              have g := g.more hF_62
              refine lv_aload_n hx hb dX0_readOld_176 rfl (lv_at hl 4 rfl) ?_
              refine g_getk (C := RX0) (T := TX0) (N := 14) hx hb hts (mc_ inX0) hown hK g rfl 2 (by decide) rfl (hts _ (List.mem_cons_of_mem _ t_375)) (fun _ h9 => h9) 6 rfl dX0_readOld_177 ?_
              refine lv_iconst (v := 4) hx hb dX0_readOld_180 (by decide) ?_
              refine lv_aload_n hx hb dX0_readOld_181 rfl (lv_at hl 4 rfl) ?_
              refine g_getk (C := RX0) (T := TX0) (N := 14) hx hb hts (mc_ inX0) hown hK g rfl 1 (by decide) rfl (hts _ (List.mem_cons_of_mem _ t_374)) (fun _ h9 => h9) 5 rfl dX0_readOld_182 ?_
              refine g_getk (C := RX5) (T := TX5) (N := 9) hx hb hts (mc_ inX5) hown hK g rfl 1 (by decide) rfl (hts _ (List.mem_cons_of_mem _ t_332)) (fun _ h9 => h9) 7 rfl dX0_readOld_185 ?_
              refine lv_iload_n hx hb dX0_readOld_188 rfl (lv_at hl 1 rfl) ?_
              have go_ := g
              refine g_calli (va_runV (As := [.int r_24]) (rest := [.int 4, .ref q2_]) ⟨hx, hb, hml, hown, hts⟩ (r_X9_spanOf l dC dI L kd tys fr_57 H.size g.2.2.2.1 q3_ mq3_ kq3_ r_24) (cwV 1 hts (gV_ t_1264 t_1265 t_1266 t_192 t_1267) rfl rfl rfl (by decide +kernel) ⟨(Nat.le_of_ble_eq_true rfl), (Nat.le_of_ble_eq_true rfl)⟩) (pre3V g hK mq3_ kq3_ (by decide) (q := (RX9, TX9, 13)) rfl) rfl rfl hl.1 rfl (lv_room (Nat.le_of_ble_eq_true rfl)) dX0_readOld_189 ⟨(Nat.le_of_ble_eq_true rfl), (Nat.le_of_ble_eq_true rfl)⟩) g hK (by decide) (by decide) (fx' := [(8, 6, q0_, .int x_58), (8, 8, q0_, .int x_60), (7, 18, q2_, .int y_54), (0, 11, a0_, .int x_11), (0, 0, a0_, .ref q0_), (0, 1, a0_, .ref q1_), (0, 2, a0_, .ref q2_), (5, 1, q1_, .ref q3_)]) rfl (fun r_67 fr_67 H locs hp hMr_67 g => ?_)
              obtain ⟨h_68, -⟩ := hp
              have hG_69 := eOK.frame hMr_67 go_.2.2.2.1 ma0_ ka0_ (by decide) (by decide) hG_66
              have go_ := g
              refine g_callv (va_runV (As := [.int 4, .int r_67]) (rest := []) ⟨hx, hb, hml, hown, hts⟩ (r_X7_emit l dC dI L kd tys fr_67 H.size g.2.2.2.1 q2_ mq2_ kq2_ 4 r_67) (cwV 2 hts (gV_ t_1203 t_1204 t_1205 t_191 t_1206) rfl rfl rfl (by decide +kernel) ⟨(Nat.le_of_ble_eq_true rfl), (Nat.le_of_ble_eq_true rfl)⟩) (pre3V g hK mq2_ kq2_ (by decide) (q := (RX7, TX7, 19)) rfl) rfl rfl hl.1 rfl (lv_room (Nat.le_of_ble_eq_true rfl)) dX0_readOld_192 ⟨(Nat.le_of_ble_eq_true rfl), (Nat.le_of_ble_eq_true rfl)⟩) g hK (by decide) (by decide) (fx' := [(8, 6, q0_, .int x_58), (8, 8, q0_, .int x_60), (7, 18, q2_, .int y_54), (0, 11, a0_, .int x_11), (0, 0, a0_, .ref q0_), (0, 1, a0_, .ref q1_), (0, 2, a0_, .ref q2_), (5, 1, q1_, .ref q3_)]) rfl (fun fr_70 H locs hp hMr_70 g => ?_)
              obtain ⟨x_71, h_72, hF_73⟩ := hp
              have hG_74 := eOK.frame hMr_70 go_.2.2.2.1 ma0_ ka0_ (by decide) (by decide) hG_69
              have g := g.more hF_73
              refine lv_aload_n hx hb dX0_readOld_195 rfl (lv_at hl 4 rfl) ?_
              refine lv_iconst (v := 2) hx hb dX0_readOld_196 (by decide) ?_
              have go_ := g
              refine g_callv (va_runV (As := [.int 2]) (rest := []) ⟨hx, hb, hml, hown, hts⟩ (r_X0_addWhole l dC dI L kd tys fr_70 H.size g.2.2.2.1 a0_ ma0_ ka0_ 2) (cwV 1 hts (gV_ t_1211 t_1213 t_17 t_190 t_1214) rfl rfl rfl (by decide +kernel) ⟨(Nat.le_of_ble_eq_true rfl), (Nat.le_of_ble_eq_true rfl)⟩) (pre3V g hK ma0_ ka0_ (by decide) (q := (RX0, TX0, 14)) rfl) rfl rfl hl.1 rfl (lv_room (Nat.le_of_ble_eq_true rfl)) dX0_readOld_197 ⟨(Nat.le_of_ble_eq_true rfl), (Nat.le_of_ble_eq_true rfl)⟩) g hK (by decide) (by decide) (fx' := [(7, 6, q2_, .int x_71), (8, 6, q0_, .int x_58), (8, 8, q0_, .int x_60), (7, 18, q2_, .int y_54), (0, 11, a0_, .int x_11), (0, 0, a0_, .ref q0_), (0, 1, a0_, .ref q1_), (0, 2, a0_, .ref q2_), (5, 1, q1_, .ref q3_)]) rfl (fun fr_75 H locs hp hMr_75 g => ?_)
              obtain ⟨x_76, h_77, hF_78⟩ := hp
              have hG_79 := eOK.frame hMr_75 go_.2.2.2.1 ma0_ ka0_ (by decide) (by decide) hG_74
              have g := g.more hF_78
              subst hQ
              exact W.vret hx hb hr (fun t ht hW => ⟨⟨_, rfl, Or.inl ⟨hG_79, x_58, h_59, x_60, h_61, x_11, (bd_sub h_12 (by decide)), (g.fcts [3, 4, 6] rfl)⟩, q3_of g hK ht hW⟩, g.2.2.1.F ht⟩) g.2.2.1.2.2 dX0_readOld_200
            · have hG_80 := eOK.frame hMr_57 go_.2.2.2.1 ma0_ ka0_ (by decide) (by decide) hG_56
              have g := g.more hF_65
              refine lv_aload_n hx hb dX0_readOld_176 rfl (lv_at hl 4 rfl) ?_
              refine g_getk (C := RX0) (T := TX0) (N := 14) hx hb hts (mc_ inX0) hown hK g rfl 2 (by decide) rfl (hts _ (List.mem_cons_of_mem _ t_375)) (fun _ h9 => h9) 6 rfl dX0_readOld_177 ?_
              refine lv_iconst (v := 4) hx hb dX0_readOld_180 (by decide) ?_
              refine lv_aload_n hx hb dX0_readOld_181 rfl (lv_at hl 4 rfl) ?_
              refine g_getk (C := RX0) (T := TX0) (N := 14) hx hb hts (mc_ inX0) hown hK g rfl 1 (by decide) rfl (hts _ (List.mem_cons_of_mem _ t_374)) (fun _ h9 => h9) 5 rfl dX0_readOld_182 ?_
              refine g_getk (C := RX5) (T := TX5) (N := 9) hx hb hts (mc_ inX5) hown hK g rfl 1 (by decide) rfl (hts _ (List.mem_cons_of_mem _ t_332)) (fun _ h9 => h9) 7 rfl dX0_readOld_185 ?_
              refine lv_iload_n hx hb dX0_readOld_188 rfl (lv_at hl 1 rfl) ?_
              have go_ := g
              refine g_calli (va_runV (As := [.int r_24]) (rest := [.int 4, .ref q2_]) ⟨hx, hb, hml, hown, hts⟩ (r_X9_spanOf l dC dI L kd tys fr_57 H.size g.2.2.2.1 q3_ mq3_ kq3_ r_24) (cwV 1 hts (gV_ t_1264 t_1265 t_1266 t_192 t_1267) rfl rfl rfl (by decide +kernel) ⟨(Nat.le_of_ble_eq_true rfl), (Nat.le_of_ble_eq_true rfl)⟩) (pre3V g hK mq3_ kq3_ (by decide) (q := (RX9, TX9, 13)) rfl) rfl rfl hl.1 rfl (lv_room (Nat.le_of_ble_eq_true rfl)) dX0_readOld_189 ⟨(Nat.le_of_ble_eq_true rfl), (Nat.le_of_ble_eq_true rfl)⟩) g hK (by decide) (by decide) (fx' := [(8, 6, q0_, .int 1201), (8, 8, q0_, .int x_63), (7, 18, q2_, .int y_54), (0, 11, a0_, .int x_11), (0, 0, a0_, .ref q0_), (0, 1, a0_, .ref q1_), (0, 2, a0_, .ref q2_), (5, 1, q1_, .ref q3_)]) rfl (fun r_81 fr_81 H locs hp hMr_81 g => ?_)
              obtain ⟨h_82, -⟩ := hp
              have hG_83 := eOK.frame hMr_81 go_.2.2.2.1 ma0_ ka0_ (by decide) (by decide) hG_80
              have go_ := g
              refine g_callv (va_runV (As := [.int 4, .int r_81]) (rest := []) ⟨hx, hb, hml, hown, hts⟩ (r_X7_emit l dC dI L kd tys fr_81 H.size g.2.2.2.1 q2_ mq2_ kq2_ 4 r_81) (cwV 2 hts (gV_ t_1203 t_1204 t_1205 t_191 t_1206) rfl rfl rfl (by decide +kernel) ⟨(Nat.le_of_ble_eq_true rfl), (Nat.le_of_ble_eq_true rfl)⟩) (pre3V g hK mq2_ kq2_ (by decide) (q := (RX7, TX7, 19)) rfl) rfl rfl hl.1 rfl (lv_room (Nat.le_of_ble_eq_true rfl)) dX0_readOld_192 ⟨(Nat.le_of_ble_eq_true rfl), (Nat.le_of_ble_eq_true rfl)⟩) g hK (by decide) (by decide) (fx' := [(8, 6, q0_, .int 1201), (8, 8, q0_, .int x_63), (7, 18, q2_, .int y_54), (0, 11, a0_, .int x_11), (0, 0, a0_, .ref q0_), (0, 1, a0_, .ref q1_), (0, 2, a0_, .ref q2_), (5, 1, q1_, .ref q3_)]) rfl (fun fr_84 H locs hp hMr_84 g => ?_)
              obtain ⟨x_85, h_86, hF_87⟩ := hp
              have hG_88 := eOK.frame hMr_84 go_.2.2.2.1 ma0_ ka0_ (by decide) (by decide) hG_83
              have g := g.more hF_87
              refine lv_aload_n hx hb dX0_readOld_195 rfl (lv_at hl 4 rfl) ?_
              refine lv_iconst (v := 2) hx hb dX0_readOld_196 (by decide) ?_
              have go_ := g
              refine g_callv (va_runV (As := [.int 2]) (rest := []) ⟨hx, hb, hml, hown, hts⟩ (r_X0_addWhole l dC dI L kd tys fr_84 H.size g.2.2.2.1 a0_ ma0_ ka0_ 2) (cwV 1 hts (gV_ t_1211 t_1213 t_17 t_190 t_1214) rfl rfl rfl (by decide +kernel) ⟨(Nat.le_of_ble_eq_true rfl), (Nat.le_of_ble_eq_true rfl)⟩) (pre3V g hK ma0_ ka0_ (by decide) (q := (RX0, TX0, 14)) rfl) rfl rfl hl.1 rfl (lv_room (Nat.le_of_ble_eq_true rfl)) dX0_readOld_197 ⟨(Nat.le_of_ble_eq_true rfl), (Nat.le_of_ble_eq_true rfl)⟩) g hK (by decide) (by decide) (fx' := [(7, 6, q2_, .int x_85), (8, 6, q0_, .int 1201), (8, 8, q0_, .int x_63), (7, 18, q2_, .int y_54), (0, 11, a0_, .int x_11), (0, 0, a0_, .ref q0_), (0, 1, a0_, .ref q1_), (0, 2, a0_, .ref q2_), (5, 1, q1_, .ref q3_)]) rfl (fun fr_89 H locs hp hMr_89 g => ?_)
              obtain ⟨x_90, h_91, hF_92⟩ := hp
              have hG_93 := eOK.frame hMr_89 go_.2.2.2.1 ma0_ ka0_ (by decide) (by decide) hG_88
              have g := g.more hF_92
              have kb_1201 : bd 1201 1201 (1201 : Int32) := ⟨by decide, by decide⟩
              subst hQ
              exact W.vret hx hb hr (fun t ht hW => ⟨⟨_, rfl, Or.inr (⟨hG_93, 1201, kb_1201, x_63, h_64, (g.fcts [3, 4] rfl)⟩), q3_of g hK ht hW⟩, g.2.2.1.F ht⟩) g.2.2.1.2.2 dX0_readOld_200
          · have fc_52 := eq_f c_52
            have b_94 : bd 91 91 r_50 := eqX fc_52 (bdT r_50) kb_91 (by decide)
            refine lv_iconst (v := 1) hx hb dX0_readOld_97 (by decide) ?_
            refine lv_goto (tgt := 102) hx hb dX0_readOld_98 (by decide) ?_
            refine lv_icmp_eq (tgt := 115) hx hb dX0_readOld_102 (by decide) (fun c_ => absurd c_ (by decide)) (fun c_ => ?_)
            refine lv_aload_n hx hb dX0_readOld_105 rfl (lv_at hl 4 rfl) ?_
            refine g_getk (C := RX0) (T := TX0) (N := 14) hx hb hts (mc_ inX0) hown hK g rfl 0 (by decide) rfl (hts _ (List.mem_cons_of_mem _ t_373)) (fun _ h9 => h9) 3 rfl dX0_readOld_106 ?_
            refine lv_iconst (v := 5) hx hb dX0_readOld_109 (by decide) ?_
            refine lv_iload_n hx hb dX0_readOld_110 rfl (lv_at hl 2 rfl) ?_
            have kb_5 : bd 5 5 (5 : Int32) := ⟨by decide, by decide⟩
            have go_ := g
            refine g_callv (va_runV (As := [.int 5, .int r_20]) (rest := []) ⟨hx, hb, hml, hown, hts⟩ (r_X8_fail l dC dI L kd tys fr_50 H.size g.2.2.2.1 q0_ mq0_ kq0_ 5 (bd_sub kb_5 (by decide)) r_20 x_13 h_14 (g.fcts [2] rfl)) (cwV 2 hts (gV_ t_1215 t_1107 t_1108 t_184 t_1109) rfl rfl rfl (by decide +kernel) ⟨(Nat.le_of_ble_eq_true rfl), (Nat.le_of_ble_eq_true rfl)⟩) (pre3V g hK mq0_ kq0_ (by decide) (q := (RX8, TX8, 10)) rfl) rfl rfl hl.1 rfl (lv_room (Nat.le_of_ble_eq_true rfl)) dX0_readOld_111 ⟨(Nat.le_of_ble_eq_true rfl), (Nat.le_of_ble_eq_true rfl)⟩) g hK (by decide) (by decide) (fx' := [(0, 11, a0_, .int x_11), (0, 0, a0_, .ref q0_), (0, 1, a0_, .ref q1_), (0, 2, a0_, .ref q2_), (5, 1, q1_, .ref q3_)]) rfl (fun fr_95 H locs hp hMr_95 g => ?_)
            obtain ⟨x_96, h_97, hF_98⟩ := hp
            have hG_99 := eOK.frame hMr_95 go_.2.2.2.1 ma0_ ka0_ (by decide) (by decide) hG_51
            have g := g.more hF_98
            have kb_1201 : bd 1201 1201 (1201 : Int32) := ⟨by decide, by decide⟩
            subst hQ
            exact W.vret hx hb hr (fun t ht hW => ⟨⟨_, rfl, Or.inr (⟨hG_99, 1201, kb_1201, x_96, h_97, (g.fcts [0, 1] rfl)⟩), q3_of g hK ht hW⟩, g.2.2.1.F ht⟩) g.2.2.1.2.2 dX0_readOld_114
      · have hG_100 := eOK.frame hMr_34 go_.2.2.2.1 ma0_ ka0_ (by decide) (by decide) hG_31
        obtain rfl : r_34 = 1 := h_36
        have b_101 : bd 0 9 r_24 := eqX rfl b_33 h_37 (by decide)
        have g := g.more hF_40
        refine lv_istore (lv' := [(4, .int 1), (3, .int r_24), (2, .int r_20), (1, .int r_1), (0, .ref a0_)]) hx hb dX0_readOld_75 hl (by decide) rfl (fun ls hl => ?_)
        refine lv_iload_n hx hb dX0_readOld_77 rfl (lv_at hl 1 rfl) ?_
        refine lv_bipush (v := 16) hx hb dX0_readOld_78 (by decide) ?_
        have kb_16 : bd 16 16 (16 : Int32) := ⟨by decide, by decide⟩
        refine lv_icmp_ge (tgt := 105) hx hb dX0_readOld_80 (by decide) (fun c_102 => ?_) (fun c_102 => ?_)
        · have fc_102 := le_f c_102
          have b_103 : bd 16 9 (16 : Int32) := leL fc_102 kb_16 b_101 (by decide)
          exact bd_no (eqX rfl b_103 kb_16 (lo := 16) (hi := 9) (by decide)) (by decide)
        · have fc_102 := nle_f c_102
          refine lv_iload hx hb dX0_readOld_83 (lv_at hl 0 rfl) ?_
          refine lv_aload_n hx hb dX0_readOld_85 rfl (lv_at hl 4 rfl) ?_
          refine g_getk (C := RX0) (T := TX0) (N := 14) hx hb hts (mc_ inX0) hown hK g rfl 0 (by decide) rfl (hts _ (List.mem_cons_of_mem _ t_373)) (fun _ h9 => h9) 4 rfl dX0_readOld_86 ?_
          have go_ := g
          refine g_calli (va_runV (As := []) (rest := [.int 1]) ⟨hx, hb, hml, hown, hts⟩ (r_X8_kind l dC dI L kd tys fr_34 H.size g.2.2.2.1 q0_ mq0_ kq0_) (cwV 0 hts (gV_ t_1186 t_1119 t_1120 t_184 t_1121) rfl rfl rfl (by decide +kernel) ⟨(Nat.le_of_ble_eq_true rfl), (Nat.le_of_ble_eq_true rfl)⟩) (pre3V g hK mq0_ kq0_ (by decide) (q := (RX8, TX8, 10)) rfl) rfl rfl hl.1 rfl (lv_room (Nat.le_of_ble_eq_true rfl)) dX0_readOld_89 ⟨(Nat.le_of_ble_eq_true rfl), (Nat.le_of_ble_eq_true rfl)⟩) g hK (by decide) (by decide) (fx' := [(9, 2, q3_, .int x_38), (8, 6, q0_, .int x_28), (0, 11, a0_, .int x_11), (8, 8, q0_, .int x_13), (0, 0, a0_, .ref q0_), (0, 1, a0_, .ref q1_), (0, 2, a0_, .ref q2_), (5, 1, q1_, .ref q3_)]) rfl (fun r_104 fr_104 H locs hp hMr_104 g => ?_)
          have hG_105 := eOK.frame hMr_104 go_.2.2.2.1 ma0_ ka0_ (by decide) (by decide) hG_100
          refine lv_bipush (v := 91) hx hb dX0_readOld_92 (by decide) ?_
          have kb_91 : bd 91 91 (91 : Int32) := ⟨by decide, by decide⟩
          refine lv_icmp_ne (tgt := 101) hx hb dX0_readOld_94 (by decide) (fun c_106 => ?_) (fun c_106 => ?_)
          · have fc_106 := neq_f c_106
            refine lv_iconst (v := 0) hx hb dX0_readOld_101 (by decide) ?_
            refine lv_icmp_eq (tgt := 115) hx hb dX0_readOld_102 (by decide) (fun c_ => absurd c_ (by decide)) (fun c_ => ?_)
            refine lv_aload_n hx hb dX0_readOld_105 rfl (lv_at hl 4 rfl) ?_
            refine g_getk (C := RX0) (T := TX0) (N := 14) hx hb hts (mc_ inX0) hown hK g rfl 0 (by decide) rfl (hts _ (List.mem_cons_of_mem _ t_373)) (fun _ h9 => h9) 4 rfl dX0_readOld_106 ?_
            refine lv_iconst (v := 5) hx hb dX0_readOld_109 (by decide) ?_
            refine lv_iload_n hx hb dX0_readOld_110 rfl (lv_at hl 2 rfl) ?_
            have kb_5 : bd 5 5 (5 : Int32) := ⟨by decide, by decide⟩
            have go_ := g
            refine g_callv (va_runV (As := [.int 5, .int r_20]) (rest := []) ⟨hx, hb, hml, hown, hts⟩ (r_X8_fail l dC dI L kd tys fr_104 H.size g.2.2.2.1 q0_ mq0_ kq0_ 5 (bd_sub kb_5 (by decide)) r_20 x_13 h_14 (g.fcts [3] rfl)) (cwV 2 hts (gV_ t_1215 t_1107 t_1108 t_184 t_1109) rfl rfl rfl (by decide +kernel) ⟨(Nat.le_of_ble_eq_true rfl), (Nat.le_of_ble_eq_true rfl)⟩) (pre3V g hK mq0_ kq0_ (by decide) (q := (RX8, TX8, 10)) rfl) rfl rfl hl.1 rfl (lv_room (Nat.le_of_ble_eq_true rfl)) dX0_readOld_111 ⟨(Nat.le_of_ble_eq_true rfl), (Nat.le_of_ble_eq_true rfl)⟩) g hK (by decide) (by decide) (fx' := [(9, 2, q3_, .int x_38), (0, 11, a0_, .int x_11), (0, 0, a0_, .ref q0_), (0, 1, a0_, .ref q1_), (0, 2, a0_, .ref q2_), (5, 1, q1_, .ref q3_)]) rfl (fun fr_107 H locs hp hMr_107 g => ?_)
            obtain ⟨x_108, h_109, hF_110⟩ := hp
            have hG_111 := eOK.frame hMr_107 go_.2.2.2.1 ma0_ ka0_ (by decide) (by decide) hG_105
            have g := g.more hF_110
            have kb_1201 : bd 1201 1201 (1201 : Int32) := ⟨by decide, by decide⟩
            subst hQ
            exact W.vret hx hb hr (fun t ht hW => ⟨⟨_, rfl, Or.inr (⟨hG_111, 1201, kb_1201, x_108, h_109, (g.fcts [0, 1] rfl)⟩), q3_of g hK ht hW⟩, g.2.2.1.F ht⟩) g.2.2.1.2.2 dX0_readOld_114
          · have fc_106 := eq_f c_106
            have b_112 : bd 91 91 r_104 := eqX fc_106 (bdT r_104) kb_91 (by decide)
            refine lv_iconst (v := 1) hx hb dX0_readOld_97 (by decide) ?_
            refine lv_goto (tgt := 102) hx hb dX0_readOld_98 (by decide) ?_
            refine lv_icmp_eq (tgt := 115) hx hb dX0_readOld_102 (by decide) (fun c_ => ?_) (fun c_ => absurd (by decide) c_)
            refine lv_aload_n hx hb dX0_readOld_115 rfl (lv_at hl 4 rfl) ?_
            refine g_getk (C := RX0) (T := TX0) (N := 14) hx hb hts (mc_ inX0) hown hK g rfl 2 (by decide) rfl (hts _ (List.mem_cons_of_mem _ t_375)) (fun _ h9 => h9) 6 rfl dX0_readOld_116 ?_
            refine lv_dup hx hb dX0_readOld_119 rfl ?_
            refine g_geti (C := RX7) (T := TX7) (N := 19) hx hb hts (mc_ inX7) hown hK g mq2_ kq2_ (by decide) rfl 18 (by decide) rfl (hts _ (List.mem_cons_of_mem _ t_681)) (fun _ h9 => h9) rfl dX0_readOld_120 (fun x_113 bx_113 g => ?_)
            refine lv_iconst (v := 2) hx hb dX0_readOld_123 (by decide) ?_
            have kb_2 : bd 2 2 (2 : Int32) := ⟨by decide, by decide⟩
            refine lv_iadd hx hb dX0_readOld_124 ?_
            refine lv_topi (fun y_114 ey_114 => ?_)
            have go_ := g
            refine g_put (C := RX7) (T := TX7) (N := 19) hx hb hts (mc_ inX7) tyX7 tyX7_ok nmX7 hown hK g mq2_ kq2_ (by decide) rfl 18 (by decide) (hts _ (List.mem_cons_of_mem _ t_681)) (fun _ h9 => h9) rfl rfl (okV_i (bdT y_114)) rfl rfl (by decide) (Or.inr (Or.inl (by decide))) (fx' := [(9, 2, q3_, .int x_38), (8, 6, q0_, .int x_28), (0, 11, a0_, .int x_11), (8, 8, q0_, .int x_13), (0, 0, a0_, .ref q0_), (0, 1, a0_, .ref q1_), (0, 2, a0_, .ref q2_), (5, 1, q1_, .ref q3_)]) rfl dX0_readOld_125 (fun f H locs hM_115 g => ?_)
            have hG_116 := eOK.frame hM_115 go_.2.2.2.1 ma0_ ka0_ (by decide) (by decide) hG_105
            refine lv_iload hx hb dX0_readOld_128 (lv_at hl 0 rfl) ?_
            refine lv_if_eq (tgt := 167) hx hb dX0_readOld_130 (by decide) (fun c_ => absurd c_ (by decide)) (fun c_ => ?_)
            refine lv_aload_n hx hb dX0_readOld_133 rfl (lv_at hl 4 rfl) ?_
            refine lv_dup hx hb dX0_readOld_134 rfl ?_
            refine g_getk (C := RX0) (T := TX0) (N := 14) hx hb hts (mc_ inX0) hown hK g rfl 11 (by decide) rfl (hts _ (List.mem_cons_of_mem _ t_384)) (fun _ h9 => h9) 3 rfl dX0_readOld_135 ?_
            refine lv_iconst (v := 1) hx hb dX0_readOld_138 (by decide) ?_
            have kb_1 : bd 1 1 (1 : Int32) := ⟨by decide, by decide⟩
            refine lv_iadd hx hb dX0_readOld_139 ?_
            refine lv_topi (fun y_117 ey_117 => ?_)
            have ty_117 := add_bd ey_117 h_12 kb_1 (by decide)
            have b_118 : bd (-2147483647) 40 y_117 := add_rg ty_117 h_12 kb_1 (by decide)
            have go_ := g
            refine g_put (C := RX0) (T := TX0) (N := 14) hx hb hts (mc_ inX0) tyX0 tyX0_ok nmX0 hown hK g ma0_ ka0_ (by decide) rfl 11 (by decide) (hts _ (List.mem_cons_of_mem _ t_384)) (fun _ h9 => h9) rfl rfl (okV_i (bd_sub b_118 (by decide))) rfl rfl (by decide) (Or.inr (Or.inl (by decide))) (fx' := [(7, 18, q2_, .int y_114), (9, 2, q3_, .int x_38), (8, 6, q0_, .int x_28), (8, 8, q0_, .int x_13), (0, 0, a0_, .ref q0_), (0, 1, a0_, .ref q1_), (0, 2, a0_, .ref q2_), (5, 1, q1_, .ref q3_)]) rfl dX0_readOld_140 (fun f H locs hM_119 g => ?_)
            have hG_120 := eOK.frame hM_119 go_.2.2.2.1 ma0_ ka0_ (by decide) (by decide) hG_116
            refine lv_aload_n hx hb dX0_readOld_143 rfl (lv_at hl 4 rfl) ?_
            refine lv_iconst (v := 5) hx hb dX0_readOld_144 (by decide) ?_
            refine lv_iload_n hx hb dX0_readOld_145 rfl (lv_at hl 2 rfl) ?_
            refine lv_iload_n hx hb dX0_readOld_146 rfl (lv_at hl 1 rfl) ?_
            have kb_5 : bd 5 5 (5 : Int32) := ⟨by decide, by decide⟩
            have go_ := g
            refine g_callv (va_runV (As := [.int 5, .int r_20, .int r_24]) (rest := []) ⟨hx, hb, hml, hown, hts⟩ (r_X0_openIndex_2 l dC dI L kd tys f H.size g.2.2.2.1 a0_ ma0_ ka0_ 5 kb_5 r_20 r_24 b_101 q0_ mq0_ kq0_ q1_ mq1_ kq1_ q3_ mq3_ kq3_ y_117 b_118 x_38 h_39 x_13 h_14 hG_120 (g.fcts [5, 6, 8, 0, 2, 4] rfl)) (cwV 3 hts (gV_ t_1260 t_1262 t_24 t_190 t_1263) rfl rfl rfl (by decide +kernel) ⟨(Nat.le_of_ble_eq_true rfl), (Nat.le_of_ble_eq_true rfl)⟩) (pre3V g hK ma0_ ka0_ (by decide) (q := (RX0, TX0, 14)) rfl) rfl rfl hl.1 rfl (lv_room (Nat.le_of_ble_eq_true rfl)) dX0_readOld_147 ⟨(Nat.le_of_ble_eq_true rfl), (Nat.le_of_ble_eq_true rfl)⟩) g hK (by decide) (by decide) (fx' := [(7, 18, q2_, .int y_114), (9, 2, q3_, .int x_38), (0, 0, a0_, .ref q0_), (0, 1, a0_, .ref q1_), (0, 2, a0_, .ref q2_), (5, 1, q1_, .ref q3_)]) rfl (fun fr_121 H locs hp hMr_121 g => ?_)
            rcases hp with ⟨hG_122, h_123, x_124, h_125, x_126, h_127, x_128, h_129, x_130, h_131, hF_132⟩ | ⟨hG_133, h_134, x_135, h_136, x_137, h_138, x_139, h_140, hF_141⟩
            · have b_142 : bd (-2147483647) 39 y_117 := eqX rfl b_118 h_123 (by decide)
              have b_143 : bd (-2147483648) 38 x_11 := add_inv ty_117 b_142 h_12 kb_1 (by decide)
              have g := g.more hF_132
              refine lv_aload_n hx hb dX0_readOld_150 rfl (lv_at hl 4 rfl) ?_
              refine g_getr (K := 114) (C := RX0) (T := TX0) (N := 14) hx hb hts (mc_ inX0) hown hK g ma0_ ka0_ (by decide) rfl 7 (by decide) rfl (hts _ (List.mem_cons_of_mem _ t_380)) (fun _ h9 => h9) rfl dX0_readOld_151 (fun a_144 ma_144 ka_144 g => ?_)
              refine lv_aload_n hx hb dX0_readOld_154 rfl (lv_at hl 4 rfl) ?_
              refine g_getk (C := RX0) (T := TX0) (N := 14) hx hb hts (mc_ inX0) hown hK g rfl 8 (by decide) rfl (hts _ (List.mem_cons_of_mem _ t_381)) (fun _ h9 => h9) 3 rfl dX0_readOld_155 ?_
              refine lv_iconst (v := 1) hx hb dX0_readOld_158 (by decide) ?_
              refine lv_isub hx hb dX0_readOld_159 ?_
              refine lv_topi (fun y_145 ey_145 => ?_)
              have ty_145 := sub_bd ey_145 h_129 kb_1 (by decide)
              have b_146 : bd 0 299 y_145 := sub_rg ty_145 h_129 kb_1 (by decide)
              refine lv_iconst (v := 0) hx hb dX0_readOld_160 (by decide) ?_
              have kb_0 : bd 0 0 (0 : Int32) := ⟨by decide, by decide⟩
              refine va_mmax hx hb (hml.trans hl.1.symm) hown (hts _ (List.mem_cons_of_mem _ t_1194)) (hts _ (List.mem_cons_of_mem _ t_1041)) (hts _ (List.mem_cons_of_mem _ t_204)) (hts _ (List.mem_cons_of_mem _ t_1042)) (Nat.le_of_ble_eq_true rfl) (Nat.le_of_ble_eq_true rfl) (Nat.le_of_ble_eq_true rfl) (Nat.le_of_ble_eq_true rfl) dX0_readOld_161 ?_
              refine lv_topi (fun y_147 ey_147 => ?_)
              have ty_147 : y_147.toInt = max y_145.toInt (0 : Int32).toInt := by rw [ey_147]; exact mmax_ok _ _
              have b_148 : bd 0 299 y_147 := max_rg ty_147 b_146 kb_0 (by decide)
              refine lv_iload_n hx hb dX0_readOld_164 rfl (lv_at hl 3 rfl) ?_
              have go_ := g
              refine g_iast hx hb hK g ma_144 ka_144 (by decide) rfl (in_bd b_148 (by decide)) (bdT r_1) (by decide) dX0_readOld_165 (fun f H locs hM_149 g => ?_)
              have hG_150 := eOK.frame hM_149 go_.2.2.2.1 ma0_ ka0_ (by decide) (by decide) hG_122
              subst hQ
              exact W.vret hx hb hr (fun t ht hW => ⟨⟨_, rfl, Or.inl ⟨hG_150, x_124, h_125, x_130, h_131, x_126, (bd_sub h_127 (by decide)), (g.fcts [1, 4, 2] rfl)⟩, q3_of g hK ht hW⟩, g.2.2.1.F ht⟩) g.2.2.1.2.2 dX0_readOld_166
            · have b_151 : bd 40 40 y_117 := eqX rfl b_118 h_134 (by decide)
              have b_152 : bd 39 39 x_11 := add_inv ty_117 b_151 h_12 kb_1 (by decide)
              have g := g.more hF_141
              refine lv_aload_n hx hb dX0_readOld_150 rfl (lv_at hl 4 rfl) ?_
              refine g_getr (K := 114) (C := RX0) (T := TX0) (N := 14) hx hb hts (mc_ inX0) hown hK g ma0_ ka0_ (by decide) rfl 7 (by decide) rfl (hts _ (List.mem_cons_of_mem _ t_380)) (fun _ h9 => h9) rfl dX0_readOld_151 (fun a_153 ma_153 ka_153 g => ?_)
              refine lv_aload_n hx hb dX0_readOld_154 rfl (lv_at hl 4 rfl) ?_
              refine g_getk (C := RX0) (T := TX0) (N := 14) hx hb hts (mc_ inX0) hown hK g rfl 8 (by decide) rfl (hts _ (List.mem_cons_of_mem _ t_381)) (fun _ h9 => h9) 2 rfl dX0_readOld_155 ?_
              refine lv_iconst (v := 1) hx hb dX0_readOld_158 (by decide) ?_
              refine lv_isub hx hb dX0_readOld_159 ?_
              refine lv_topi (fun y_154 ey_154 => ?_)
              have ty_154 := sub_bd ey_154 h_138 kb_1 (by decide)
              have b_155 : bd 0 299 y_154 := sub_rg ty_154 h_138 kb_1 (by decide)
              refine lv_iconst (v := 0) hx hb dX0_readOld_160 (by decide) ?_
              have kb_0 : bd 0 0 (0 : Int32) := ⟨by decide, by decide⟩
              refine va_mmax hx hb (hml.trans hl.1.symm) hown (hts _ (List.mem_cons_of_mem _ t_1194)) (hts _ (List.mem_cons_of_mem _ t_1041)) (hts _ (List.mem_cons_of_mem _ t_204)) (hts _ (List.mem_cons_of_mem _ t_1042)) (Nat.le_of_ble_eq_true rfl) (Nat.le_of_ble_eq_true rfl) (Nat.le_of_ble_eq_true rfl) (Nat.le_of_ble_eq_true rfl) dX0_readOld_161 ?_
              refine lv_topi (fun y_156 ey_156 => ?_)
              have ty_156 : y_156.toInt = max y_154.toInt (0 : Int32).toInt := by rw [ey_156]; exact mmax_ok _ _
              have b_157 : bd 0 299 y_156 := max_rg ty_156 b_155 kb_0 (by decide)
              refine lv_iload_n hx hb dX0_readOld_164 rfl (lv_at hl 3 rfl) ?_
              have go_ := g
              refine g_iast hx hb hK g ma_153 ka_153 (by decide) rfl (in_bd b_157 (by decide)) (bdT r_1) (by decide) dX0_readOld_165 (fun f H locs hM_158 g => ?_)
              have hG_159 := eOK.frame hM_158 go_.2.2.2.1 ma0_ ka0_ (by decide) (by decide) hG_133
              have kb_1201 : bd 1201 1201 (1201 : Int32) := ⟨by decide, by decide⟩
              subst hQ
              exact W.vret hx hb hr (fun t ht hW => ⟨⟨_, rfl, Or.inr (⟨hG_159, 1201, kb_1201, x_139, h_140, (g.fcts [3, 4] rfl)⟩), q3_of g hK ht hW⟩, g.2.2.1.F ht⟩) g.2.2.1.2.2 dX0_readOld_166
    · have fc_32 := eq_f c_32
      have b_160 : bd (-1) (-1) r_24 := eqX fc_32 h_25 kb_m1 (by decide)
      refine lv_aload_n hx hb dX0_readOld_54 rfl (lv_at hl 3 rfl) ?_
      refine g_getk (C := RX0) (T := TX0) (N := 14) hx hb hts (mc_ inX0) hown hK g rfl 0 (by decide) rfl (hts _ (List.mem_cons_of_mem _ t_373)) (fun _ h9 => h9) 3 rfl dX0_readOld_55 ?_
      refine lv_iconst (v := 2) hx hb dX0_readOld_58 (by decide) ?_
      refine lv_iload_n hx hb dX0_readOld_59 rfl (lv_at hl 1 rfl) ?_
      have kb_2 : bd 2 2 (2 : Int32) := ⟨by decide, by decide⟩
      have go_ := g
      refine g_callv (va_runV (As := [.int 2, .int r_20]) (rest := []) ⟨hx, hb, hml, hown, hts⟩ (r_X8_fail l dC dI L kd tys fr_27 H.size g.2.2.2.1 q0_ mq0_ kq0_ 2 (bd_sub kb_2 (by decide)) r_20 x_13 h_14 (g.fcts [2] rfl)) (cwV 2 hts (gV_ t_1215 t_1107 t_1108 t_184 t_1109) rfl rfl rfl (by decide +kernel) ⟨(Nat.le_of_ble_eq_true rfl), (Nat.le_of_ble_eq_true rfl)⟩) (pre3V g hK mq0_ kq0_ (by decide) (q := (RX8, TX8, 10)) rfl) rfl rfl hl.1 rfl (lv_room (Nat.le_of_ble_eq_true rfl)) dX0_readOld_60 ⟨(Nat.le_of_ble_eq_true rfl), (Nat.le_of_ble_eq_true rfl)⟩) g hK (by decide) (by decide) (fx' := [(0, 11, a0_, .int x_11), (0, 0, a0_, .ref q0_), (0, 1, a0_, .ref q1_), (0, 2, a0_, .ref q2_), (5, 1, q1_, .ref q3_)]) rfl (fun fr_161 H locs hp hMr_161 g => ?_)
      obtain ⟨x_162, h_163, hF_164⟩ := hp
      have hG_165 := eOK.frame hMr_161 go_.2.2.2.1 ma0_ ka0_ (by decide) (by decide) hG_31
      have g := g.more hF_164
      have kb_1201 : bd 1201 1201 (1201 : Int32) := ⟨by decide, by decide⟩
      subst hQ
      exact W.vret hx hb hr (fun t ht hW => ⟨⟨_, rfl, Or.inr (⟨hG_165, 1201, kb_1201, x_162, h_163, (g.fcts [0, 1] rfl)⟩), q3_of g hK ht hW⟩, g.2.2.1.F ht⟩) g.2.2.1.2.2 dX0_readOld_63
  · have hG_166 := eOK.frame hMr_8 go_.2.2.2.1 ma0_ ka0_ (by decide) (by decide) hG_7
    have g := g.more hF_18
    refine lv_aload_n hx hb dX0_readOld_19 rfl (lv_at hl 1 rfl) ?_
    refine g_getk (C := RX0) (T := TX0) (N := 14) hx hb hts (mc_ inX0) hown hK g rfl 0 (by decide) rfl (hts _ (List.mem_cons_of_mem _ t_373)) (fun _ h9 => h9) 2 rfl dX0_readOld_20 ?_
    have go_ := g
    refine g_calli (va_runV (As := []) (rest := []) ⟨hx, hb, hml, hown, hts⟩ (r_X8_place l dC dI L kd tys fr_8 H.size g.2.2.2.1 q0_ mq0_ kq0_) (cwV 0 hts (gV_ t_1220 t_1111 t_1112 t_184 t_1113) rfl rfl rfl (by decide +kernel) ⟨(Nat.le_of_ble_eq_true rfl), (Nat.le_of_ble_eq_true rfl)⟩) (pre3V g hK mq0_ kq0_ (by decide) (q := (RX8, TX8, 10)) rfl) rfl rfl hl.1 rfl (lv_room (Nat.le_of_ble_eq_true rfl)) dX0_readOld_23 ⟨(Nat.le_of_ble_eq_true rfl), (Nat.le_of_ble_eq_true rfl)⟩) g hK (by decide) (by decide) (fx' := [(8, 6, q0_, .int 1201), (8, 8, q0_, .int x_16), (0, 0, a0_, .ref q0_), (0, 1, a0_, .ref q1_), (0, 2, a0_, .ref q2_), (5, 1, q1_, .ref q3_)]) rfl (fun r_167 fr_167 H locs hp hMr_167 g => ?_)
    have hG_168 := eOK.frame hMr_167 go_.2.2.2.1 ma0_ ka0_ (by decide) (by decide) hG_166
    refine lv_istore_n (lv' := [(2, .int r_167), (1, .int r_1), (0, .ref a0_)]) hx hb dX0_readOld_26 rfl hl (by decide) rfl (fun ls hl => ?_)
    refine lv_aload_n hx hb dX0_readOld_27 rfl (lv_at hl 2 rfl) ?_
    refine g_getk (C := RX0) (T := TX0) (N := 14) hx hb hts (mc_ inX0) hown hK g rfl 1 (by decide) rfl (hts _ (List.mem_cons_of_mem _ t_374)) (fun _ h9 => h9) 3 rfl dX0_readOld_28 ?_
    refine lv_aload_n hx hb dX0_readOld_31 rfl (lv_at hl 2 rfl) ?_
    refine g_getk (C := RX0) (T := TX0) (N := 14) hx hb hts (mc_ inX0) hown hK g rfl 0 (by decide) rfl (hts _ (List.mem_cons_of_mem _ t_373)) (fun _ h9 => h9) 2 rfl dX0_readOld_32 ?_
    have go_ := g
    refine g_calll (va_runV (As := []) (rest := [.ref q1_]) ⟨hx, hb, hml, hown, hts⟩ (r_X8_value l dC dI L kd tys fr_167 H.size g.2.2.2.1 q0_ mq0_ kq0_) (cwV 0 hts (gV_ t_1238 t_1115 t_1116 t_184 t_1117) rfl rfl rfl (by decide +kernel) ⟨(Nat.le_of_ble_eq_true rfl), (Nat.le_of_ble_eq_true rfl)⟩) (pre3V g hK mq0_ kq0_ (by decide) (q := (RX8, TX8, 10)) rfl) rfl rfl hl.1 rfl (lv_room (Nat.le_of_ble_eq_true rfl)) dX0_readOld_35 ⟨(Nat.le_of_ble_eq_true rfl), (Nat.le_of_ble_eq_true rfl)⟩) g hK (by decide) (by decide) (fx' := [(8, 6, q0_, .int 1201), (8, 8, q0_, .int x_16), (0, 0, a0_, .ref q0_), (0, 1, a0_, .ref q1_), (0, 2, a0_, .ref q2_), (5, 1, q1_, .ref q3_)]) rfl (fun r_169 fr_169 H locs hp hMr_169 g => ?_)
    have hG_170 := eOK.frame hMr_169 go_.2.2.2.1 ma0_ ka0_ (by decide) (by decide) hG_168
    have go_ := g
    refine g_calli (va_runV (As := [.long r_169]) (rest := []) ⟨hx, hb, hml, hown, hts⟩ (r_X5_placeNamed l dC dI L kd tys fr_169 H.size g.2.2.2.1 q1_ mq1_ kq1_ r_169 q3_ mq3_ kq3_ (g.fcts [5] rfl)) (cwV 1 hts (gV_ t_1251 t_1252 t_1253 t_189 t_1254) rfl rfl rfl (by decide +kernel) ⟨(Nat.le_of_ble_eq_true rfl), (Nat.le_of_ble_eq_true rfl)⟩) (pre3V g hK mq1_ kq1_ (by decide) (q := (RX5, TX5, 9)) rfl) rfl rfl hl.1 rfl (lv_room (Nat.le_of_ble_eq_true rfl)) dX0_readOld_38 ⟨(Nat.le_of_ble_eq_true rfl), (Nat.le_of_ble_eq_true rfl)⟩) g hK (by decide) (by decide) (fx' := [(8, 6, q0_, .int 1201), (8, 8, q0_, .int x_16), (0, 0, a0_, .ref q0_), (0, 1, a0_, .ref q1_), (0, 2, a0_, .ref q2_), (5, 1, q1_, .ref q3_)]) rfl (fun r_171 fr_171 H locs hp hMr_171 g => ?_)
    obtain ⟨h_172, -⟩ := hp
    have hG_173 := eOK.frame hMr_171 go_.2.2.2.1 ma0_ ka0_ (by decide) (by decide) hG_170
    refine lv_istore_n (lv' := [(3, .int r_171), (2, .int r_167), (1, .int r_1), (0, .ref a0_)]) hx hb dX0_readOld_41 rfl hl (by decide) rfl (fun ls hl => ?_)
    refine lv_aload_n hx hb dX0_readOld_42 rfl (lv_at hl 3 rfl) ?_
    refine g_getk (C := RX0) (T := TX0) (N := 14) hx hb hts (mc_ inX0) hown hK g rfl 0 (by decide) rfl (hts _ (List.mem_cons_of_mem _ t_373)) (fun _ h9 => h9) 2 rfl dX0_readOld_43 ?_
    have kb_1201 : bd 1201 1201 (1201 : Int32) := ⟨by decide, by decide⟩
    have go_ := g
    refine g_callv (va_runV (As := []) (rest := []) ⟨hx, hb, hml, hown, hts⟩ (r_X8_next_2 l dC dI L kd tys fr_171 H.size g.2.2.2.1 q0_ mq0_ kq0_ 1201 kb_1201 (g.fcts [0] rfl)) (cwV 0 hts (gV_ t_1225 t_1103 t_1104 t_184 t_1105) rfl rfl rfl (by decide +kernel) ⟨(Nat.le_of_ble_eq_true rfl), (Nat.le_of_ble_eq_true rfl)⟩) (pre3V g hK mq0_ kq0_ (by decide) (q := (RX8, TX8, 10)) rfl) rfl rfl hl.1 rfl (lv_room (Nat.le_of_ble_eq_true rfl)) dX0_readOld_46 ⟨(Nat.le_of_ble_eq_true rfl), (Nat.le_of_ble_eq_true rfl)⟩) g hK (by decide) (by decide) (fx' := [(8, 6, q0_, .int 1201), (8, 8, q0_, .int x_16), (0, 0, a0_, .ref q0_), (0, 1, a0_, .ref q1_), (0, 2, a0_, .ref q2_), (5, 1, q1_, .ref q3_)]) rfl (fun fr_174 H locs hp hMr_174 g => ?_)
    have hG_175 := eOK.frame hMr_174 go_.2.2.2.1 ma0_ ka0_ (by decide) (by decide) hG_173
    refine lv_iload_n hx hb dX0_readOld_49 rfl (lv_at hl 0 rfl) ?_
    refine lv_iconst (v := (-1)) hx hb dX0_readOld_50 (by decide) ?_
    have kb_m1 : bd (-1) (-1) ((-1) : Int32) := ⟨by decide, by decide⟩
    refine lv_icmp_ne (tgt := 64) hx hb dX0_readOld_51 (by decide) (fun c_176 => ?_) (fun c_176 => ?_)
    · have fc_176 := neq_f c_176
      have b_177 : bd 0 26 r_171 := neX fc_176 h_172 kb_m1 (by decide)
      refine lv_aload_n hx hb dX0_readOld_64 rfl (lv_at hl 3 rfl) ?_
      refine g_getk (C := RX0) (T := TX0) (N := 14) hx hb hts (mc_ inX0) hown hK g rfl 1 (by decide) rfl (hts _ (List.mem_cons_of_mem _ t_374)) (fun _ h9 => h9) 3 rfl dX0_readOld_65 ?_
      refine g_getk (C := RX5) (T := TX5) (N := 9) hx hb hts (mc_ inX5) hown hK g rfl 1 (by decide) rfl (hts _ (List.mem_cons_of_mem _ t_332)) (fun _ h9 => h9) 5 rfl dX0_readOld_68 ?_
      refine lv_iload_n hx hb dX0_readOld_71 rfl (lv_at hl 0 rfl) ?_
      have go_ := g
      refine g_calli (va_runV (As := [.int r_171]) (rest := []) ⟨hx, hb, hml, hown, hts⟩ (r_X9_isRow l dC dI L kd tys fr_174 H.size g.2.2.2.1 q3_ mq3_ kq3_ r_171) (cwV 1 hts (gV_ t_1256 t_1257 t_1258 t_192 t_1259) rfl rfl rfl (by decide +kernel) ⟨(Nat.le_of_ble_eq_true rfl), (Nat.le_of_ble_eq_true rfl)⟩) (pre3V g hK mq3_ kq3_ (by decide) (q := (RX9, TX9, 13)) rfl) rfl rfl hl.1 rfl (lv_room (Nat.le_of_ble_eq_true rfl)) dX0_readOld_72 ⟨(Nat.le_of_ble_eq_true rfl), (Nat.le_of_ble_eq_true rfl)⟩) g hK (by decide) (by decide) (fx' := [(8, 6, q0_, .int 1201), (8, 8, q0_, .int x_16), (0, 0, a0_, .ref q0_), (0, 1, a0_, .ref q1_), (0, 2, a0_, .ref q2_), (5, 1, q1_, .ref q3_)]) rfl (fun r_178 fr_178 H locs hp hMr_178 g => ?_)
      rcases hp with ⟨h_179, -⟩ | ⟨h_180, h_181, x_182, h_183, hF_184⟩
      · have hG_185 := eOK.frame hMr_178 go_.2.2.2.1 ma0_ ka0_ (by decide) (by decide) hG_175
        obtain rfl : r_178 = 0 := h_179
        refine lv_istore (lv' := [(4, .int 0), (3, .int r_171), (2, .int r_167), (1, .int r_1), (0, .ref a0_)]) hx hb dX0_readOld_75 hl (by decide) rfl (fun ls hl => ?_)
        refine lv_iload_n hx hb dX0_readOld_77 rfl (lv_at hl 1 rfl) ?_
        refine lv_bipush (v := 16) hx hb dX0_readOld_78 (by decide) ?_
        have kb_16 : bd 16 16 (16 : Int32) := ⟨by decide, by decide⟩
        refine lv_icmp_ge (tgt := 105) hx hb dX0_readOld_80 (by decide) (fun c_186 => ?_) (fun c_186 => ?_)
        · have fc_186 := le_f c_186
          have b_187 : bd 16 26 r_171 := leR fc_186 kb_16 b_177 (by decide)
          refine lv_aload_n hx hb dX0_readOld_105 rfl (lv_at hl 4 rfl) ?_
          refine g_getk (C := RX0) (T := TX0) (N := 14) hx hb hts (mc_ inX0) hown hK g rfl 0 (by decide) rfl (hts _ (List.mem_cons_of_mem _ t_373)) (fun _ h9 => h9) 2 rfl dX0_readOld_106 ?_
          refine lv_iconst (v := 5) hx hb dX0_readOld_109 (by decide) ?_
          refine lv_iload_n hx hb dX0_readOld_110 rfl (lv_at hl 2 rfl) ?_
          have kb_5 : bd 5 5 (5 : Int32) := ⟨by decide, by decide⟩
          have go_ := g
          refine g_callv (va_runV (As := [.int 5, .int r_167]) (rest := []) ⟨hx, hb, hml, hown, hts⟩ (r_X8_fail_2 l dC dI L kd tys fr_178 H.size g.2.2.2.1 q0_ mq0_ kq0_ 5 (bd_sub kb_5 (by decide)) r_167 x_16 h_17 (g.fcts [1] rfl)) (cwV 2 hts (gV_ t_1215 t_1107 t_1108 t_184 t_1109) rfl rfl rfl (by decide +kernel) ⟨(Nat.le_of_ble_eq_true rfl), (Nat.le_of_ble_eq_true rfl)⟩) (pre3V g hK mq0_ kq0_ (by decide) (q := (RX8, TX8, 10)) rfl) rfl rfl hl.1 rfl (lv_room (Nat.le_of_ble_eq_true rfl)) dX0_readOld_111 ⟨(Nat.le_of_ble_eq_true rfl), (Nat.le_of_ble_eq_true rfl)⟩) g hK (by decide) (by decide) (fx' := [(8, 8, q0_, .int x_16), (0, 0, a0_, .ref q0_), (0, 1, a0_, .ref q1_), (0, 2, a0_, .ref q2_), (5, 1, q1_, .ref q3_)]) rfl (fun fr_188 H locs hp hMr_188 g => ?_)
          have hF_189 := hp
          have hG_190 := eOK.frame hMr_188 go_.2.2.2.1 ma0_ ka0_ (by decide) (by decide) hG_185
          have g := g.more hF_189
          subst hQ
          exact W.vret hx hb hr (fun t ht hW => ⟨⟨_, rfl, Or.inr (⟨hG_190, 1201, kb_1201, x_16, h_17, (g.fcts [0, 1] rfl)⟩), q3_of g hK ht hW⟩, g.2.2.1.F ht⟩) g.2.2.1.2.2 dX0_readOld_114
        · have fc_186 := nle_f c_186
          have b_191 : bd 0 15 r_171 := ltL fc_186 b_177 kb_16 (by decide)
          refine lv_iload hx hb dX0_readOld_83 (lv_at hl 0 rfl) ?_
          refine lv_aload_n hx hb dX0_readOld_85 rfl (lv_at hl 4 rfl) ?_
          refine g_getk (C := RX0) (T := TX0) (N := 14) hx hb hts (mc_ inX0) hown hK g rfl 0 (by decide) rfl (hts _ (List.mem_cons_of_mem _ t_373)) (fun _ h9 => h9) 2 rfl dX0_readOld_86 ?_
          have go_ := g
          refine g_calli (va_runV (As := []) (rest := [.int 0]) ⟨hx, hb, hml, hown, hts⟩ (r_X8_kind_2 l dC dI L kd tys fr_178 H.size g.2.2.2.1 q0_ mq0_ kq0_ 1201 kb_1201 (g.fcts [0] rfl)) (cwV 0 hts (gV_ t_1186 t_1119 t_1120 t_184 t_1121) rfl rfl rfl (by decide +kernel) ⟨(Nat.le_of_ble_eq_true rfl), (Nat.le_of_ble_eq_true rfl)⟩) (pre3V g hK mq0_ kq0_ (by decide) (q := (RX8, TX8, 10)) rfl) rfl rfl hl.1 rfl (lv_room (Nat.le_of_ble_eq_true rfl)) dX0_readOld_89 ⟨(Nat.le_of_ble_eq_true rfl), (Nat.le_of_ble_eq_true rfl)⟩) g hK (by decide) (by decide) (fx' := [(8, 6, q0_, .int 1201), (8, 8, q0_, .int x_16), (0, 0, a0_, .ref q0_), (0, 1, a0_, .ref q1_), (0, 2, a0_, .ref q2_), (5, 1, q1_, .ref q3_)]) rfl (fun r_192 fr_192 H locs hp hMr_192 g => ?_)
          obtain ⟨h_193, -⟩ := hp
          have hG_194 := eOK.frame hMr_192 go_.2.2.2.1 ma0_ ka0_ (by decide) (by decide) hG_185
          obtain rfl : r_192 = 0 := h_193
          refine lv_bipush (v := 91) hx hb dX0_readOld_92 (by decide) ?_
          refine lv_icmp_ne (tgt := 101) hx hb dX0_readOld_94 (by decide) (fun c_ => ?_) (fun c_ => absurd c_ (by decide))
          refine lv_iconst (v := 0) hx hb dX0_readOld_101 (by decide) ?_
          refine lv_icmp_eq (tgt := 115) hx hb dX0_readOld_102 (by decide) (fun c_ => ?_) (fun c_ => absurd (by decide) c_)
          refine lv_aload_n hx hb dX0_readOld_115 rfl (lv_at hl 4 rfl) ?_
          refine g_getk (C := RX0) (T := TX0) (N := 14) hx hb hts (mc_ inX0) hown hK g rfl 2 (by decide) rfl (hts _ (List.mem_cons_of_mem _ t_375)) (fun _ h9 => h9) 4 rfl dX0_readOld_116 ?_
          refine lv_dup hx hb dX0_readOld_119 rfl ?_
          refine g_geti (C := RX7) (T := TX7) (N := 19) hx hb hts (mc_ inX7) hown hK g mq2_ kq2_ (by decide) rfl 18 (by decide) rfl (hts _ (List.mem_cons_of_mem _ t_681)) (fun _ h9 => h9) rfl dX0_readOld_120 (fun x_195 bx_195 g => ?_)
          refine lv_iconst (v := 2) hx hb dX0_readOld_123 (by decide) ?_
          have kb_2 : bd 2 2 (2 : Int32) := ⟨by decide, by decide⟩
          refine lv_iadd hx hb dX0_readOld_124 ?_
          refine lv_topi (fun y_196 ey_196 => ?_)
          have go_ := g
          refine g_put (C := RX7) (T := TX7) (N := 19) hx hb hts (mc_ inX7) tyX7 tyX7_ok nmX7 hown hK g mq2_ kq2_ (by decide) rfl 18 (by decide) (hts _ (List.mem_cons_of_mem _ t_681)) (fun _ h9 => h9) rfl rfl (okV_i (bdT y_196)) rfl rfl (by decide) (Or.inr (Or.inl (by decide))) (fx' := [(8, 6, q0_, .int 1201), (8, 8, q0_, .int x_16), (0, 0, a0_, .ref q0_), (0, 1, a0_, .ref q1_), (0, 2, a0_, .ref q2_), (5, 1, q1_, .ref q3_)]) rfl dX0_readOld_125 (fun f H locs hM_197 g => ?_)
          have hG_198 := eOK.frame hM_197 go_.2.2.2.1 ma0_ ka0_ (by decide) (by decide) hG_194
          refine lv_iload hx hb dX0_readOld_128 (lv_at hl 0 rfl) ?_
          refine lv_if_eq (tgt := 167) hx hb dX0_readOld_130 (by decide) (fun c_ => ?_) (fun c_ => absurd (by decide) c_)
          refine lv_aload_n hx hb dX0_readOld_167 rfl (lv_at hl 4 rfl) ?_
          refine g_getk (C := RX0) (T := TX0) (N := 14) hx hb hts (mc_ inX0) hown hK g rfl 0 (by decide) rfl (hts _ (List.mem_cons_of_mem _ t_373)) (fun _ h9 => h9) 3 rfl dX0_readOld_168 ?_
          refine lv_bipush (v := 41) hx hb dX0_readOld_171 (by decide) ?_
          have go_ := g
          refine g_callv (va_runV (As := [.int 41]) (rest := []) ⟨hx, hb, hml, hown, hts⟩ (r_X8_take_2 l dC dI L kd tys f H.size g.2.2.2.1 q0_ mq0_ kq0_ 41 1201 kb_1201 x_16 h_17 (g.fcts [1, 2] rfl)) (cwV 1 hts (gV_ t_1284 t_1099 t_1100 t_184 t_1101) rfl rfl rfl (by decide +kernel) ⟨(Nat.le_of_ble_eq_true rfl), (Nat.le_of_ble_eq_true rfl)⟩) (pre3V g hK mq0_ kq0_ (by decide) (q := (RX8, TX8, 10)) rfl) rfl rfl hl.1 rfl (lv_room (Nat.le_of_ble_eq_true rfl)) dX0_readOld_173 ⟨(Nat.le_of_ble_eq_true rfl), (Nat.le_of_ble_eq_true rfl)⟩) g hK (by decide) (by decide) (fx' := [(7, 18, q2_, .int y_196), (8, 8, q0_, .int x_16), (0, 0, a0_, .ref q0_), (0, 1, a0_, .ref q1_), (0, 2, a0_, .ref q2_), (5, 1, q1_, .ref q3_)]) rfl (fun fr_199 H locs hp hMr_199 g => ?_)
          obtain ⟨x_200, h_201, hF_202⟩ := hp
          have hG_203 := eOK.frame hMr_199 go_.2.2.2.1 ma0_ ka0_ (by decide) (by decide) hG_198
          have g := g.more hF_202
          refine lv_aload_n hx hb dX0_readOld_176 rfl (lv_at hl 4 rfl) ?_
          refine g_getk (C := RX0) (T := TX0) (N := 14) hx hb hts (mc_ inX0) hown hK g rfl 2 (by decide) rfl (hts _ (List.mem_cons_of_mem _ t_375)) (fun _ h9 => h9) 5 rfl dX0_readOld_177 ?_
          refine lv_iconst (v := 4) hx hb dX0_readOld_180 (by decide) ?_
          refine lv_aload_n hx hb dX0_readOld_181 rfl (lv_at hl 4 rfl) ?_
          refine g_getk (C := RX0) (T := TX0) (N := 14) hx hb hts (mc_ inX0) hown hK g rfl 1 (by decide) rfl (hts _ (List.mem_cons_of_mem _ t_374)) (fun _ h9 => h9) 4 rfl dX0_readOld_182 ?_
          refine g_getk (C := RX5) (T := TX5) (N := 9) hx hb hts (mc_ inX5) hown hK g rfl 1 (by decide) rfl (hts _ (List.mem_cons_of_mem _ t_332)) (fun _ h9 => h9) 6 rfl dX0_readOld_185 ?_
          refine lv_iload_n hx hb dX0_readOld_188 rfl (lv_at hl 1 rfl) ?_
          have go_ := g
          refine g_calli (va_runV (As := [.int r_171]) (rest := [.int 4, .ref q2_]) ⟨hx, hb, hml, hown, hts⟩ (r_X9_spanOf l dC dI L kd tys fr_199 H.size g.2.2.2.1 q3_ mq3_ kq3_ r_171) (cwV 1 hts (gV_ t_1264 t_1265 t_1266 t_192 t_1267) rfl rfl rfl (by decide +kernel) ⟨(Nat.le_of_ble_eq_true rfl), (Nat.le_of_ble_eq_true rfl)⟩) (pre3V g hK mq3_ kq3_ (by decide) (q := (RX9, TX9, 13)) rfl) rfl rfl hl.1 rfl (lv_room (Nat.le_of_ble_eq_true rfl)) dX0_readOld_189 ⟨(Nat.le_of_ble_eq_true rfl), (Nat.le_of_ble_eq_true rfl)⟩) g hK (by decide) (by decide) (fx' := [(8, 6, q0_, .int x_200), (7, 18, q2_, .int y_196), (8, 8, q0_, .int x_16), (0, 0, a0_, .ref q0_), (0, 1, a0_, .ref q1_), (0, 2, a0_, .ref q2_), (5, 1, q1_, .ref q3_)]) rfl (fun r_204 fr_204 H locs hp hMr_204 g => ?_)
          obtain ⟨h_205, -⟩ := hp
          have hG_206 := eOK.frame hMr_204 go_.2.2.2.1 ma0_ ka0_ (by decide) (by decide) hG_203
          have go_ := g
          refine g_callv (va_runV (As := [.int 4, .int r_204]) (rest := []) ⟨hx, hb, hml, hown, hts⟩ (r_X7_emit l dC dI L kd tys fr_204 H.size g.2.2.2.1 q2_ mq2_ kq2_ 4 r_204) (cwV 2 hts (gV_ t_1203 t_1204 t_1205 t_191 t_1206) rfl rfl rfl (by decide +kernel) ⟨(Nat.le_of_ble_eq_true rfl), (Nat.le_of_ble_eq_true rfl)⟩) (pre3V g hK mq2_ kq2_ (by decide) (q := (RX7, TX7, 19)) rfl) rfl rfl hl.1 rfl (lv_room (Nat.le_of_ble_eq_true rfl)) dX0_readOld_192 ⟨(Nat.le_of_ble_eq_true rfl), (Nat.le_of_ble_eq_true rfl)⟩) g hK (by decide) (by decide) (fx' := [(8, 6, q0_, .int x_200), (7, 18, q2_, .int y_196), (8, 8, q0_, .int x_16), (0, 0, a0_, .ref q0_), (0, 1, a0_, .ref q1_), (0, 2, a0_, .ref q2_), (5, 1, q1_, .ref q3_)]) rfl (fun fr_207 H locs hp hMr_207 g => ?_)
          obtain ⟨x_208, h_209, hF_210⟩ := hp
          have hG_211 := eOK.frame hMr_207 go_.2.2.2.1 ma0_ ka0_ (by decide) (by decide) hG_206
          have g := g.more hF_210
          refine lv_aload_n hx hb dX0_readOld_195 rfl (lv_at hl 4 rfl) ?_
          refine lv_iconst (v := 2) hx hb dX0_readOld_196 (by decide) ?_
          have go_ := g
          refine g_callv (va_runV (As := [.int 2]) (rest := []) ⟨hx, hb, hml, hown, hts⟩ (r_X0_addWhole l dC dI L kd tys fr_207 H.size g.2.2.2.1 a0_ ma0_ ka0_ 2) (cwV 1 hts (gV_ t_1211 t_1213 t_17 t_190 t_1214) rfl rfl rfl (by decide +kernel) ⟨(Nat.le_of_ble_eq_true rfl), (Nat.le_of_ble_eq_true rfl)⟩) (pre3V g hK ma0_ ka0_ (by decide) (q := (RX0, TX0, 14)) rfl) rfl rfl hl.1 rfl (lv_room (Nat.le_of_ble_eq_true rfl)) dX0_readOld_197 ⟨(Nat.le_of_ble_eq_true rfl), (Nat.le_of_ble_eq_true rfl)⟩) g hK (by decide) (by decide) (fx' := [(7, 6, q2_, .int x_208), (8, 6, q0_, .int x_200), (7, 18, q2_, .int y_196), (8, 8, q0_, .int x_16), (0, 0, a0_, .ref q0_), (0, 1, a0_, .ref q1_), (0, 2, a0_, .ref q2_), (5, 1, q1_, .ref q3_)]) rfl (fun fr_212 H locs hp hMr_212 g => ?_)
          obtain ⟨x_213, h_214, hF_215⟩ := hp
          have hG_216 := eOK.frame hMr_212 go_.2.2.2.1 ma0_ ka0_ (by decide) (by decide) hG_211
          have g := g.more hF_215
          subst hQ
          exact W.vret hx hb hr (fun t ht hW => ⟨⟨_, rfl, Or.inr (⟨hG_216, x_200, h_201, x_16, h_17, (g.fcts [3, 5] rfl)⟩), q3_of g hK ht hW⟩, g.2.2.1.F ht⟩) g.2.2.1.2.2 dX0_readOld_200
      · have hG_217 := eOK.frame hMr_178 go_.2.2.2.1 ma0_ ka0_ (by decide) (by decide) hG_175
        obtain rfl : r_178 = 1 := h_180
        have b_218 : bd 0 9 r_171 := eqX rfl b_177 h_181 (by decide)
        have g := g.more hF_184
        refine lv_istore (lv' := [(4, .int 1), (3, .int r_171), (2, .int r_167), (1, .int r_1), (0, .ref a0_)]) hx hb dX0_readOld_75 hl (by decide) rfl (fun ls hl => ?_)
        refine lv_iload_n hx hb dX0_readOld_77 rfl (lv_at hl 1 rfl) ?_
        refine lv_bipush (v := 16) hx hb dX0_readOld_78 (by decide) ?_
        have kb_16 : bd 16 16 (16 : Int32) := ⟨by decide, by decide⟩
        refine lv_icmp_ge (tgt := 105) hx hb dX0_readOld_80 (by decide) (fun c_219 => ?_) (fun c_219 => ?_)
        · have fc_219 := le_f c_219
          have b_220 : bd 16 9 (16 : Int32) := leL fc_219 kb_16 b_218 (by decide)
          exact bd_no (eqX rfl b_220 kb_16 (lo := 16) (hi := 9) (by decide)) (by decide)
        · have fc_219 := nle_f c_219
          refine lv_iload hx hb dX0_readOld_83 (lv_at hl 0 rfl) ?_
          refine lv_aload_n hx hb dX0_readOld_85 rfl (lv_at hl 4 rfl) ?_
          refine g_getk (C := RX0) (T := TX0) (N := 14) hx hb hts (mc_ inX0) hown hK g rfl 0 (by decide) rfl (hts _ (List.mem_cons_of_mem _ t_373)) (fun _ h9 => h9) 3 rfl dX0_readOld_86 ?_
          have go_ := g
          refine g_calli (va_runV (As := []) (rest := [.int 1]) ⟨hx, hb, hml, hown, hts⟩ (r_X8_kind_2 l dC dI L kd tys fr_178 H.size g.2.2.2.1 q0_ mq0_ kq0_ 1201 kb_1201 (g.fcts [1] rfl)) (cwV 0 hts (gV_ t_1186 t_1119 t_1120 t_184 t_1121) rfl rfl rfl (by decide +kernel) ⟨(Nat.le_of_ble_eq_true rfl), (Nat.le_of_ble_eq_true rfl)⟩) (pre3V g hK mq0_ kq0_ (by decide) (q := (RX8, TX8, 10)) rfl) rfl rfl hl.1 rfl (lv_room (Nat.le_of_ble_eq_true rfl)) dX0_readOld_89 ⟨(Nat.le_of_ble_eq_true rfl), (Nat.le_of_ble_eq_true rfl)⟩) g hK (by decide) (by decide) (fx' := [(9, 2, q3_, .int x_182), (8, 6, q0_, .int 1201), (8, 8, q0_, .int x_16), (0, 0, a0_, .ref q0_), (0, 1, a0_, .ref q1_), (0, 2, a0_, .ref q2_), (5, 1, q1_, .ref q3_)]) rfl (fun r_221 fr_221 H locs hp hMr_221 g => ?_)
          obtain ⟨h_222, -⟩ := hp
          have hG_223 := eOK.frame hMr_221 go_.2.2.2.1 ma0_ ka0_ (by decide) (by decide) hG_217
          obtain rfl : r_221 = 0 := h_222
          refine lv_bipush (v := 91) hx hb dX0_readOld_92 (by decide) ?_
          refine lv_icmp_ne (tgt := 101) hx hb dX0_readOld_94 (by decide) (fun c_ => ?_) (fun c_ => absurd c_ (by decide))
          refine lv_iconst (v := 0) hx hb dX0_readOld_101 (by decide) ?_
          refine lv_icmp_eq (tgt := 115) hx hb dX0_readOld_102 (by decide) (fun c_ => absurd c_ (by decide)) (fun c_ => ?_)
          refine lv_aload_n hx hb dX0_readOld_105 rfl (lv_at hl 4 rfl) ?_
          refine g_getk (C := RX0) (T := TX0) (N := 14) hx hb hts (mc_ inX0) hown hK g rfl 0 (by decide) rfl (hts _ (List.mem_cons_of_mem _ t_373)) (fun _ h9 => h9) 3 rfl dX0_readOld_106 ?_
          refine lv_iconst (v := 5) hx hb dX0_readOld_109 (by decide) ?_
          refine lv_iload_n hx hb dX0_readOld_110 rfl (lv_at hl 2 rfl) ?_
          have kb_5 : bd 5 5 (5 : Int32) := ⟨by decide, by decide⟩
          have go_ := g
          refine g_callv (va_runV (As := [.int 5, .int r_167]) (rest := []) ⟨hx, hb, hml, hown, hts⟩ (r_X8_fail_2 l dC dI L kd tys fr_221 H.size g.2.2.2.1 q0_ mq0_ kq0_ 5 (bd_sub kb_5 (by decide)) r_167 x_16 h_17 (g.fcts [2] rfl)) (cwV 2 hts (gV_ t_1215 t_1107 t_1108 t_184 t_1109) rfl rfl rfl (by decide +kernel) ⟨(Nat.le_of_ble_eq_true rfl), (Nat.le_of_ble_eq_true rfl)⟩) (pre3V g hK mq0_ kq0_ (by decide) (q := (RX8, TX8, 10)) rfl) rfl rfl hl.1 rfl (lv_room (Nat.le_of_ble_eq_true rfl)) dX0_readOld_111 ⟨(Nat.le_of_ble_eq_true rfl), (Nat.le_of_ble_eq_true rfl)⟩) g hK (by decide) (by decide) (fx' := [(9, 2, q3_, .int x_182), (8, 8, q0_, .int x_16), (0, 0, a0_, .ref q0_), (0, 1, a0_, .ref q1_), (0, 2, a0_, .ref q2_), (5, 1, q1_, .ref q3_)]) rfl (fun fr_224 H locs hp hMr_224 g => ?_)
          have hF_225 := hp
          have hG_226 := eOK.frame hMr_224 go_.2.2.2.1 ma0_ ka0_ (by decide) (by decide) hG_223
          have g := g.more hF_225
          subst hQ
          exact W.vret hx hb hr (fun t ht hW => ⟨⟨_, rfl, Or.inr (⟨hG_226, 1201, kb_1201, x_16, h_17, (g.fcts [0, 2] rfl)⟩), q3_of g hK ht hW⟩, g.2.2.1.F ht⟩) g.2.2.1.2.2 dX0_readOld_114
    · have fc_176 := eq_f c_176
      have b_227 : bd (-1) (-1) r_171 := eqX fc_176 h_172 kb_m1 (by decide)
      refine lv_aload_n hx hb dX0_readOld_54 rfl (lv_at hl 3 rfl) ?_
      refine g_getk (C := RX0) (T := TX0) (N := 14) hx hb hts (mc_ inX0) hown hK g rfl 0 (by decide) rfl (hts _ (List.mem_cons_of_mem _ t_373)) (fun _ h9 => h9) 2 rfl dX0_readOld_55 ?_
      refine lv_iconst (v := 2) hx hb dX0_readOld_58 (by decide) ?_
      refine lv_iload_n hx hb dX0_readOld_59 rfl (lv_at hl 1 rfl) ?_
      have kb_2 : bd 2 2 (2 : Int32) := ⟨by decide, by decide⟩
      have go_ := g
      refine g_callv (va_runV (As := [.int 2, .int r_167]) (rest := []) ⟨hx, hb, hml, hown, hts⟩ (r_X8_fail_2 l dC dI L kd tys fr_174 H.size g.2.2.2.1 q0_ mq0_ kq0_ 2 (bd_sub kb_2 (by decide)) r_167 x_16 h_17 (g.fcts [1] rfl)) (cwV 2 hts (gV_ t_1215 t_1107 t_1108 t_184 t_1109) rfl rfl rfl (by decide +kernel) ⟨(Nat.le_of_ble_eq_true rfl), (Nat.le_of_ble_eq_true rfl)⟩) (pre3V g hK mq0_ kq0_ (by decide) (q := (RX8, TX8, 10)) rfl) rfl rfl hl.1 rfl (lv_room (Nat.le_of_ble_eq_true rfl)) dX0_readOld_60 ⟨(Nat.le_of_ble_eq_true rfl), (Nat.le_of_ble_eq_true rfl)⟩) g hK (by decide) (by decide) (fx' := [(8, 8, q0_, .int x_16), (0, 0, a0_, .ref q0_), (0, 1, a0_, .ref q1_), (0, 2, a0_, .ref q2_), (5, 1, q1_, .ref q3_)]) rfl (fun fr_228 H locs hp hMr_228 g => ?_)
      have hF_229 := hp
      have hG_230 := eOK.frame hMr_228 go_.2.2.2.1 ma0_ ka0_ (by decide) (by decide) hG_175
      have g := g.more hF_229
      subst hQ
      exact W.vret hx hb hr (fun t ht hW => ⟨⟨_, rfl, Or.inr (⟨hG_230, 1201, kb_1201, x_16, h_17, (g.fcts [0, 1] rfl)⟩), q3_of g hK ht hW⟩, g.2.2.1.F ht⟩) g.2.2.1.2.2 dX0_readOld_63
