set_option maxHeartbeats 4000000 in
set_option maxRecDepth 100000 in
theorem r_X0_readOld (l : Launch) (dC : Nat → ClassId) (dI : Nat → Nat → Nat) (L : List Nat) (kd : Nat → Nat) (tys : List (ClassId × FieldType)) (f0 : Nat → va_E) (sz : Nat) (hWT : WT L kd tys f0) (a0_ : Nat) (ma0_ : a0_ ∈ L) (ka0_ : kd a0_ = 0) (q0_ : Nat) (mq0_ : q0_ ∈ L) (kq0_ : kd q0_ = 5) (q1_ : Nat) (mq1_ : q1_ ∈ L) (kq1_ : kd q1_ = 7) (q2_ : Nat) (mq2_ : q2_ ∈ L) (kq2_ : kd q2_ = 9) (hfx : Fs L kd f0 [(0, 1, a0_, .ref q0_), (0, 2, a0_, .ref q1_), (5, 1, q0_, .ref q2_)]) : Met l yX0_readOld (.code yX0_readOld cX0_readOld 5 none :: lw_g) ({ frames := 2, cells := 0, slots := 0, locals := 46 }) (va_Pc [.ref a0_] (P3 (dC, dI) L tys f0 sz)) (va_Qv (fun (f : Nat → va_E) => (True)) (Q3 (dC, dI) L kd tys [(0, 8), (0, 10), (0, 11), (0, 12), (7, 6), (7, 18), (8, 6), (8, 8), (8, 9)] [110, 111, 112, 113, 114, 115, 138, 139] f0 sz) (pA L sz)) 0 0 (pA L sz) := by
  refine Met.ofW (cc := cX0_readOld) (maxL := 5) (ret := none) (by decide) rfl ?_
  intro p e s m args below meth c s₁ B hml hv
  obtain ⟨rfl, hsz, hP, hK, hD0⟩ := hv
  have hx := B.exec
  have hb := B.bytes
  have hr := B.returns
  have hts := atoms_spec (ws := (.code yX0_readOld cX0_readOld 5 none :: lw_g)) B.pre
  have hown : s.vm.findClass RX0 = some m.cls := findClass_of_methodNamed B.named
  have hlocks := B.notSynchronized
  subst hsz
  have g : G3 (dC, dI) L kd tys s f0 [(0, 8), (0, 10), (0, 11), (0, 12), (7, 6), (7, 18), (8, 6), (8, 8), (8, 9)] [110, 111, 112, 113, 114, 115, 138, 139] f0 s.heap [] [(0, 1, a0_, .ref q0_), (0, 2, a0_, .ref q1_), (5, 1, q0_, .ref q2_)] := G3.start hP hD0 hWT hfx
  have hl := lv_entry ([.ref a0_]) (n := 5) (Nat.le_of_ble_eq_true rfl)
  rw [lg_entry_eq]
  generalize (lg_sl ([.ref a0_]) ++ List.replicate (5 - (lg_sl ([.ref a0_])).length) Slot.unset).toArray = ls at hl ⊢
  have hl : lv_has ls 5 [(0, .ref a0_)] := hl
  refine W_q (fun Q hQ => ?_)
  refine lv_aload_n hx hb dX0_readOld_0 rfl (lv_at hl 0 rfl) ?_
  refine g_getr (K := 8) (C := RX0) (T := TX0) (N := 14) hx hb hts (mc_ inX0) hown hK g ma0_ ka0_ (by decide) rfl 0 (by decide) rfl (hts _ (List.mem_cons_of_mem _ t_373)) (fun _ h9 => h9) rfl dX0_readOld_1 (fun a_1 ma_1 ka_1 g => ?_)
  refine g_calli (va_runV (As := []) (rest := []) ⟨hx, hb, hml, hown, hts⟩ (r_X8_place l dC dI L kd tys f0 s.heap.size g.2.2.2.1 a_1 ma_1 ka_1) (cwV 0 hts (gV_ t_1220 t_1111 t_1112 t_184 t_1113) rfl rfl rfl (by decide +kernel) ⟨(Nat.le_of_ble_eq_true rfl), (Nat.le_of_ble_eq_true rfl)⟩) (pre3V g hK ma_1 ka_1 (by decide) (q := (RX8, TX8, 10)) rfl) rfl rfl hl.1 rfl (lv_room (Nat.le_of_ble_eq_true rfl)) dX0_readOld_4 ⟨(Nat.le_of_ble_eq_true rfl), (Nat.le_of_ble_eq_true rfl)⟩) g hK (by decide) (by decide) (fx' := [(0, 0, a0_, .ref a_1), (0, 1, a0_, .ref q0_), (0, 2, a0_, .ref q1_), (5, 1, q0_, .ref q2_)]) rfl (fun r_2 fr_2 H locs hp hMr_2 g => ?_)
  refine lv_istore_n (lv' := [(1, .int r_2), (0, .ref a0_)]) hx hb dX0_readOld_7 rfl hl (by decide) rfl (fun ls hl => ?_)
  refine lv_aload_n hx hb dX0_readOld_8 rfl (lv_at hl 1 rfl) ?_
  refine g_getk (C := RX0) (T := TX0) (N := 14) hx hb hts (mc_ inX0) hown hK g rfl 0 (by decide) rfl (hts _ (List.mem_cons_of_mem _ t_373)) (fun _ h9 => h9) 0 rfl dX0_readOld_9 ?_
  refine g_callv (va_runV (As := []) (rest := []) ⟨hx, hb, hml, hown, hts⟩ (r_X8_next l dC dI L kd tys fr_2 H.size g.2.2.2.1 a_1 ma_1 ka_1) (cwV 0 hts (gV_ t_1225 t_1103 t_1104 t_184 t_1105) rfl rfl rfl (by decide +kernel) ⟨(Nat.le_of_ble_eq_true rfl), (Nat.le_of_ble_eq_true rfl)⟩) (pre3V g hK ma_1 ka_1 (by decide) (q := (RX8, TX8, 10)) rfl) rfl rfl hl.1 rfl (lv_room (Nat.le_of_ble_eq_true rfl)) dX0_readOld_12 ⟨(Nat.le_of_ble_eq_true rfl), (Nat.le_of_ble_eq_true rfl)⟩) g hK (by decide) (by decide) (fx' := [(0, 0, a0_, .ref a_1), (0, 1, a0_, .ref q0_), (0, 2, a0_, .ref q1_), (5, 1, q0_, .ref q2_)]) rfl (fun fr_3 H locs hp hMr_3 g => ?_)
  obtain ⟨x_4, h_5, hF_6⟩ := hp
  have g := g.more hF_6
  refine lv_aload_n hx hb dX0_readOld_15 rfl (lv_at hl 1 rfl) ?_
  refine g_callv (va_runV (As := []) (rest := []) ⟨hx, hb, hml, hown, hts⟩ (r_X0_takeBracket l dC dI L kd tys fr_3 H.size g.2.2.2.1 a0_ ma0_ ka0_ a_1 ma_1 ka_1 (g.fcts [1] rfl)) (cwV 0 hts (gV_ t_1289 t_1291 t_29 t_190 t_1292) rfl rfl rfl (by decide +kernel) ⟨(Nat.le_of_ble_eq_true rfl), (Nat.le_of_ble_eq_true rfl)⟩) (pre3V g hK ma0_ ka0_ (by decide) (q := (RX0, TX0, 14)) rfl) rfl rfl hl.1 rfl (lv_room (Nat.le_of_ble_eq_true rfl)) dX0_readOld_16 ⟨(Nat.le_of_ble_eq_true rfl), (Nat.le_of_ble_eq_true rfl)⟩) g hK (by decide) (by decide) (fx' := [(0, 0, a0_, .ref a_1), (0, 1, a0_, .ref q0_), (0, 2, a0_, .ref q1_), (5, 1, q0_, .ref q2_)]) rfl (fun fr_7 H locs hp hMr_7 g => ?_)
  obtain ⟨x_8, h_9, hF_10⟩ := hp
  have g := g.more hF_10
  refine lv_aload_n hx hb dX0_readOld_19 rfl (lv_at hl 1 rfl) ?_
  refine g_getk (C := RX0) (T := TX0) (N := 14) hx hb hts (mc_ inX0) hown hK g rfl 0 (by decide) rfl (hts _ (List.mem_cons_of_mem _ t_373)) (fun _ h9 => h9) 1 rfl dX0_readOld_20 ?_
  refine g_calli (va_runV (As := []) (rest := []) ⟨hx, hb, hml, hown, hts⟩ (r_X8_place l dC dI L kd tys fr_7 H.size g.2.2.2.1 a_1 ma_1 ka_1) (cwV 0 hts (gV_ t_1220 t_1111 t_1112 t_184 t_1113) rfl rfl rfl (by decide +kernel) ⟨(Nat.le_of_ble_eq_true rfl), (Nat.le_of_ble_eq_true rfl)⟩) (pre3V g hK ma_1 ka_1 (by decide) (q := (RX8, TX8, 10)) rfl) rfl rfl hl.1 rfl (lv_room (Nat.le_of_ble_eq_true rfl)) dX0_readOld_23 ⟨(Nat.le_of_ble_eq_true rfl), (Nat.le_of_ble_eq_true rfl)⟩) g hK (by decide) (by decide) (fx' := [(8, 6, a_1, .int x_8), (0, 0, a0_, .ref a_1), (0, 1, a0_, .ref q0_), (0, 2, a0_, .ref q1_), (5, 1, q0_, .ref q2_)]) rfl (fun r_11 fr_11 H locs hp hMr_11 g => ?_)
  refine lv_istore_n (lv' := [(2, .int r_11), (1, .int r_2), (0, .ref a0_)]) hx hb dX0_readOld_26 rfl hl (by decide) rfl (fun ls hl => ?_)
  refine lv_aload_n hx hb dX0_readOld_27 rfl (lv_at hl 2 rfl) ?_
  refine g_getk (C := RX0) (T := TX0) (N := 14) hx hb hts (mc_ inX0) hown hK g rfl 1 (by decide) rfl (hts _ (List.mem_cons_of_mem _ t_374)) (fun _ h9 => h9) 2 rfl dX0_readOld_28 ?_
  refine lv_aload_n hx hb dX0_readOld_31 rfl (lv_at hl 2 rfl) ?_
  refine g_getk (C := RX0) (T := TX0) (N := 14) hx hb hts (mc_ inX0) hown hK g rfl 0 (by decide) rfl (hts _ (List.mem_cons_of_mem _ t_373)) (fun _ h9 => h9) 1 rfl dX0_readOld_32 ?_
  refine g_calll (va_runV (As := []) (rest := [.ref q0_]) ⟨hx, hb, hml, hown, hts⟩ (r_X8_value l dC dI L kd tys fr_11 H.size g.2.2.2.1 a_1 ma_1 ka_1) (cwV 0 hts (gV_ t_1238 t_1115 t_1116 t_184 t_1117) rfl rfl rfl (by decide +kernel) ⟨(Nat.le_of_ble_eq_true rfl), (Nat.le_of_ble_eq_true rfl)⟩) (pre3V g hK ma_1 ka_1 (by decide) (q := (RX8, TX8, 10)) rfl) rfl rfl hl.1 rfl (lv_room (Nat.le_of_ble_eq_true rfl)) dX0_readOld_35 ⟨(Nat.le_of_ble_eq_true rfl), (Nat.le_of_ble_eq_true rfl)⟩) g hK (by decide) (by decide) (fx' := [(8, 6, a_1, .int x_8), (0, 0, a0_, .ref a_1), (0, 1, a0_, .ref q0_), (0, 2, a0_, .ref q1_), (5, 1, q0_, .ref q2_)]) rfl (fun r_12 fr_12 H locs hp hMr_12 g => ?_)
  refine g_calli (va_runV (As := [.long r_12]) (rest := []) ⟨hx, hb, hml, hown, hts⟩ (r_X5_placeNamed l dC dI L kd tys fr_12 H.size g.2.2.2.1 q0_ mq0_ kq0_ r_12 q2_ mq2_ kq2_ (g.fcts [4] rfl)) (cwV 1 hts (gV_ t_1251 t_1252 t_1253 t_189 t_1254) rfl rfl rfl (by decide +kernel) ⟨(Nat.le_of_ble_eq_true rfl), (Nat.le_of_ble_eq_true rfl)⟩) (pre3V g hK mq0_ kq0_ (by decide) (q := (RX5, TX5, 9)) rfl) rfl rfl hl.1 rfl (lv_room (Nat.le_of_ble_eq_true rfl)) dX0_readOld_38 ⟨(Nat.le_of_ble_eq_true rfl), (Nat.le_of_ble_eq_true rfl)⟩) g hK (by decide) (by decide) (fx' := [(8, 6, a_1, .int x_8), (0, 0, a0_, .ref a_1), (0, 1, a0_, .ref q0_), (0, 2, a0_, .ref q1_), (5, 1, q0_, .ref q2_)]) rfl (fun r_13 fr_13 H locs hp hMr_13 g => ?_)
  obtain ⟨h_14, -⟩ := hp
  refine lv_istore_n (lv' := [(3, .int r_13), (2, .int r_11), (1, .int r_2), (0, .ref a0_)]) hx hb dX0_readOld_41 rfl hl (by decide) rfl (fun ls hl => ?_)
  refine lv_aload_n hx hb dX0_readOld_42 rfl (lv_at hl 3 rfl) ?_
  refine g_getk (C := RX0) (T := TX0) (N := 14) hx hb hts (mc_ inX0) hown hK g rfl 0 (by decide) rfl (hts _ (List.mem_cons_of_mem _ t_373)) (fun _ h9 => h9) 1 rfl dX0_readOld_43 ?_
  refine g_callv (va_runV (As := []) (rest := []) ⟨hx, hb, hml, hown, hts⟩ (r_X8_next l dC dI L kd tys fr_13 H.size g.2.2.2.1 a_1 ma_1 ka_1) (cwV 0 hts (gV_ t_1225 t_1103 t_1104 t_184 t_1105) rfl rfl rfl (by decide +kernel) ⟨(Nat.le_of_ble_eq_true rfl), (Nat.le_of_ble_eq_true rfl)⟩) (pre3V g hK ma_1 ka_1 (by decide) (q := (RX8, TX8, 10)) rfl) rfl rfl hl.1 rfl (lv_room (Nat.le_of_ble_eq_true rfl)) dX0_readOld_46 ⟨(Nat.le_of_ble_eq_true rfl), (Nat.le_of_ble_eq_true rfl)⟩) g hK (by decide) (by decide) (fx' := [(0, 0, a0_, .ref a_1), (0, 1, a0_, .ref q0_), (0, 2, a0_, .ref q1_), (5, 1, q0_, .ref q2_)]) rfl (fun fr_15 H locs hp hMr_15 g => ?_)
  obtain ⟨x_16, h_17, hF_18⟩ := hp
  have g := g.more hF_18
  refine lv_iload_n hx hb dX0_readOld_49 rfl (lv_at hl 0 rfl) ?_
  refine lv_iconst (v := (-1)) hx hb dX0_readOld_50 (by decide) ?_
  have kb_m1 : bd (-1) (-1) ((-1) : Int32) := ⟨by decide, by decide⟩
  refine lv_icmp_ne (tgt := 64) hx hb dX0_readOld_51 (by decide) (fun c_19 => ?_) (fun c_19 => ?_)
  · have fc_19 := neq_f c_19
    have b_20 : bd 0 26 r_13 := neX fc_19 h_14 kb_m1 (by decide)
    refine lv_aload_n hx hb dX0_readOld_64 rfl (lv_at hl 3 rfl) ?_
    refine g_getk (C := RX0) (T := TX0) (N := 14) hx hb hts (mc_ inX0) hown hK g rfl 1 (by decide) rfl (hts _ (List.mem_cons_of_mem _ t_374)) (fun _ h9 => h9) 2 rfl dX0_readOld_65 ?_
    refine g_getk (C := RX5) (T := TX5) (N := 9) hx hb hts (mc_ inX5) hown hK g rfl 1 (by decide) rfl (hts _ (List.mem_cons_of_mem _ t_332)) (fun _ h9 => h9) 4 rfl dX0_readOld_68 ?_
    refine lv_iload_n hx hb dX0_readOld_71 rfl (lv_at hl 0 rfl) ?_
    refine g_calli (va_runV (As := [.int r_13]) (rest := []) ⟨hx, hb, hml, hown, hts⟩ (r_X9_isRow l dC dI L kd tys fr_15 H.size g.2.2.2.1 q2_ mq2_ kq2_ r_13) (cwV 1 hts (gV_ t_1256 t_1257 t_1258 t_192 t_1259) rfl rfl rfl (by decide +kernel) ⟨(Nat.le_of_ble_eq_true rfl), (Nat.le_of_ble_eq_true rfl)⟩) (pre3V g hK mq2_ kq2_ (by decide) (q := (RX9, TX9, 13)) rfl) rfl rfl hl.1 rfl (lv_room (Nat.le_of_ble_eq_true rfl)) dX0_readOld_72 ⟨(Nat.le_of_ble_eq_true rfl), (Nat.le_of_ble_eq_true rfl)⟩) g hK (by decide) (by decide) (fx' := [(8, 6, a_1, .int x_16), (0, 0, a0_, .ref a_1), (0, 1, a0_, .ref q0_), (0, 2, a0_, .ref q1_), (5, 1, q0_, .ref q2_)]) rfl (fun r_21 fr_21 H locs hp hMr_21 g => ?_)
    rcases hp with ⟨h_22, -⟩ | ⟨h_23, h_24, x_25, h_26, hF_27⟩
    · obtain rfl : r_21 = 0 := h_22
      refine lv_istore (lv' := [(4, .int 0), (3, .int r_13), (2, .int r_11), (1, .int r_2), (0, .ref a0_)]) hx hb dX0_readOld_75 hl (by decide) rfl (fun ls hl => ?_)
      refine lv_iload_n hx hb dX0_readOld_77 rfl (lv_at hl 1 rfl) ?_
      refine lv_bipush (v := 16) hx hb dX0_readOld_78 (by decide) ?_
      have kb_16 : bd 16 16 (16 : Int32) := ⟨by decide, by decide⟩
      refine lv_icmp_ge (tgt := 105) hx hb dX0_readOld_80 (by decide) (fun c_28 => ?_) (fun c_28 => ?_)
      · have fc_28 := le_f c_28
        have b_29 : bd 16 26 r_13 := leR fc_28 kb_16 b_20 (by decide)
        refine lv_aload_n hx hb dX0_readOld_105 rfl (lv_at hl 4 rfl) ?_
        refine g_getk (C := RX0) (T := TX0) (N := 14) hx hb hts (mc_ inX0) hown hK g rfl 0 (by decide) rfl (hts _ (List.mem_cons_of_mem _ t_373)) (fun _ h9 => h9) 1 rfl dX0_readOld_106 ?_
        refine lv_iconst (v := 5) hx hb dX0_readOld_109 (by decide) ?_
        refine lv_iload_n hx hb dX0_readOld_110 rfl (lv_at hl 2 rfl) ?_
        have kb_5 : bd 5 5 (5 : Int32) := ⟨by decide, by decide⟩
        refine g_callv (va_runV (As := [.int 5, .int r_11]) (rest := []) ⟨hx, hb, hml, hown, hts⟩ (r_X8_fail_2 l dC dI L kd tys fr_21 H.size g.2.2.2.1 a_1 ma_1 ka_1 5 kb_5 r_11 x_16 h_17 (g.fcts [0] rfl)) (cwV 2 hts (gV_ t_1215 t_1107 t_1108 t_184 t_1109) rfl rfl rfl (by decide +kernel) ⟨(Nat.le_of_ble_eq_true rfl), (Nat.le_of_ble_eq_true rfl)⟩) (pre3V g hK ma_1 ka_1 (by decide) (q := (RX8, TX8, 10)) rfl) rfl rfl hl.1 rfl (lv_room (Nat.le_of_ble_eq_true rfl)) dX0_readOld_111 ⟨(Nat.le_of_ble_eq_true rfl), (Nat.le_of_ble_eq_true rfl)⟩) g hK (by decide) (by decide) (fx' := [(0, 0, a0_, .ref a_1), (0, 1, a0_, .ref q0_), (0, 2, a0_, .ref q1_), (5, 1, q0_, .ref q2_)]) rfl (fun fr_30 H locs hp hMr_30 g => ?_)
        obtain ⟨x_31, h_32, hF_33⟩ := hp
        have g := g.more hF_33
        subst hQ
        exact W.vret hx hb hr (fun t ht hW => ⟨⟨_, rfl, trivial, q3_of g hK ht hW⟩, g.2.2.1.F ht⟩) g.2.2.1.2.2 dX0_readOld_114
      · have fc_28 := nle_f c_28
        have b_34 : bd 0 15 r_13 := ltL fc_28 b_20 kb_16 (by decide)
        refine lv_iload hx hb dX0_readOld_83 (lv_at hl 0 rfl) ?_
        refine lv_aload_n hx hb dX0_readOld_85 rfl (lv_at hl 4 rfl) ?_
        refine g_getk (C := RX0) (T := TX0) (N := 14) hx hb hts (mc_ inX0) hown hK g rfl 0 (by decide) rfl (hts _ (List.mem_cons_of_mem _ t_373)) (fun _ h9 => h9) 1 rfl dX0_readOld_86 ?_
        refine g_calli (va_runV (As := []) (rest := [.int 0]) ⟨hx, hb, hml, hown, hts⟩ (r_X8_kind l dC dI L kd tys fr_21 H.size g.2.2.2.1 a_1 ma_1 ka_1) (cwV 0 hts (gV_ t_1186 t_1119 t_1120 t_184 t_1121) rfl rfl rfl (by decide +kernel) ⟨(Nat.le_of_ble_eq_true rfl), (Nat.le_of_ble_eq_true rfl)⟩) (pre3V g hK ma_1 ka_1 (by decide) (q := (RX8, TX8, 10)) rfl) rfl rfl hl.1 rfl (lv_room (Nat.le_of_ble_eq_true rfl)) dX0_readOld_89 ⟨(Nat.le_of_ble_eq_true rfl), (Nat.le_of_ble_eq_true rfl)⟩) g hK (by decide) (by decide) (fx' := [(8, 6, a_1, .int x_16), (0, 0, a0_, .ref a_1), (0, 1, a0_, .ref q0_), (0, 2, a0_, .ref q1_), (5, 1, q0_, .ref q2_)]) rfl (fun r_35 fr_35 H locs hp hMr_35 g => ?_)
        refine lv_bipush (v := 91) hx hb dX0_readOld_92 (by decide) ?_
        have kb_91 : bd 91 91 (91 : Int32) := ⟨by decide, by decide⟩
        refine lv_icmp_ne (tgt := 101) hx hb dX0_readOld_94 (by decide) (fun c_36 => ?_) (fun c_36 => ?_)
        · have fc_36 := neq_f c_36
          refine lv_iconst (v := 0) hx hb dX0_readOld_101 (by decide) ?_
          refine lv_icmp_eq (tgt := 115) hx hb dX0_readOld_102 (by decide) (fun c_ => ?_) (fun c_ => absurd (by decide) c_)
          refine lv_aload_n hx hb dX0_readOld_115 rfl (lv_at hl 4 rfl) ?_
          refine g_getk (C := RX0) (T := TX0) (N := 14) hx hb hts (mc_ inX0) hown hK g rfl 2 (by decide) rfl (hts _ (List.mem_cons_of_mem _ t_375)) (fun _ h9 => h9) 3 rfl dX0_readOld_116 ?_
          refine lv_dup hx hb dX0_readOld_119 rfl ?_
          refine g_geti (C := RX7) (T := TX7) (N := 19) hx hb hts (mc_ inX7) hown hK g mq1_ kq1_ (by decide) rfl 18 (by decide) rfl (hts _ (List.mem_cons_of_mem _ t_681)) (fun _ h9 => h9) rfl dX0_readOld_120 (fun x_37 bx_37 g => ?_)
          refine lv_iconst (v := 2) hx hb dX0_readOld_123 (by decide) ?_
          have kb_2 : bd 2 2 (2 : Int32) := ⟨by decide, by decide⟩
          refine lv_iadd hx hb dX0_readOld_124 ?_
          refine lv_topi (fun y_38 ey_38 => ?_)
          refine g_put (C := RX7) (T := TX7) (N := 19) hx hb hts (mc_ inX7) tyX7 tyX7_ok nmX7 hown hK g mq1_ kq1_ (by decide) rfl 18 (by decide) (hts _ (List.mem_cons_of_mem _ t_681)) (fun _ h9 => h9) rfl rfl (okV_i (bdT y_38)) rfl rfl (by decide) (Or.inr (Or.inl (by decide))) (fx' := [(8, 6, a_1, .int x_16), (0, 0, a0_, .ref a_1), (0, 1, a0_, .ref q0_), (0, 2, a0_, .ref q1_), (5, 1, q0_, .ref q2_)]) rfl dX0_readOld_125 (fun f H locs hM_39 g => ?_)
          refine lv_iload hx hb dX0_readOld_128 (lv_at hl 0 rfl) ?_
          refine lv_if_eq (tgt := 167) hx hb dX0_readOld_130 (by decide) (fun c_ => ?_) (fun c_ => absurd (by decide) c_)
          refine lv_aload_n hx hb dX0_readOld_167 rfl (lv_at hl 4 rfl) ?_
          refine g_getk (C := RX0) (T := TX0) (N := 14) hx hb hts (mc_ inX0) hown hK g rfl 0 (by decide) rfl (hts _ (List.mem_cons_of_mem _ t_373)) (fun _ h9 => h9) 2 rfl dX0_readOld_168 ?_
          refine lv_bipush (v := 41) hx hb dX0_readOld_171 (by decide) ?_
          refine g_callv (va_runV (As := [.int 41]) (rest := []) ⟨hx, hb, hml, hown, hts⟩ (r_X8_take l dC dI L kd tys f H.size g.2.2.2.1 a_1 ma_1 ka_1 41) (cwV 1 hts (gV_ t_1284 t_1099 t_1100 t_184 t_1101) rfl rfl rfl (by decide +kernel) ⟨(Nat.le_of_ble_eq_true rfl), (Nat.le_of_ble_eq_true rfl)⟩) (pre3V g hK ma_1 ka_1 (by decide) (q := (RX8, TX8, 10)) rfl) rfl rfl hl.1 rfl (lv_room (Nat.le_of_ble_eq_true rfl)) dX0_readOld_173 ⟨(Nat.le_of_ble_eq_true rfl), (Nat.le_of_ble_eq_true rfl)⟩) g hK (by decide) (by decide) (fx' := [(7, 18, q1_, .int y_38), (0, 0, a0_, .ref a_1), (0, 1, a0_, .ref q0_), (0, 2, a0_, .ref q1_), (5, 1, q0_, .ref q2_)]) rfl (fun fr_40 H locs hp hMr_40 g => ?_)
          obtain ⟨x_41, h_42, hF_43⟩ := hp
          have g := g.more hF_43
          refine lv_aload_n hx hb dX0_readOld_176 rfl (lv_at hl 4 rfl) ?_
          refine g_getk (C := RX0) (T := TX0) (N := 14) hx hb hts (mc_ inX0) hown hK g rfl 2 (by decide) rfl (hts _ (List.mem_cons_of_mem _ t_375)) (fun _ h9 => h9) 4 rfl dX0_readOld_177 ?_
          refine lv_iconst (v := 4) hx hb dX0_readOld_180 (by decide) ?_
          refine lv_aload_n hx hb dX0_readOld_181 rfl (lv_at hl 4 rfl) ?_
          refine g_getk (C := RX0) (T := TX0) (N := 14) hx hb hts (mc_ inX0) hown hK g rfl 1 (by decide) rfl (hts _ (List.mem_cons_of_mem _ t_374)) (fun _ h9 => h9) 3 rfl dX0_readOld_182 ?_
          refine g_getk (C := RX5) (T := TX5) (N := 9) hx hb hts (mc_ inX5) hown hK g rfl 1 (by decide) rfl (hts _ (List.mem_cons_of_mem _ t_332)) (fun _ h9 => h9) 5 rfl dX0_readOld_185 ?_
          refine lv_iload_n hx hb dX0_readOld_188 rfl (lv_at hl 1 rfl) ?_
          refine g_calli (va_runV (As := [.int r_13]) (rest := [.int 4, .ref q1_]) ⟨hx, hb, hml, hown, hts⟩ (r_X9_spanOf l dC dI L kd tys fr_40 H.size g.2.2.2.1 q2_ mq2_ kq2_ r_13) (cwV 1 hts (gV_ t_1264 t_1265 t_1266 t_192 t_1267) rfl rfl rfl (by decide +kernel) ⟨(Nat.le_of_ble_eq_true rfl), (Nat.le_of_ble_eq_true rfl)⟩) (pre3V g hK mq2_ kq2_ (by decide) (q := (RX9, TX9, 13)) rfl) rfl rfl hl.1 rfl (lv_room (Nat.le_of_ble_eq_true rfl)) dX0_readOld_189 ⟨(Nat.le_of_ble_eq_true rfl), (Nat.le_of_ble_eq_true rfl)⟩) g hK (by decide) (by decide) (fx' := [(8, 6, a_1, .int x_41), (7, 18, q1_, .int y_38), (0, 0, a0_, .ref a_1), (0, 1, a0_, .ref q0_), (0, 2, a0_, .ref q1_), (5, 1, q0_, .ref q2_)]) rfl (fun r_44 fr_44 H locs hp hMr_44 g => ?_)
          obtain ⟨h_45, -⟩ := hp
          refine g_callv (va_runV (As := [.int 4, .int r_44]) (rest := []) ⟨hx, hb, hml, hown, hts⟩ (r_X7_emit l dC dI L kd tys fr_44 H.size g.2.2.2.1 q1_ mq1_ kq1_ 4 r_44) (cwV 2 hts (gV_ t_1203 t_1204 t_1205 t_191 t_1206) rfl rfl rfl (by decide +kernel) ⟨(Nat.le_of_ble_eq_true rfl), (Nat.le_of_ble_eq_true rfl)⟩) (pre3V g hK mq1_ kq1_ (by decide) (q := (RX7, TX7, 19)) rfl) rfl rfl hl.1 rfl (lv_room (Nat.le_of_ble_eq_true rfl)) dX0_readOld_192 ⟨(Nat.le_of_ble_eq_true rfl), (Nat.le_of_ble_eq_true rfl)⟩) g hK (by decide) (by decide) (fx' := [(8, 6, a_1, .int x_41), (7, 18, q1_, .int y_38), (0, 0, a0_, .ref a_1), (0, 1, a0_, .ref q0_), (0, 2, a0_, .ref q1_), (5, 1, q0_, .ref q2_)]) rfl (fun fr_46 H locs hp hMr_46 g => ?_)
          obtain ⟨x_47, h_48, hF_49⟩ := hp
          have g := g.more hF_49
          refine lv_aload_n hx hb dX0_readOld_195 rfl (lv_at hl 4 rfl) ?_
          refine lv_iconst (v := 2) hx hb dX0_readOld_196 (by decide) ?_
          refine g_callv (va_runV (As := [.int 2]) (rest := []) ⟨hx, hb, hml, hown, hts⟩ (r_X0_addWhole l dC dI L kd tys fr_46 H.size g.2.2.2.1 a0_ ma0_ ka0_ 2) (cwV 1 hts (gV_ t_1211 t_1213 t_17 t_190 t_1214) rfl rfl rfl (by decide +kernel) ⟨(Nat.le_of_ble_eq_true rfl), (Nat.le_of_ble_eq_true rfl)⟩) (pre3V g hK ma0_ ka0_ (by decide) (q := (RX0, TX0, 14)) rfl) rfl rfl hl.1 rfl (lv_room (Nat.le_of_ble_eq_true rfl)) dX0_readOld_197 ⟨(Nat.le_of_ble_eq_true rfl), (Nat.le_of_ble_eq_true rfl)⟩) g hK (by decide) (by decide) (fx' := [(7, 6, q1_, .int x_47), (8, 6, a_1, .int x_41), (7, 18, q1_, .int y_38), (0, 0, a0_, .ref a_1), (0, 1, a0_, .ref q0_), (0, 2, a0_, .ref q1_), (5, 1, q0_, .ref q2_)]) rfl (fun fr_50 H locs hp hMr_50 g => ?_)
          obtain ⟨x_51, h_52, hF_53⟩ := hp
          have g := g.more hF_53
          subst hQ
          exact W.vret hx hb hr (fun t ht hW => ⟨⟨_, rfl, trivial, q3_of g hK ht hW⟩, g.2.2.1.F ht⟩) g.2.2.1.2.2 dX0_readOld_200
        · have fc_36 := eq_f c_36
          have b_54 : bd 91 91 r_35 := eqX fc_36 (bdT r_35) kb_91 (by decide)
          refine lv_iconst (v := 1) hx hb dX0_readOld_97 (by decide) ?_
          refine lv_goto (tgt := 102) hx hb dX0_readOld_98 (by decide) ?_
          refine lv_icmp_eq (tgt := 115) hx hb dX0_readOld_102 (by decide) (fun c_ => absurd c_ (by decide)) (fun c_ => ?_)
          refine lv_aload_n hx hb dX0_readOld_105 rfl (lv_at hl 4 rfl) ?_
          refine g_getk (C := RX0) (T := TX0) (N := 14) hx hb hts (mc_ inX0) hown hK g rfl 0 (by decide) rfl (hts _ (List.mem_cons_of_mem _ t_373)) (fun _ h9 => h9) 1 rfl dX0_readOld_106 ?_
          refine lv_iconst (v := 5) hx hb dX0_readOld_109 (by decide) ?_
          refine lv_iload_n hx hb dX0_readOld_110 rfl (lv_at hl 2 rfl) ?_
          have kb_5 : bd 5 5 (5 : Int32) := ⟨by decide, by decide⟩
          refine g_callv (va_runV (As := [.int 5, .int r_11]) (rest := []) ⟨hx, hb, hml, hown, hts⟩ (r_X8_fail_2 l dC dI L kd tys fr_35 H.size g.2.2.2.1 a_1 ma_1 ka_1 5 kb_5 r_11 x_16 h_17 (g.fcts [0] rfl)) (cwV 2 hts (gV_ t_1215 t_1107 t_1108 t_184 t_1109) rfl rfl rfl (by decide +kernel) ⟨(Nat.le_of_ble_eq_true rfl), (Nat.le_of_ble_eq_true rfl)⟩) (pre3V g hK ma_1 ka_1 (by decide) (q := (RX8, TX8, 10)) rfl) rfl rfl hl.1 rfl (lv_room (Nat.le_of_ble_eq_true rfl)) dX0_readOld_111 ⟨(Nat.le_of_ble_eq_true rfl), (Nat.le_of_ble_eq_true rfl)⟩) g hK (by decide) (by decide) (fx' := [(0, 0, a0_, .ref a_1), (0, 1, a0_, .ref q0_), (0, 2, a0_, .ref q1_), (5, 1, q0_, .ref q2_)]) rfl (fun fr_55 H locs hp hMr_55 g => ?_)
          obtain ⟨x_56, h_57, hF_58⟩ := hp
          have g := g.more hF_58
          subst hQ
          exact W.vret hx hb hr (fun t ht hW => ⟨⟨_, rfl, trivial, q3_of g hK ht hW⟩, g.2.2.1.F ht⟩) g.2.2.1.2.2 dX0_readOld_114
    · obtain rfl : r_21 = 1 := h_23
      have b_59 : bd 0 9 r_13 := eqX rfl b_20 h_24 (by decide)
      have g := g.more hF_27
      refine lv_istore (lv' := [(4, .int 1), (3, .int r_13), (2, .int r_11), (1, .int r_2), (0, .ref a0_)]) hx hb dX0_readOld_75 hl (by decide) rfl (fun ls hl => ?_)
      refine lv_iload_n hx hb dX0_readOld_77 rfl (lv_at hl 1 rfl) ?_
      refine lv_bipush (v := 16) hx hb dX0_readOld_78 (by decide) ?_
      have kb_16 : bd 16 16 (16 : Int32) := ⟨by decide, by decide⟩
      refine lv_icmp_ge (tgt := 105) hx hb dX0_readOld_80 (by decide) (fun c_60 => ?_) (fun c_60 => ?_)
      · have fc_60 := le_f c_60
        have b_61 : bd 16 9 (16 : Int32) := leL fc_60 kb_16 b_59 (by decide)
        exact bd_no (eqX rfl b_61 kb_16 (lo := 16) (hi := 9) (by decide)) (by decide)
      · have fc_60 := nle_f c_60
        refine lv_iload hx hb dX0_readOld_83 (lv_at hl 0 rfl) ?_
        refine lv_aload_n hx hb dX0_readOld_85 rfl (lv_at hl 4 rfl) ?_
        refine g_getk (C := RX0) (T := TX0) (N := 14) hx hb hts (mc_ inX0) hown hK g rfl 0 (by decide) rfl (hts _ (List.mem_cons_of_mem _ t_373)) (fun _ h9 => h9) 2 rfl dX0_readOld_86 ?_
        refine g_calli (va_runV (As := []) (rest := [.int 1]) ⟨hx, hb, hml, hown, hts⟩ (r_X8_kind l dC dI L kd tys fr_21 H.size g.2.2.2.1 a_1 ma_1 ka_1) (cwV 0 hts (gV_ t_1186 t_1119 t_1120 t_184 t_1121) rfl rfl rfl (by decide +kernel) ⟨(Nat.le_of_ble_eq_true rfl), (Nat.le_of_ble_eq_true rfl)⟩) (pre3V g hK ma_1 ka_1 (by decide) (q := (RX8, TX8, 10)) rfl) rfl rfl hl.1 rfl (lv_room (Nat.le_of_ble_eq_true rfl)) dX0_readOld_89 ⟨(Nat.le_of_ble_eq_true rfl), (Nat.le_of_ble_eq_true rfl)⟩) g hK (by decide) (by decide) (fx' := [(9, 2, q2_, .int x_25), (8, 6, a_1, .int x_16), (0, 0, a0_, .ref a_1), (0, 1, a0_, .ref q0_), (0, 2, a0_, .ref q1_), (5, 1, q0_, .ref q2_)]) rfl (fun r_62 fr_62 H locs hp hMr_62 g => ?_)
        refine lv_bipush (v := 91) hx hb dX0_readOld_92 (by decide) ?_
        have kb_91 : bd 91 91 (91 : Int32) := ⟨by decide, by decide⟩
        refine lv_icmp_ne (tgt := 101) hx hb dX0_readOld_94 (by decide) (fun c_63 => ?_) (fun c_63 => ?_)
        · have fc_63 := neq_f c_63
          refine lv_iconst (v := 0) hx hb dX0_readOld_101 (by decide) ?_
          refine lv_icmp_eq (tgt := 115) hx hb dX0_readOld_102 (by decide) (fun c_ => absurd c_ (by decide)) (fun c_ => ?_)
          refine lv_aload_n hx hb dX0_readOld_105 rfl (lv_at hl 4 rfl) ?_
          refine g_getk (C := RX0) (T := TX0) (N := 14) hx hb hts (mc_ inX0) hown hK g rfl 0 (by decide) rfl (hts _ (List.mem_cons_of_mem _ t_373)) (fun _ h9 => h9) 2 rfl dX0_readOld_106 ?_
          refine lv_iconst (v := 5) hx hb dX0_readOld_109 (by decide) ?_
          refine lv_iload_n hx hb dX0_readOld_110 rfl (lv_at hl 2 rfl) ?_
          have kb_5 : bd 5 5 (5 : Int32) := ⟨by decide, by decide⟩
          refine g_callv (va_runV (As := [.int 5, .int r_11]) (rest := []) ⟨hx, hb, hml, hown, hts⟩ (r_X8_fail_2 l dC dI L kd tys fr_62 H.size g.2.2.2.1 a_1 ma_1 ka_1 5 kb_5 r_11 x_16 h_17 (g.fcts [1] rfl)) (cwV 2 hts (gV_ t_1215 t_1107 t_1108 t_184 t_1109) rfl rfl rfl (by decide +kernel) ⟨(Nat.le_of_ble_eq_true rfl), (Nat.le_of_ble_eq_true rfl)⟩) (pre3V g hK ma_1 ka_1 (by decide) (q := (RX8, TX8, 10)) rfl) rfl rfl hl.1 rfl (lv_room (Nat.le_of_ble_eq_true rfl)) dX0_readOld_111 ⟨(Nat.le_of_ble_eq_true rfl), (Nat.le_of_ble_eq_true rfl)⟩) g hK (by decide) (by decide) (fx' := [(9, 2, q2_, .int x_25), (0, 0, a0_, .ref a_1), (0, 1, a0_, .ref q0_), (0, 2, a0_, .ref q1_), (5, 1, q0_, .ref q2_)]) rfl (fun fr_64 H locs hp hMr_64 g => ?_)
          obtain ⟨x_65, h_66, hF_67⟩ := hp
          have g := g.more hF_67
          subst hQ
          exact W.vret hx hb hr (fun t ht hW => ⟨⟨_, rfl, trivial, q3_of g hK ht hW⟩, g.2.2.1.F ht⟩) g.2.2.1.2.2 dX0_readOld_114
        · have fc_63 := eq_f c_63
          have b_68 : bd 91 91 r_62 := eqX fc_63 (bdT r_62) kb_91 (by decide)
          refine lv_iconst (v := 1) hx hb dX0_readOld_97 (by decide) ?_
          refine lv_goto (tgt := 102) hx hb dX0_readOld_98 (by decide) ?_
          refine lv_icmp_eq (tgt := 115) hx hb dX0_readOld_102 (by decide) (fun c_ => ?_) (fun c_ => absurd (by decide) c_)
          refine lv_aload_n hx hb dX0_readOld_115 rfl (lv_at hl 4 rfl) ?_
          refine g_getk (C := RX0) (T := TX0) (N := 14) hx hb hts (mc_ inX0) hown hK g rfl 2 (by decide) rfl (hts _ (List.mem_cons_of_mem _ t_375)) (fun _ h9 => h9) 4 rfl dX0_readOld_116 ?_
          refine lv_dup hx hb dX0_readOld_119 rfl ?_
          refine g_geti (C := RX7) (T := TX7) (N := 19) hx hb hts (mc_ inX7) hown hK g mq1_ kq1_ (by decide) rfl 18 (by decide) rfl (hts _ (List.mem_cons_of_mem _ t_681)) (fun _ h9 => h9) rfl dX0_readOld_120 (fun x_69 bx_69 g => ?_)
          refine lv_iconst (v := 2) hx hb dX0_readOld_123 (by decide) ?_
          have kb_2 : bd 2 2 (2 : Int32) := ⟨by decide, by decide⟩
          refine lv_iadd hx hb dX0_readOld_124 ?_
          refine lv_topi (fun y_70 ey_70 => ?_)
          refine g_put (C := RX7) (T := TX7) (N := 19) hx hb hts (mc_ inX7) tyX7 tyX7_ok nmX7 hown hK g mq1_ kq1_ (by decide) rfl 18 (by decide) (hts _ (List.mem_cons_of_mem _ t_681)) (fun _ h9 => h9) rfl rfl (okV_i (bdT y_70)) rfl rfl (by decide) (Or.inr (Or.inl (by decide))) (fx' := [(9, 2, q2_, .int x_25), (8, 6, a_1, .int x_16), (0, 0, a0_, .ref a_1), (0, 1, a0_, .ref q0_), (0, 2, a0_, .ref q1_), (5, 1, q0_, .ref q2_)]) rfl dX0_readOld_125 (fun f H locs hM_71 g => ?_)
          refine lv_iload hx hb dX0_readOld_128 (lv_at hl 0 rfl) ?_
          refine lv_if_eq (tgt := 167) hx hb dX0_readOld_130 (by decide) (fun c_ => absurd c_ (by decide)) (fun c_ => ?_)
          refine lv_aload_n hx hb dX0_readOld_133 rfl (lv_at hl 4 rfl) ?_
          refine lv_dup hx hb dX0_readOld_134 rfl ?_
          refine g_geti (C := RX0) (T := TX0) (N := 14) hx hb hts (mc_ inX0) hown hK g ma0_ ka0_ (by decide) rfl 11 (by decide) rfl (hts _ (List.mem_cons_of_mem _ t_384)) (fun _ h9 => h9) rfl dX0_readOld_135 (fun x_72 bx_72 g => ?_)
          refine lv_iconst (v := 1) hx hb dX0_readOld_138 (by decide) ?_
          have kb_1 : bd 1 1 (1 : Int32) := ⟨by decide, by decide⟩
          refine lv_iadd hx hb dX0_readOld_139 ?_
          refine lv_topi (fun y_73 ey_73 => ?_)
          refine g_put (C := RX0) (T := TX0) (N := 14) hx hb hts (mc_ inX0) tyX0 tyX0_ok nmX0 hown hK g ma0_ ka0_ (by decide) rfl 11 (by decide) (hts _ (List.mem_cons_of_mem _ t_384)) (fun _ h9 => h9) rfl rfl (okV_i (bdT y_73)) rfl rfl (by decide) (Or.inr (Or.inl (by decide))) (fx' := [(7, 18, q1_, .int y_70), (9, 2, q2_, .int x_25), (8, 6, a_1, .int x_16), (0, 0, a0_, .ref a_1), (0, 1, a0_, .ref q0_), (0, 2, a0_, .ref q1_), (5, 1, q0_, .ref q2_)]) rfl dX0_readOld_140 (fun f H locs hM_74 g => ?_)
          refine lv_aload_n hx hb dX0_readOld_143 rfl (lv_at hl 4 rfl) ?_
          refine lv_iconst (v := 5) hx hb dX0_readOld_144 (by decide) ?_
          refine lv_iload_n hx hb dX0_readOld_145 rfl (lv_at hl 2 rfl) ?_
          refine lv_iload_n hx hb dX0_readOld_146 rfl (lv_at hl 1 rfl) ?_
          refine g_callv (va_runV (As := [.int 5, .int r_11, .int r_13]) (rest := []) ⟨hx, hb, hml, hown, hts⟩ (r_X0_openIndex l dC dI L kd tys f H.size g.2.2.2.1 a0_ ma0_ ka0_ 5 r_11 r_13 q0_ mq0_ kq0_ q2_ mq2_ kq2_ (g.fcts [5, 7] rfl)) (cwV 3 hts (gV_ t_1260 t_1262 t_24 t_190 t_1263) rfl rfl rfl (by decide +kernel) ⟨(Nat.le_of_ble_eq_true rfl), (Nat.le_of_ble_eq_true rfl)⟩) (pre3V g hK ma0_ ka0_ (by decide) (q := (RX0, TX0, 14)) rfl) rfl rfl hl.1 rfl (lv_room (Nat.le_of_ble_eq_true rfl)) dX0_readOld_147 ⟨(Nat.le_of_ble_eq_true rfl), (Nat.le_of_ble_eq_true rfl)⟩) g hK (by decide) (by decide) (fx' := [(7, 18, q1_, .int y_70), (9, 2, q2_, .int x_25), (0, 0, a0_, .ref a_1), (0, 1, a0_, .ref q0_), (0, 2, a0_, .ref q1_), (5, 1, q0_, .ref q2_)]) rfl (fun fr_75 H locs hp hMr_75 g => ?_)
          obtain ⟨x_76, h_77, hF_78⟩ := hp
          have g := g.more hF_78
          refine lv_aload_n hx hb dX0_readOld_150 rfl (lv_at hl 4 rfl) ?_
          refine g_getr (K := 114) (C := RX0) (T := TX0) (N := 14) hx hb hts (mc_ inX0) hown hK g ma0_ ka0_ (by decide) rfl 7 (by decide) rfl (hts _ (List.mem_cons_of_mem _ t_380)) (fun _ h9 => h9) rfl dX0_readOld_151 (fun a_79 ma_79 ka_79 g => ?_)
          refine lv_aload_n hx hb dX0_readOld_154 rfl (lv_at hl 4 rfl) ?_
          refine g_getk (C := RX0) (T := TX0) (N := 14) hx hb hts (mc_ inX0) hown hK g rfl 8 (by decide) rfl (hts _ (List.mem_cons_of_mem _ t_381)) (fun _ h9 => h9) 1 rfl dX0_readOld_155 ?_
          refine lv_iconst (v := 1) hx hb dX0_readOld_158 (by decide) ?_
          refine lv_isub hx hb dX0_readOld_159 ?_
          refine lv_topi (fun y_80 ey_80 => ?_)
          have ty_80 := sub_bd ey_80 h_77 kb_1 (by decide)
          have b_81 : bd 0 299 y_80 := sub_rg ty_80 h_77 kb_1 (by decide)
          refine lv_iconst (v := 0) hx hb dX0_readOld_160 (by decide) ?_
          have kb_0 : bd 0 0 (0 : Int32) := ⟨by decide, by decide⟩
          refine va_mmax hx hb (hml.trans hl.1.symm) hown (hts _ (List.mem_cons_of_mem _ t_1194)) (hts _ (List.mem_cons_of_mem _ t_1041)) (hts _ (List.mem_cons_of_mem _ t_204)) (hts _ (List.mem_cons_of_mem _ t_1042)) (Nat.le_of_ble_eq_true rfl) (Nat.le_of_ble_eq_true rfl) (Nat.le_of_ble_eq_true rfl) (Nat.le_of_ble_eq_true rfl) dX0_readOld_161 ?_
          refine lv_topi (fun y_82 ey_82 => ?_)
          have ty_82 : y_82.toInt = max y_80.toInt (0 : Int32).toInt := by rw [ey_82]; exact mmax_ok _ _
          have b_83 : bd 0 299 y_82 := max_rg ty_82 b_81 kb_0 (by decide)
          refine lv_iload_n hx hb dX0_readOld_164 rfl (lv_at hl 3 rfl) ?_
          refine g_iast hx hb hK g ma_79 ka_79 (by decide) rfl (in_bd b_83 (by decide)) (bdT r_2) (by decide) dX0_readOld_165 (fun f H locs hM_84 g => ?_)
          subst hQ
          exact W.vret hx hb hr (fun t ht hW => ⟨⟨_, rfl, trivial, q3_of g hK ht hW⟩, g.2.2.1.F ht⟩) g.2.2.1.2.2 dX0_readOld_166
  · have fc_19 := eq_f c_19
    have b_85 : bd (-1) (-1) r_13 := eqX fc_19 h_14 kb_m1 (by decide)
    refine lv_aload_n hx hb dX0_readOld_54 rfl (lv_at hl 3 rfl) ?_
    refine g_getk (C := RX0) (T := TX0) (N := 14) hx hb hts (mc_ inX0) hown hK g rfl 0 (by decide) rfl (hts _ (List.mem_cons_of_mem _ t_373)) (fun _ h9 => h9) 1 rfl dX0_readOld_55 ?_
    refine lv_iconst (v := 2) hx hb dX0_readOld_58 (by decide) ?_
    refine lv_iload_n hx hb dX0_readOld_59 rfl (lv_at hl 1 rfl) ?_
    have kb_2 : bd 2 2 (2 : Int32) := ⟨by decide, by decide⟩
    refine g_callv (va_runV (As := [.int 2, .int r_11]) (rest := []) ⟨hx, hb, hml, hown, hts⟩ (r_X8_fail_3 l dC dI L kd tys fr_15 H.size g.2.2.2.1 a_1 ma_1 ka_1 2 kb_2 r_11 x_16 h_17 (g.fcts [0] rfl)) (cwV 2 hts (gV_ t_1215 t_1107 t_1108 t_184 t_1109) rfl rfl rfl (by decide +kernel) ⟨(Nat.le_of_ble_eq_true rfl), (Nat.le_of_ble_eq_true rfl)⟩) (pre3V g hK ma_1 ka_1 (by decide) (q := (RX8, TX8, 10)) rfl) rfl rfl hl.1 rfl (lv_room (Nat.le_of_ble_eq_true rfl)) dX0_readOld_60 ⟨(Nat.le_of_ble_eq_true rfl), (Nat.le_of_ble_eq_true rfl)⟩) g hK (by decide) (by decide) (fx' := [(0, 0, a0_, .ref a_1), (0, 1, a0_, .ref q0_), (0, 2, a0_, .ref q1_), (5, 1, q0_, .ref q2_)]) rfl (fun fr_86 H locs hp hMr_86 g => ?_)
    obtain ⟨x_87, h_88, hF_89⟩ := hp
    have g := g.more hF_89
    subst hQ
    exact W.vret hx hb hr (fun t ht hW => ⟨⟨_, rfl, trivial, q3_of g hK ht hW⟩, g.2.2.1.F ht⟩) g.2.2.1.2.2 dX0_readOld_63
set_option maxHeartbeats 4000000 in
set_option maxRecDepth 100000 in
theorem r_X0_levelOf (l : Launch) (dC : Nat → ClassId) (dI : Nat → Nat → Nat) (L : List Nat) (kd : Nat → Nat) (tys : List (ClassId × FieldType)) (f0 : Nat → va_E) (sz : Nat) (hWT : WT L kd tys f0) (x0_ : Int32) : Met l yX0_levelOf (.code yX0_levelOf cX0_levelOf 1 (some .int) :: lw_g) ({ frames := 0, cells := 0, slots := 0, locals := 0 }) (va_Pc [.int x0_] (P3 (dC, dI) L tys f0 sz)) (va_Qi (fun (r : Int32) (f : Nat → va_E) => (bd 0 5 r ∧ True)) (Q3 (dC, dI) L kd tys [] [] f0 sz) (pA L sz)) 0 0 (pA L sz) := by
  refine Met.ofW (cc := cX0_levelOf) (maxL := 1) (ret := (some .int)) (by decide) rfl ?_
  intro p e s m args below meth c s₁ B hml hv
  obtain ⟨rfl, hsz, hP, hK, hD0⟩ := hv
  have hx := B.exec
  have hb := B.bytes
  have hr := B.returns
  have hts := atoms_spec (ws := (.code yX0_levelOf cX0_levelOf 1 (some .int) :: lw_g)) B.pre
  have hown : s.vm.findClass RX0 = some m.cls := findClass_of_methodNamed B.named
  have hlocks := B.notSynchronized
  subst hsz
  have g : G3 (dC, dI) L kd tys s f0 [] [] f0 s.heap [] [] := G3.start hP hD0 hWT Fs.nil
  have hl := lv_entry ([.int x0_]) (n := 1) (Nat.le_of_ble_eq_true rfl)
  rw [lg_entry_eq]
  generalize (lg_sl ([.int x0_]) ++ List.replicate (1 - (lg_sl ([.int x0_])).length) Slot.unset).toArray = ls at hl ⊢
  have hl : lv_has ls 1 [(0, .int x0_)] := hl
  refine W_q (fun Q hQ => ?_)
  refine lv_iload_n hx hb dX0_levelOf_0 rfl (lv_at hl 0 rfl) ?_
  by_cases e_1 : x0_ = 37
  · refine lv_topi (fun z_2 ez_2 => ?_)
    obtain rfl : z_2 = 37 := ez_2.trans e_1
    have kb_37 : bd 37 37 (37 : Int32) := ⟨by decide, by decide⟩
    have b_3 : bd 37 37 x0_ := eqX (eq_f e_1) (bdT x0_) kb_37 (by decide)
    refine lv_lookup (off := 125) (tgt := 126) hx hb dX0_levelOf_1 (by decide) (by decide) (by decide) ?_
    refine lv_iconst (v := 5) hx hb dX0_levelOf_126 (by decide) ?_
    have kb_5 : bd 5 5 (5 : Int32) := ⟨by decide, by decide⟩
    subst hQ
    exact W.iret (v := 5) hx hb hr (fun t ht hW => ⟨⟨_, _, rfl, ⟨(bd_sub kb_5 (by decide)), trivial⟩, q3_of g hK ht hW⟩, g.2.2.1.F ht⟩) g.2.2.1.2.2 dX0_levelOf_127
  by_cases e_4 : x0_ = 42
  · refine lv_topi (fun z_5 ez_5 => ?_)
    obtain rfl : z_5 = 42 := ez_5.trans e_4
    have kb_42 : bd 42 42 (42 : Int32) := ⟨by decide, by decide⟩
    have b_6 : bd 42 42 x0_ := eqX (eq_f e_4) (bdT x0_) kb_42 (by decide)
    refine lv_lookup (off := 125) (tgt := 126) hx hb dX0_levelOf_1 (by decide) (by decide) (by decide) ?_
    refine lv_iconst (v := 5) hx hb dX0_levelOf_126 (by decide) ?_
    have kb_5 : bd 5 5 (5 : Int32) := ⟨by decide, by decide⟩
    subst hQ
    exact W.iret (v := 5) hx hb hr (fun t ht hW => ⟨⟨_, _, rfl, ⟨(bd_sub kb_5 (by decide)), trivial⟩, q3_of g hK ht hW⟩, g.2.2.1.F ht⟩) g.2.2.1.2.2 dX0_levelOf_127
  by_cases e_7 : x0_ = 43
  · refine lv_topi (fun z_8 ez_8 => ?_)
    obtain rfl : z_8 = 43 := ez_8.trans e_7
    have kb_43 : bd 43 43 (43 : Int32) := ⟨by decide, by decide⟩
    have b_9 : bd 43 43 x0_ := eqX (eq_f e_7) (bdT x0_) kb_43 (by decide)
    refine lv_lookup (off := 123) (tgt := 124) hx hb dX0_levelOf_1 (by decide) (by decide) (by decide) ?_
    refine lv_iconst (v := 4) hx hb dX0_levelOf_124 (by decide) ?_
    have kb_4 : bd 4 4 (4 : Int32) := ⟨by decide, by decide⟩
    subst hQ
    exact W.iret (v := 4) hx hb hr (fun t ht hW => ⟨⟨_, _, rfl, ⟨(bd_sub kb_4 (by decide)), trivial⟩, q3_of g hK ht hW⟩, g.2.2.1.F ht⟩) g.2.2.1.2.2 dX0_levelOf_125
  by_cases e_10 : x0_ = 45
  · refine lv_topi (fun z_11 ez_11 => ?_)
    obtain rfl : z_11 = 45 := ez_11.trans e_10
    have kb_45 : bd 45 45 (45 : Int32) := ⟨by decide, by decide⟩
    have b_12 : bd 45 45 x0_ := eqX (eq_f e_10) (bdT x0_) kb_45 (by decide)
    refine lv_lookup (off := 123) (tgt := 124) hx hb dX0_levelOf_1 (by decide) (by decide) (by decide) ?_
    refine lv_iconst (v := 4) hx hb dX0_levelOf_124 (by decide) ?_
    have kb_4 : bd 4 4 (4 : Int32) := ⟨by decide, by decide⟩
    subst hQ
    exact W.iret (v := 4) hx hb hr (fun t ht hW => ⟨⟨_, _, rfl, ⟨(bd_sub kb_4 (by decide)), trivial⟩, q3_of g hK ht hW⟩, g.2.2.1.F ht⟩) g.2.2.1.2.2 dX0_levelOf_125
  by_cases e_13 : x0_ = 47
  · refine lv_topi (fun z_14 ez_14 => ?_)
    obtain rfl : z_14 = 47 := ez_14.trans e_13
    have kb_47 : bd 47 47 (47 : Int32) := ⟨by decide, by decide⟩
    have b_15 : bd 47 47 x0_ := eqX (eq_f e_13) (bdT x0_) kb_47 (by decide)
    refine lv_lookup (off := 125) (tgt := 126) hx hb dX0_levelOf_1 (by decide) (by decide) (by decide) ?_
    refine lv_iconst (v := 5) hx hb dX0_levelOf_126 (by decide) ?_
    have kb_5 : bd 5 5 (5 : Int32) := ⟨by decide, by decide⟩
    subst hQ
    exact W.iret (v := 5) hx hb hr (fun t ht hW => ⟨⟨_, _, rfl, ⟨(bd_sub kb_5 (by decide)), trivial⟩, q3_of g hK ht hW⟩, g.2.2.1.F ht⟩) g.2.2.1.2.2 dX0_levelOf_127
  by_cases e_16 : x0_ = 60
  · refine lv_topi (fun z_17 ez_17 => ?_)
    obtain rfl : z_17 = 60 := ez_17.trans e_16
    have kb_60 : bd 60 60 (60 : Int32) := ⟨by decide, by decide⟩
    have b_18 : bd 60 60 x0_ := eqX (eq_f e_16) (bdT x0_) kb_60 (by decide)
    refine lv_lookup (off := 121) (tgt := 122) hx hb dX0_levelOf_1 (by decide) (by decide) (by decide) ?_
    refine lv_iconst (v := 3) hx hb dX0_levelOf_122 (by decide) ?_
    have kb_3 : bd 3 3 (3 : Int32) := ⟨by decide, by decide⟩
    subst hQ
    exact W.iret (v := 3) hx hb hr (fun t ht hW => ⟨⟨_, _, rfl, ⟨(bd_sub kb_3 (by decide)), trivial⟩, q3_of g hK ht hW⟩, g.2.2.1.F ht⟩) g.2.2.1.2.2 dX0_levelOf_123
  by_cases e_19 : x0_ = 62
  · refine lv_topi (fun z_20 ez_20 => ?_)
    obtain rfl : z_20 = 62 := ez_20.trans e_19
    have kb_62 : bd 62 62 (62 : Int32) := ⟨by decide, by decide⟩
    have b_21 : bd 62 62 x0_ := eqX (eq_f e_19) (bdT x0_) kb_62 (by decide)
    refine lv_lookup (off := 121) (tgt := 122) hx hb dX0_levelOf_1 (by decide) (by decide) (by decide) ?_
    refine lv_iconst (v := 3) hx hb dX0_levelOf_122 (by decide) ?_
    have kb_3 : bd 3 3 (3 : Int32) := ⟨by decide, by decide⟩
    subst hQ
    exact W.iret (v := 3) hx hb hr (fun t ht hW => ⟨⟨_, _, rfl, ⟨(bd_sub kb_3 (by decide)), trivial⟩, q3_of g hK ht hW⟩, g.2.2.1.F ht⟩) g.2.2.1.2.2 dX0_levelOf_123
  by_cases e_22 : x0_ = 201
  · refine lv_topi (fun z_23 ez_23 => ?_)
    obtain rfl : z_23 = 201 := ez_23.trans e_22
    have kb_201 : bd 201 201 (201 : Int32) := ⟨by decide, by decide⟩
    have b_24 : bd 201 201 x0_ := eqX (eq_f e_22) (bdT x0_) kb_201 (by decide)
    refine lv_lookup (off := 119) (tgt := 120) hx hb dX0_levelOf_1 (by decide) (by decide) (by decide) ?_
    refine lv_iconst (v := 3) hx hb dX0_levelOf_120 (by decide) ?_
    have kb_3 : bd 3 3 (3 : Int32) := ⟨by decide, by decide⟩
    subst hQ
    exact W.iret (v := 3) hx hb hr (fun t ht hW => ⟨⟨_, _, rfl, ⟨(bd_sub kb_3 (by decide)), trivial⟩, q3_of g hK ht hW⟩, g.2.2.1.F ht⟩) g.2.2.1.2.2 dX0_levelOf_121
  by_cases e_25 : x0_ = 202
  · refine lv_topi (fun z_26 ez_26 => ?_)
    obtain rfl : z_26 = 202 := ez_26.trans e_25
    have kb_202 : bd 202 202 (202 : Int32) := ⟨by decide, by decide⟩
    have b_27 : bd 202 202 x0_ := eqX (eq_f e_25) (bdT x0_) kb_202 (by decide)
    refine lv_lookup (off := 119) (tgt := 120) hx hb dX0_levelOf_1 (by decide) (by decide) (by decide) ?_
    refine lv_iconst (v := 3) hx hb dX0_levelOf_120 (by decide) ?_
    have kb_3 : bd 3 3 (3 : Int32) := ⟨by decide, by decide⟩
    subst hQ
    exact W.iret (v := 3) hx hb hr (fun t ht hW => ⟨⟨_, _, rfl, ⟨(bd_sub kb_3 (by decide)), trivial⟩, q3_of g hK ht hW⟩, g.2.2.1.F ht⟩) g.2.2.1.2.2 dX0_levelOf_121
  by_cases e_28 : x0_ = 203
  · refine lv_topi (fun z_29 ez_29 => ?_)
    obtain rfl : z_29 = 203 := ez_29.trans e_28
    have kb_203 : bd 203 203 (203 : Int32) := ⟨by decide, by decide⟩
    have b_30 : bd 203 203 x0_ := eqX (eq_f e_28) (bdT x0_) kb_203 (by decide)
    refine lv_lookup (off := 121) (tgt := 122) hx hb dX0_levelOf_1 (by decide) (by decide) (by decide) ?_
    refine lv_iconst (v := 3) hx hb dX0_levelOf_122 (by decide) ?_
    have kb_3 : bd 3 3 (3 : Int32) := ⟨by decide, by decide⟩
    subst hQ
    exact W.iret (v := 3) hx hb hr (fun t ht hW => ⟨⟨_, _, rfl, ⟨(bd_sub kb_3 (by decide)), trivial⟩, q3_of g hK ht hW⟩, g.2.2.1.F ht⟩) g.2.2.1.2.2 dX0_levelOf_123
  by_cases e_31 : x0_ = 204
  · refine lv_topi (fun z_32 ez_32 => ?_)
    obtain rfl : z_32 = 204 := ez_32.trans e_31
    have kb_204 : bd 204 204 (204 : Int32) := ⟨by decide, by decide⟩
    have b_33 : bd 204 204 x0_ := eqX (eq_f e_31) (bdT x0_) kb_204 (by decide)
    refine lv_lookup (off := 121) (tgt := 122) hx hb dX0_levelOf_1 (by decide) (by decide) (by decide) ?_
    refine lv_iconst (v := 3) hx hb dX0_levelOf_122 (by decide) ?_
    have kb_3 : bd 3 3 (3 : Int32) := ⟨by decide, by decide⟩
    subst hQ
    exact W.iret (v := 3) hx hb hr (fun t ht hW => ⟨⟨_, _, rfl, ⟨(bd_sub kb_3 (by decide)), trivial⟩, q3_of g hK ht hW⟩, g.2.2.1.F ht⟩) g.2.2.1.2.2 dX0_levelOf_123
  by_cases e_34 : x0_ = 205
  · refine lv_topi (fun z_35 ez_35 => ?_)
    obtain rfl : z_35 = 205 := ez_35.trans e_34
    have kb_205 : bd 205 205 (205 : Int32) := ⟨by decide, by decide⟩
    have b_36 : bd 205 205 x0_ := eqX (eq_f e_34) (bdT x0_) kb_205 (by decide)
    refine lv_lookup (off := 117) (tgt := 118) hx hb dX0_levelOf_1 (by decide) (by decide) (by decide) ?_
    refine lv_iconst (v := 2) hx hb dX0_levelOf_118 (by decide) ?_
    have kb_2 : bd 2 2 (2 : Int32) := ⟨by decide, by decide⟩
    subst hQ
    exact W.iret (v := 2) hx hb hr (fun t ht hW => ⟨⟨_, _, rfl, ⟨(bd_sub kb_2 (by decide)), trivial⟩, q3_of g hK ht hW⟩, g.2.2.1.F ht⟩) g.2.2.1.2.2 dX0_levelOf_119
  by_cases e_37 : x0_ = 206
  · refine lv_topi (fun z_38 ez_38 => ?_)
    obtain rfl : z_38 = 206 := ez_38.trans e_37
    have kb_206 : bd 206 206 (206 : Int32) := ⟨by decide, by decide⟩
    have b_39 : bd 206 206 x0_ := eqX (eq_f e_37) (bdT x0_) kb_206 (by decide)
    refine lv_lookup (off := 115) (tgt := 116) hx hb dX0_levelOf_1 (by decide) (by decide) (by decide) ?_
    refine lv_iconst (v := 1) hx hb dX0_levelOf_116 (by decide) ?_
    have kb_1 : bd 1 1 (1 : Int32) := ⟨by decide, by decide⟩
    subst hQ
    exact W.iret (v := 1) hx hb hr (fun t ht hW => ⟨⟨_, _, rfl, ⟨(bd_sub kb_1 (by decide)), trivial⟩, q3_of g hK ht hW⟩, g.2.2.1.F ht⟩) g.2.2.1.2.2 dX0_levelOf_117
  refine lv_lookup (off := 127) (tgt := 128) hx hb dX0_levelOf_1 (by decide) (by have a0 : x0_.toInt ≠ 37 := fun h => e_1 (Int32.toInt_inj.mp (h.trans (by decide))); have a1 : x0_.toInt ≠ 42 := fun h => e_4 (Int32.toInt_inj.mp (h.trans (by decide))); have a2 : x0_.toInt ≠ 43 := fun h => e_7 (Int32.toInt_inj.mp (h.trans (by decide))); have a3 : x0_.toInt ≠ 45 := fun h => e_10 (Int32.toInt_inj.mp (h.trans (by decide))); have a4 : x0_.toInt ≠ 47 := fun h => e_13 (Int32.toInt_inj.mp (h.trans (by decide))); have a5 : x0_.toInt ≠ 60 := fun h => e_16 (Int32.toInt_inj.mp (h.trans (by decide))); have a6 : x0_.toInt ≠ 62 := fun h => e_19 (Int32.toInt_inj.mp (h.trans (by decide))); have a7 : x0_.toInt ≠ 201 := fun h => e_22 (Int32.toInt_inj.mp (h.trans (by decide))); have a8 : x0_.toInt ≠ 202 := fun h => e_25 (Int32.toInt_inj.mp (h.trans (by decide))); have a9 : x0_.toInt ≠ 203 := fun h => e_28 (Int32.toInt_inj.mp (h.trans (by decide))); have a10 : x0_.toInt ≠ 204 := fun h => e_31 (Int32.toInt_inj.mp (h.trans (by decide))); have a11 : x0_.toInt ≠ 205 := fun h => e_34 (Int32.toInt_inj.mp (h.trans (by decide))); have a12 : x0_.toInt ≠ 206 := fun h => e_37 (Int32.toInt_inj.mp (h.trans (by decide))); simp [Op.lookupswitch.offset, a0, a1, a2, a3, a4, a5, a6, a7, a8, a9, a10, a11, a12, Ne.symm]) (by decide) ?_
  refine lv_iconst (v := 0) hx hb dX0_levelOf_128 (by decide) ?_
  have kb_0 : bd 0 0 (0 : Int32) := ⟨by decide, by decide⟩
  subst hQ
  exact W.iret (v := 0) hx hb hr (fun t ht hW => ⟨⟨_, _, rfl, ⟨(bd_sub kb_0 (by decide)), trivial⟩, q3_of g hK ht hW⟩, g.2.2.1.F ht⟩) g.2.2.1.2.2 dX0_levelOf_129
set_option maxHeartbeats 4000000 in
set_option maxRecDepth 100000 in
theorem r_X0_openOperator (l : Launch) (dC : Nat → ClassId) (dI : Nat → Nat → Nat) (L : List Nat) (kd : Nat → Nat) (tys : List (ClassId × FieldType)) (f0 : Nat → va_E) (sz : Nat) (hWT : WT L kd tys f0) (a0_ : Nat) (ma0_ : a0_ ∈ L) (ka0_ : kd a0_ = 0) (x1_ : Int32) (q0_ : Nat) (mq0_ : q0_ ∈ L) (kq0_ : kd q0_ = 7) (hfx : Fs L kd f0 [(0, 2, a0_, .ref q0_)]) : Met l yX0_openOperator (.code yX0_openOperator cX0_openOperator 3 none :: lw_g) ({ frames := 1, cells := 0, slots := 0, locals := 23 }) (va_Pc [.ref a0_, .int x1_] (P3 (dC, dI) L tys f0 sz)) (va_Qv (fun (f : Nat → va_E) => (∃ z1_ : Int32, bd 1 300 z1_ ∧ Fs L kd f [(0, 12, a0_, .int 1), (0, 8, a0_, .int z1_)])) (Q3 (dC, dI) L kd tys [(0, 8), (0, 12), (7, 6), (7, 18), (8, 6)] [110, 111, 112, 113, 114, 138, 139] f0 sz) (pA L sz)) 0 0 (pA L sz) := by
  refine Met.ofW (cc := cX0_openOperator) (maxL := 3) (ret := none) (by decide) rfl ?_
  intro p e s m args below meth c s₁ B hml hv
  obtain ⟨rfl, hsz, hP, hK, hD0⟩ := hv
  have hx := B.exec
  have hb := B.bytes
  have hr := B.returns
  have hts := atoms_spec (ws := (.code yX0_openOperator cX0_openOperator 3 none :: lw_g)) B.pre
  have hown : s.vm.findClass RX0 = some m.cls := findClass_of_methodNamed B.named
  have hlocks := B.notSynchronized
  subst hsz
  have g : G3 (dC, dI) L kd tys s f0 [(0, 8), (0, 12), (7, 6), (7, 18), (8, 6)] [110, 111, 112, 113, 114, 138, 139] f0 s.heap [] [(0, 2, a0_, .ref q0_)] := G3.start hP hD0 hWT hfx
  have hl := lv_entry ([.ref a0_, .int x1_]) (n := 3) (Nat.le_of_ble_eq_true rfl)
  rw [lg_entry_eq]
  generalize (lg_sl ([.ref a0_, .int x1_]) ++ List.replicate (3 - (lg_sl ([.ref a0_, .int x1_])).length) Slot.unset).toArray = ls at hl ⊢
  have hl : lv_has ls 3 [(0, .ref a0_), (1, .int x1_)] := hl
  refine W_q (fun Q hQ => ?_)
  refine lv_aload_n hx hb dX0_openOperator_0 rfl (lv_at hl 0 rfl) ?_
  refine g_getk (C := RX0) (T := TX0) (N := 14) hx hb hts (mc_ inX0) hown hK g rfl 2 (by decide) rfl (hts _ (List.mem_cons_of_mem _ t_375)) (fun _ h9 => h9) 0 rfl dX0_openOperator_1 ?_
  refine g_geti (C := RX7) (T := TX7) (N := 19) hx hb hts (mc_ inX7) hown hK g mq0_ kq0_ (by decide) rfl 6 (by decide) rfl (hts _ (List.mem_cons_of_mem _ t_646)) (fun _ h9 => h9) rfl dX0_openOperator_4 (fun x_1 bx_1 g => ?_)
  refine lv_istore_n (lv' := [(2, .int x_1), (0, .ref a0_), (1, .int x1_)]) hx hb dX0_openOperator_7 rfl hl (by decide) rfl (fun ls hl => ?_)
  refine lv_iload_n hx hb dX0_openOperator_8 rfl (lv_at hl 2 rfl) ?_
  refine lv_sipush (v := 205) hx hb dX0_openOperator_9 (by decide) ?_
  have kb_205 : bd 205 205 (205 : Int32) := ⟨by decide, by decide⟩
  refine lv_icmp_ne (tgt := 28) hx hb dX0_openOperator_12 (by decide) (fun c_2 => ?_) (fun c_2 => ?_)
  · have fc_2 := neq_f c_2
    refine lv_iload_n hx hb dX0_openOperator_28 rfl (lv_at hl 2 rfl) ?_
    refine lv_sipush (v := 206) hx hb dX0_openOperator_29 (by decide) ?_
    have kb_206 : bd 206 206 (206 : Int32) := ⟨by decide, by decide⟩
    refine lv_icmp_ne (tgt := 45) hx hb dX0_openOperator_32 (by decide) (fun c_3 => ?_) (fun c_3 => ?_)
    · have fc_3 := neq_f c_3
      refine lv_aload_n hx hb dX0_openOperator_45 rfl (lv_at hl 1 rfl) ?_
      refine lv_iload_n hx hb dX0_openOperator_46 rfl (lv_at hl 2 rfl) ?_
      refine lv_aload_n hx hb dX0_openOperator_47 rfl (lv_at hl 1 rfl) ?_
      refine g_getr (K := 8) (C := RX0) (T := TX0) (N := 14) hx hb hts (mc_ inX0) hown hK g ma0_ ka0_ (by decide) rfl 0 (by decide) rfl (hts _ (List.mem_cons_of_mem _ t_373)) (fun _ h9 => h9) rfl dX0_openOperator_48 (fun a_4 ma_4 ka_4 g => ?_)
      refine g_calli (va_runV (As := []) (rest := [.int x1_, .ref a0_]) ⟨hx, hb, hml, hown, hts⟩ (r_X8_place l dC dI L kd tys f0 s.heap.size g.2.2.2.1 a_4 ma_4 ka_4) (cwV 0 hts (gV_ t_1220 t_1111 t_1112 t_184 t_1113) rfl rfl rfl (by decide +kernel) ⟨(Nat.le_of_ble_eq_true rfl), (Nat.le_of_ble_eq_true rfl)⟩) (pre3V g hK ma_4 ka_4 (by decide) (q := (RX8, TX8, 10)) rfl) rfl rfl hl.1 rfl (lv_room (Nat.le_of_ble_eq_true rfl)) dX0_openOperator_51 ⟨(Nat.le_of_ble_eq_true rfl), (Nat.le_of_ble_eq_true rfl)⟩) g hK (by decide) (by decide) (fx' := [(0, 0, a0_, .ref a_4), (7, 6, q0_, .int x_1), (0, 2, a0_, .ref q0_)]) rfl (fun r_5 fr_5 H locs hp hMr_5 g => ?_)
      refine lv_iload_n hx hb dX0_openOperator_54 rfl (lv_at hl 0 rfl) ?_
      refine g_callv (va_runV (As := [.int x1_, .int r_5, .int x_1]) (rest := []) ⟨hx, hb, hml, hown, hts⟩ (r_X0_push l dC dI L kd tys fr_5 H.size g.2.2.2.1 a0_ ma0_ ka0_ x1_ r_5 x_1) (cwV 3 hts (gV_ t_1221 t_1223 t_19 t_190 t_1224) rfl rfl rfl (by decide +kernel) ⟨(Nat.le_of_ble_eq_true rfl), (Nat.le_of_ble_eq_true rfl)⟩) (pre3V g hK ma0_ ka0_ (by decide) (q := (RX0, TX0, 14)) rfl) rfl rfl hl.1 rfl (lv_room (Nat.le_of_ble_eq_true rfl)) dX0_openOperator_55 ⟨(Nat.le_of_ble_eq_true rfl), (Nat.le_of_ble_eq_true rfl)⟩) g hK (by decide) (by decide) (fx' := [(0, 0, a0_, .ref a_4), (7, 6, q0_, .int x_1), (0, 2, a0_, .ref q0_)]) rfl (fun fr_6 H locs hp hMr_6 g => ?_)
      obtain ⟨x_7, h_8, hF_9⟩ := hp
      have g := g.more hF_9
      refine lv_aload_n hx hb dX0_openOperator_58 rfl (lv_at hl 1 rfl) ?_
      refine g_getk (C := RX0) (T := TX0) (N := 14) hx hb hts (mc_ inX0) hown hK g rfl 2 (by decide) rfl (hts _ (List.mem_cons_of_mem _ t_375)) (fun _ h9 => h9) 3 rfl dX0_openOperator_59 ?_
      refine lv_dup hx hb dX0_openOperator_62 rfl ?_
      refine g_geti (C := RX7) (T := TX7) (N := 19) hx hb hts (mc_ inX7) hown hK g mq0_ kq0_ (by decide) rfl 18 (by decide) rfl (hts _ (List.mem_cons_of_mem _ t_681)) (fun _ h9 => h9) rfl dX0_openOperator_63 (fun x_10 bx_10 g => ?_)
      refine lv_iconst (v := 1) hx hb dX0_openOperator_66 (by decide) ?_
      have kb_1 : bd 1 1 (1 : Int32) := ⟨by decide, by decide⟩
      refine lv_iadd hx hb dX0_openOperator_67 ?_
      refine lv_topi (fun y_11 ey_11 => ?_)
      refine g_put (C := RX7) (T := TX7) (N := 19) hx hb hts (mc_ inX7) tyX7 tyX7_ok nmX7 hown hK g mq0_ kq0_ (by decide) rfl 18 (by decide) (hts _ (List.mem_cons_of_mem _ t_681)) (fun _ h9 => h9) rfl rfl (okV_i (bdT y_11)) rfl rfl (by decide) (Or.inr (Or.inl (by decide))) (fx' := [(0, 8, a0_, .int x_7), (0, 0, a0_, .ref a_4), (7, 6, q0_, .int x_1), (0, 2, a0_, .ref q0_)]) rfl dX0_openOperator_68 (fun f H locs hM_12 g => ?_)
      refine lv_aload_n hx hb dX0_openOperator_71 rfl (lv_at hl 1 rfl) ?_
      refine g_getk (C := RX0) (T := TX0) (N := 14) hx hb hts (mc_ inX0) hown hK g rfl 0 (by decide) rfl (hts _ (List.mem_cons_of_mem _ t_373)) (fun _ h9 => h9) 2 rfl dX0_openOperator_72 ?_
      refine g_callv (va_runV (As := []) (rest := []) ⟨hx, hb, hml, hown, hts⟩ (r_X8_next l dC dI L kd tys f H.size g.2.2.2.1 a_4 ma_4 ka_4) (cwV 0 hts (gV_ t_1225 t_1103 t_1104 t_184 t_1105) rfl rfl rfl (by decide +kernel) ⟨(Nat.le_of_ble_eq_true rfl), (Nat.le_of_ble_eq_true rfl)⟩) (pre3V g hK ma_4 ka_4 (by decide) (q := (RX8, TX8, 10)) rfl) rfl rfl hl.1 rfl (lv_room (Nat.le_of_ble_eq_true rfl)) dX0_openOperator_75 ⟨(Nat.le_of_ble_eq_true rfl), (Nat.le_of_ble_eq_true rfl)⟩) g hK (by decide) (by decide) (fx' := [(7, 18, q0_, .int y_11), (0, 8, a0_, .int x_7), (0, 0, a0_, .ref a_4), (7, 6, q0_, .int x_1), (0, 2, a0_, .ref q0_)]) rfl (fun fr_13 H locs hp hMr_13 g => ?_)
      obtain ⟨x_14, h_15, hF_16⟩ := hp
      have g := g.more hF_16
      refine lv_aload_n hx hb dX0_openOperator_78 rfl (lv_at hl 1 rfl) ?_
      refine lv_iconst (v := 1) hx hb dX0_openOperator_79 (by decide) ?_
      refine g_put (C := RX0) (T := TX0) (N := 14) hx hb hts (mc_ inX0) tyX0 tyX0_ok nmX0 hown hK g ma0_ ka0_ (by decide) rfl 12 (by decide) (hts _ (List.mem_cons_of_mem _ t_385)) (fun _ h9 => h9) rfl rfl (okV_i (bd_sub kb_1 (by decide))) rfl rfl (by decide) (Or.inr (Or.inl (by decide))) (fx' := [(8, 6, a_4, .int x_14), (7, 18, q0_, .int y_11), (0, 8, a0_, .int x_7), (0, 0, a0_, .ref a_4), (7, 6, q0_, .int x_1), (0, 2, a0_, .ref q0_)]) rfl dX0_openOperator_80 (fun f H locs hM_17 g => ?_)
      subst hQ
      exact W.vret hx hb hr (fun t ht hW => ⟨⟨_, rfl, ⟨x_7, h_8, (g.fcts [0, 3] rfl)⟩, q3_of g hK ht hW⟩, g.2.2.1.F ht⟩) g.2.2.1.2.2 dX0_openOperator_83
    · have fc_3 := eq_f c_3
      have b_18 : bd 206 206 x1_ := eqX fc_3 (bdT x1_) kb_206 (by decide)
      refine lv_aload_n hx hb dX0_openOperator_35 rfl (lv_at hl 1 rfl) ?_
      refine g_getk (C := RX0) (T := TX0) (N := 14) hx hb hts (mc_ inX0) hown hK g rfl 2 (by decide) rfl (hts _ (List.mem_cons_of_mem _ t_375)) (fun _ h9 => h9) 1 rfl dX0_openOperator_36 ?_
      refine lv_bipush (v := 25) hx hb dX0_openOperator_39 (by decide) ?_
      refine lv_iconst (v := 0) hx hb dX0_openOperator_41 (by decide) ?_
      refine g_callv (va_runV (As := [.int 25, .int 0]) (rest := []) ⟨hx, hb, hml, hown, hts⟩ (r_X7_emit l dC dI L kd tys f0 s.heap.size g.2.2.2.1 q0_ mq0_ kq0_ 25 0) (cwV 2 hts (gV_ t_1203 t_1204 t_1205 t_191 t_1206) rfl rfl rfl (by decide +kernel) ⟨(Nat.le_of_ble_eq_true rfl), (Nat.le_of_ble_eq_true rfl)⟩) (pre3V g hK mq0_ kq0_ (by decide) (q := (RX7, TX7, 19)) rfl) rfl rfl hl.1 rfl (lv_room (Nat.le_of_ble_eq_true rfl)) dX0_openOperator_42 ⟨(Nat.le_of_ble_eq_true rfl), (Nat.le_of_ble_eq_true rfl)⟩) g hK (by decide) (by decide) (fx' := [(0, 2, a0_, .ref q0_)]) rfl (fun fr_19 H locs hp hMr_19 g => ?_)
      obtain ⟨x_20, h_21, hF_22⟩ := hp
      have g := g.more hF_22
      refine lv_aload_n hx hb dX0_openOperator_45 rfl (lv_at hl 1 rfl) ?_
      refine lv_iload_n hx hb dX0_openOperator_46 rfl (lv_at hl 2 rfl) ?_
      refine lv_aload_n hx hb dX0_openOperator_47 rfl (lv_at hl 1 rfl) ?_
      refine g_getr (K := 8) (C := RX0) (T := TX0) (N := 14) hx hb hts (mc_ inX0) hown hK g ma0_ ka0_ (by decide) rfl 0 (by decide) rfl (hts _ (List.mem_cons_of_mem _ t_373)) (fun _ h9 => h9) rfl dX0_openOperator_48 (fun a_23 ma_23 ka_23 g => ?_)
      refine g_calli (va_runV (As := []) (rest := [.int x1_, .ref a0_]) ⟨hx, hb, hml, hown, hts⟩ (r_X8_place l dC dI L kd tys fr_19 H.size g.2.2.2.1 a_23 ma_23 ka_23) (cwV 0 hts (gV_ t_1220 t_1111 t_1112 t_184 t_1113) rfl rfl rfl (by decide +kernel) ⟨(Nat.le_of_ble_eq_true rfl), (Nat.le_of_ble_eq_true rfl)⟩) (pre3V g hK ma_23 ka_23 (by decide) (q := (RX8, TX8, 10)) rfl) rfl rfl hl.1 rfl (lv_room (Nat.le_of_ble_eq_true rfl)) dX0_openOperator_51 ⟨(Nat.le_of_ble_eq_true rfl), (Nat.le_of_ble_eq_true rfl)⟩) g hK (by decide) (by decide) (fx' := [(0, 0, a0_, .ref a_23), (7, 6, q0_, .int x_20), (0, 2, a0_, .ref q0_)]) rfl (fun r_24 fr_24 H locs hp hMr_24 g => ?_)
      refine lv_iload_n hx hb dX0_openOperator_54 rfl (lv_at hl 0 rfl) ?_
      refine g_callv (va_runV (As := [.int x1_, .int r_24, .int x_1]) (rest := []) ⟨hx, hb, hml, hown, hts⟩ (r_X0_push l dC dI L kd tys fr_24 H.size g.2.2.2.1 a0_ ma0_ ka0_ x1_ r_24 x_1) (cwV 3 hts (gV_ t_1221 t_1223 t_19 t_190 t_1224) rfl rfl rfl (by decide +kernel) ⟨(Nat.le_of_ble_eq_true rfl), (Nat.le_of_ble_eq_true rfl)⟩) (pre3V g hK ma0_ ka0_ (by decide) (q := (RX0, TX0, 14)) rfl) rfl rfl hl.1 rfl (lv_room (Nat.le_of_ble_eq_true rfl)) dX0_openOperator_55 ⟨(Nat.le_of_ble_eq_true rfl), (Nat.le_of_ble_eq_true rfl)⟩) g hK (by decide) (by decide) (fx' := [(0, 0, a0_, .ref a_23), (7, 6, q0_, .int x_20), (0, 2, a0_, .ref q0_)]) rfl (fun fr_25 H locs hp hMr_25 g => ?_)
      obtain ⟨x_26, h_27, hF_28⟩ := hp
      have g := g.more hF_28
      refine lv_aload_n hx hb dX0_openOperator_58 rfl (lv_at hl 1 rfl) ?_
      refine g_getk (C := RX0) (T := TX0) (N := 14) hx hb hts (mc_ inX0) hown hK g rfl 2 (by decide) rfl (hts _ (List.mem_cons_of_mem _ t_375)) (fun _ h9 => h9) 3 rfl dX0_openOperator_59 ?_
      refine lv_dup hx hb dX0_openOperator_62 rfl ?_
      refine g_geti (C := RX7) (T := TX7) (N := 19) hx hb hts (mc_ inX7) hown hK g mq0_ kq0_ (by decide) rfl 18 (by decide) rfl (hts _ (List.mem_cons_of_mem _ t_681)) (fun _ h9 => h9) rfl dX0_openOperator_63 (fun x_29 bx_29 g => ?_)
      refine lv_iconst (v := 1) hx hb dX0_openOperator_66 (by decide) ?_
      have kb_1 : bd 1 1 (1 : Int32) := ⟨by decide, by decide⟩
      refine lv_iadd hx hb dX0_openOperator_67 ?_
      refine lv_topi (fun y_30 ey_30 => ?_)
      refine g_put (C := RX7) (T := TX7) (N := 19) hx hb hts (mc_ inX7) tyX7 tyX7_ok nmX7 hown hK g mq0_ kq0_ (by decide) rfl 18 (by decide) (hts _ (List.mem_cons_of_mem _ t_681)) (fun _ h9 => h9) rfl rfl (okV_i (bdT y_30)) rfl rfl (by decide) (Or.inr (Or.inl (by decide))) (fx' := [(0, 8, a0_, .int x_26), (0, 0, a0_, .ref a_23), (7, 6, q0_, .int x_20), (0, 2, a0_, .ref q0_)]) rfl dX0_openOperator_68 (fun f H locs hM_31 g => ?_)
      refine lv_aload_n hx hb dX0_openOperator_71 rfl (lv_at hl 1 rfl) ?_
      refine g_getk (C := RX0) (T := TX0) (N := 14) hx hb hts (mc_ inX0) hown hK g rfl 0 (by decide) rfl (hts _ (List.mem_cons_of_mem _ t_373)) (fun _ h9 => h9) 2 rfl dX0_openOperator_72 ?_
      refine g_callv (va_runV (As := []) (rest := []) ⟨hx, hb, hml, hown, hts⟩ (r_X8_next l dC dI L kd tys f H.size g.2.2.2.1 a_23 ma_23 ka_23) (cwV 0 hts (gV_ t_1225 t_1103 t_1104 t_184 t_1105) rfl rfl rfl (by decide +kernel) ⟨(Nat.le_of_ble_eq_true rfl), (Nat.le_of_ble_eq_true rfl)⟩) (pre3V g hK ma_23 ka_23 (by decide) (q := (RX8, TX8, 10)) rfl) rfl rfl hl.1 rfl (lv_room (Nat.le_of_ble_eq_true rfl)) dX0_openOperator_75 ⟨(Nat.le_of_ble_eq_true rfl), (Nat.le_of_ble_eq_true rfl)⟩) g hK (by decide) (by decide) (fx' := [(7, 18, q0_, .int y_30), (0, 8, a0_, .int x_26), (0, 0, a0_, .ref a_23), (7, 6, q0_, .int x_20), (0, 2, a0_, .ref q0_)]) rfl (fun fr_32 H locs hp hMr_32 g => ?_)
      obtain ⟨x_33, h_34, hF_35⟩ := hp
      have g := g.more hF_35
      refine lv_aload_n hx hb dX0_openOperator_78 rfl (lv_at hl 1 rfl) ?_
      refine lv_iconst (v := 1) hx hb dX0_openOperator_79 (by decide) ?_
      refine g_put (C := RX0) (T := TX0) (N := 14) hx hb hts (mc_ inX0) tyX0 tyX0_ok nmX0 hown hK g ma0_ ka0_ (by decide) rfl 12 (by decide) (hts _ (List.mem_cons_of_mem _ t_385)) (fun _ h9 => h9) rfl rfl (okV_i (bd_sub kb_1 (by decide))) rfl rfl (by decide) (Or.inr (Or.inl (by decide))) (fx' := [(8, 6, a_23, .int x_33), (7, 18, q0_, .int y_30), (0, 8, a0_, .int x_26), (0, 0, a0_, .ref a_23), (7, 6, q0_, .int x_20), (0, 2, a0_, .ref q0_)]) rfl dX0_openOperator_80 (fun f H locs hM_36 g => ?_)
      subst hQ
      exact W.vret hx hb hr (fun t ht hW => ⟨⟨_, rfl, ⟨x_26, h_27, (g.fcts [0, 3] rfl)⟩, q3_of g hK ht hW⟩, g.2.2.1.F ht⟩) g.2.2.1.2.2 dX0_openOperator_83
  · have fc_2 := eq_f c_2
    have b_37 : bd 205 205 x1_ := eqX fc_2 (bdT x1_) kb_205 (by decide)
    refine lv_aload_n hx hb dX0_openOperator_15 rfl (lv_at hl 1 rfl) ?_
    refine g_getk (C := RX0) (T := TX0) (N := 14) hx hb hts (mc_ inX0) hown hK g rfl 2 (by decide) rfl (hts _ (List.mem_cons_of_mem _ t_375)) (fun _ h9 => h9) 1 rfl dX0_openOperator_16 ?_
    refine lv_bipush (v := 24) hx hb dX0_openOperator_19 (by decide) ?_
    refine lv_iconst (v := 0) hx hb dX0_openOperator_21 (by decide) ?_
    refine g_callv (va_runV (As := [.int 24, .int 0]) (rest := []) ⟨hx, hb, hml, hown, hts⟩ (r_X7_emit l dC dI L kd tys f0 s.heap.size g.2.2.2.1 q0_ mq0_ kq0_ 24 0) (cwV 2 hts (gV_ t_1203 t_1204 t_1205 t_191 t_1206) rfl rfl rfl (by decide +kernel) ⟨(Nat.le_of_ble_eq_true rfl), (Nat.le_of_ble_eq_true rfl)⟩) (pre3V g hK mq0_ kq0_ (by decide) (q := (RX7, TX7, 19)) rfl) rfl rfl hl.1 rfl (lv_room (Nat.le_of_ble_eq_true rfl)) dX0_openOperator_22 ⟨(Nat.le_of_ble_eq_true rfl), (Nat.le_of_ble_eq_true rfl)⟩) g hK (by decide) (by decide) (fx' := [(0, 2, a0_, .ref q0_)]) rfl (fun fr_38 H locs hp hMr_38 g => ?_)
    obtain ⟨x_39, h_40, hF_41⟩ := hp
    have g := g.more hF_41
    refine lv_goto (tgt := 45) hx hb dX0_openOperator_25 (by decide) ?_
    refine lv_aload_n hx hb dX0_openOperator_45 rfl (lv_at hl 1 rfl) ?_
    refine lv_iload_n hx hb dX0_openOperator_46 rfl (lv_at hl 2 rfl) ?_
    refine lv_aload_n hx hb dX0_openOperator_47 rfl (lv_at hl 1 rfl) ?_
    refine g_getr (K := 8) (C := RX0) (T := TX0) (N := 14) hx hb hts (mc_ inX0) hown hK g ma0_ ka0_ (by decide) rfl 0 (by decide) rfl (hts _ (List.mem_cons_of_mem _ t_373)) (fun _ h9 => h9) rfl dX0_openOperator_48 (fun a_42 ma_42 ka_42 g => ?_)
    refine g_calli (va_runV (As := []) (rest := [.int x1_, .ref a0_]) ⟨hx, hb, hml, hown, hts⟩ (r_X8_place l dC dI L kd tys fr_38 H.size g.2.2.2.1 a_42 ma_42 ka_42) (cwV 0 hts (gV_ t_1220 t_1111 t_1112 t_184 t_1113) rfl rfl rfl (by decide +kernel) ⟨(Nat.le_of_ble_eq_true rfl), (Nat.le_of_ble_eq_true rfl)⟩) (pre3V g hK ma_42 ka_42 (by decide) (q := (RX8, TX8, 10)) rfl) rfl rfl hl.1 rfl (lv_room (Nat.le_of_ble_eq_true rfl)) dX0_openOperator_51 ⟨(Nat.le_of_ble_eq_true rfl), (Nat.le_of_ble_eq_true rfl)⟩) g hK (by decide) (by decide) (fx' := [(0, 0, a0_, .ref a_42), (7, 6, q0_, .int x_39), (0, 2, a0_, .ref q0_)]) rfl (fun r_43 fr_43 H locs hp hMr_43 g => ?_)
    refine lv_iload_n hx hb dX0_openOperator_54 rfl (lv_at hl 0 rfl) ?_
    refine g_callv (va_runV (As := [.int x1_, .int r_43, .int x_1]) (rest := []) ⟨hx, hb, hml, hown, hts⟩ (r_X0_push l dC dI L kd tys fr_43 H.size g.2.2.2.1 a0_ ma0_ ka0_ x1_ r_43 x_1) (cwV 3 hts (gV_ t_1221 t_1223 t_19 t_190 t_1224) rfl rfl rfl (by decide +kernel) ⟨(Nat.le_of_ble_eq_true rfl), (Nat.le_of_ble_eq_true rfl)⟩) (pre3V g hK ma0_ ka0_ (by decide) (q := (RX0, TX0, 14)) rfl) rfl rfl hl.1 rfl (lv_room (Nat.le_of_ble_eq_true rfl)) dX0_openOperator_55 ⟨(Nat.le_of_ble_eq_true rfl), (Nat.le_of_ble_eq_true rfl)⟩) g hK (by decide) (by decide) (fx' := [(0, 0, a0_, .ref a_42), (7, 6, q0_, .int x_39), (0, 2, a0_, .ref q0_)]) rfl (fun fr_44 H locs hp hMr_44 g => ?_)
    obtain ⟨x_45, h_46, hF_47⟩ := hp
    have g := g.more hF_47
    refine lv_aload_n hx hb dX0_openOperator_58 rfl (lv_at hl 1 rfl) ?_
    refine g_getk (C := RX0) (T := TX0) (N := 14) hx hb hts (mc_ inX0) hown hK g rfl 2 (by decide) rfl (hts _ (List.mem_cons_of_mem _ t_375)) (fun _ h9 => h9) 3 rfl dX0_openOperator_59 ?_
    refine lv_dup hx hb dX0_openOperator_62 rfl ?_
    refine g_geti (C := RX7) (T := TX7) (N := 19) hx hb hts (mc_ inX7) hown hK g mq0_ kq0_ (by decide) rfl 18 (by decide) rfl (hts _ (List.mem_cons_of_mem _ t_681)) (fun _ h9 => h9) rfl dX0_openOperator_63 (fun x_48 bx_48 g => ?_)
    refine lv_iconst (v := 1) hx hb dX0_openOperator_66 (by decide) ?_
    have kb_1 : bd 1 1 (1 : Int32) := ⟨by decide, by decide⟩
    refine lv_iadd hx hb dX0_openOperator_67 ?_
    refine lv_topi (fun y_49 ey_49 => ?_)
    refine g_put (C := RX7) (T := TX7) (N := 19) hx hb hts (mc_ inX7) tyX7 tyX7_ok nmX7 hown hK g mq0_ kq0_ (by decide) rfl 18 (by decide) (hts _ (List.mem_cons_of_mem _ t_681)) (fun _ h9 => h9) rfl rfl (okV_i (bdT y_49)) rfl rfl (by decide) (Or.inr (Or.inl (by decide))) (fx' := [(0, 8, a0_, .int x_45), (0, 0, a0_, .ref a_42), (7, 6, q0_, .int x_39), (0, 2, a0_, .ref q0_)]) rfl dX0_openOperator_68 (fun f H locs hM_50 g => ?_)
    refine lv_aload_n hx hb dX0_openOperator_71 rfl (lv_at hl 1 rfl) ?_
    refine g_getk (C := RX0) (T := TX0) (N := 14) hx hb hts (mc_ inX0) hown hK g rfl 0 (by decide) rfl (hts _ (List.mem_cons_of_mem _ t_373)) (fun _ h9 => h9) 2 rfl dX0_openOperator_72 ?_
    refine g_callv (va_runV (As := []) (rest := []) ⟨hx, hb, hml, hown, hts⟩ (r_X8_next l dC dI L kd tys f H.size g.2.2.2.1 a_42 ma_42 ka_42) (cwV 0 hts (gV_ t_1225 t_1103 t_1104 t_184 t_1105) rfl rfl rfl (by decide +kernel) ⟨(Nat.le_of_ble_eq_true rfl), (Nat.le_of_ble_eq_true rfl)⟩) (pre3V g hK ma_42 ka_42 (by decide) (q := (RX8, TX8, 10)) rfl) rfl rfl hl.1 rfl (lv_room (Nat.le_of_ble_eq_true rfl)) dX0_openOperator_75 ⟨(Nat.le_of_ble_eq_true rfl), (Nat.le_of_ble_eq_true rfl)⟩) g hK (by decide) (by decide) (fx' := [(7, 18, q0_, .int y_49), (0, 8, a0_, .int x_45), (0, 0, a0_, .ref a_42), (7, 6, q0_, .int x_39), (0, 2, a0_, .ref q0_)]) rfl (fun fr_51 H locs hp hMr_51 g => ?_)
    obtain ⟨x_52, h_53, hF_54⟩ := hp
    have g := g.more hF_54
    refine lv_aload_n hx hb dX0_openOperator_78 rfl (lv_at hl 1 rfl) ?_
    refine lv_iconst (v := 1) hx hb dX0_openOperator_79 (by decide) ?_
    refine g_put (C := RX0) (T := TX0) (N := 14) hx hb hts (mc_ inX0) tyX0 tyX0_ok nmX0 hown hK g ma0_ ka0_ (by decide) rfl 12 (by decide) (hts _ (List.mem_cons_of_mem _ t_385)) (fun _ h9 => h9) rfl rfl (okV_i (bd_sub kb_1 (by decide))) rfl rfl (by decide) (Or.inr (Or.inl (by decide))) (fx' := [(8, 6, a_42, .int x_52), (7, 18, q0_, .int y_49), (0, 8, a0_, .int x_45), (0, 0, a0_, .ref a_42), (7, 6, q0_, .int x_39), (0, 2, a0_, .ref q0_)]) rfl dX0_openOperator_80 (fun f H locs hM_55 g => ?_)
    subst hQ
    exact W.vret hx hb hr (fun t ht hW => ⟨⟨_, rfl, ⟨x_45, h_46, (g.fcts [0, 3] rfl)⟩, q3_of g hK ht hW⟩, g.2.2.1.F ht⟩) g.2.2.1.2.2 dX0_openOperator_83
set_option maxHeartbeats 4000000 in
set_option maxRecDepth 100000 in
theorem r_X8_fail_10 (l : Launch) (dC : Nat → ClassId) (dI : Nat → Nat → Nat) (L : List Nat) (kd : Nat → Nat) (tys : List (ClassId × FieldType)) (f0 : Nat → va_E) (sz : Nat) (hWT : WT L kd tys f0) (a0_ : Nat) (ma0_ : a0_ ∈ L) (ka0_ : kd a0_ = 8) (x1_ : Int32) (bx1_ : bd 7 7 x1_) (x2_ : Int32) : Met l yX8_fail (.code yX8_fail cX8_fail 4 none :: lw_g) ({ frames := 0, cells := 0, slots := 0, locals := 0 }) (va_Pc [.ref a0_, .int x1_, .int x2_] (P3 (dC, dI) L tys f0 sz)) (va_Qv (fun (f : Nat → va_E) => (∃ z1_ : Int32, bd 1 7 z1_ ∧ Fs L kd f [(8, 6, a0_, .int 1201), (8, 8, a0_, .int z1_)])) (Q3 (dC, dI) L kd tys [(8, 6), (8, 8), (8, 9)] [] f0 sz) (pA L sz)) 0 0 (pA L sz) := by
  refine Met.ofW (cc := cX8_fail) (maxL := 4) (ret := none) (by decide) rfl ?_
  intro p e s m args below meth c s₁ B hml hv
  obtain ⟨rfl, hsz, hP, hK, hD0⟩ := hv
  have hx := B.exec
  have hb := B.bytes
  have hr := B.returns
  have hts := atoms_spec (ws := (.code yX8_fail cX8_fail 4 none :: lw_g)) B.pre
  have hown : s.vm.findClass RX8 = some m.cls := findClass_of_methodNamed B.named
  have hlocks := B.notSynchronized
  subst hsz
  have g : G3 (dC, dI) L kd tys s f0 [(8, 6), (8, 8), (8, 9)] [] f0 s.heap [] [] := G3.start hP hD0 hWT Fs.nil
  have hl := lv_entry ([.ref a0_, .int x1_, .int x2_]) (n := 4) (Nat.le_of_ble_eq_true rfl)
  rw [lg_entry_eq]
  generalize (lg_sl ([.ref a0_, .int x1_, .int x2_]) ++ List.replicate (4 - (lg_sl ([.ref a0_, .int x1_, .int x2_])).length) Slot.unset).toArray = ls at hl ⊢
  have hl : lv_has ls 4 [(0, .ref a0_), (1, .int x1_), (2, .int x2_)] := hl
  refine W_q (fun Q hQ => ?_)
  refine lv_aload_n hx hb dX8_fail_0 rfl (lv_at hl 0 rfl) ?_
  refine g_geti (C := RX8) (T := TX8) (N := 10) hx hb hts (mc_ inX8) hown hK g ma0_ ka0_ (by decide) rfl 6 (by decide) rfl (hts _ (List.mem_cons_of_mem _ t_291)) (fun _ h9 => h9) rfl dX8_fail_1 (fun x_1 bx_1 g => ?_)
  refine lv_sipush (v := 1200) hx hb dX8_fail_4 (by decide) ?_
  have kb_1200 : bd 1200 1200 (1200 : Int32) := ⟨by decide, by decide⟩
  refine lv_icmp_le (tgt := 31) hx hb dX8_fail_7 (by decide) (fun c_2 => ?_) (fun c_2 => ?_)
  · have fc_2 := le_f c_2
    have b_3 : bd 0 1200 x_1 := leL fc_2 bx_1 kb_1200 (by decide)
    refine lv_iconst (v := 0) hx hb dX8_fail_31 (by decide) ?_
    refine lv_istore_n (lv' := [(3, .int 0), (0, .ref a0_), (1, .int x1_), (2, .int x2_)]) hx hb dX8_fail_32 rfl hl (by decide) rfl (fun ls hl => ?_)
    refine lv_aload_n hx hb dX8_fail_33 rfl (lv_at hl 1 rfl) ?_
    refine g_geti (C := RX8) (T := TX8) (N := 10) hx hb hts (mc_ inX8) hown hK g ma0_ ka0_ (by decide) rfl 8 (by decide) rfl (hts _ (List.mem_cons_of_mem _ t_295)) (fun _ h9 => h9) rfl dX8_fail_34 (fun x_4 bx_4 g => ?_)
    have kb_0 : bd 0 0 (0 : Int32) := ⟨by decide, by decide⟩
    refine lv_if_ne (tgt := 73) hx hb dX8_fail_37 (by decide) (fun c_5 => ?_) (fun c_5 => ?_)
    · have fc_5 := neq_f c_5
      have b_6 : bd 1 7 x_4 := neX fc_5 bx_4 kb_0 (by decide)
      refine lv_aload_n hx hb dX8_fail_73 rfl (lv_at hl 1 rfl) ?_
      refine lv_sipush (v := 1201) hx hb dX8_fail_74 (by decide) ?_
      have kb_1201 : bd 1201 1201 (1201 : Int32) := ⟨by decide, by decide⟩
      refine g_put (C := RX8) (T := TX8) (N := 10) hx hb hts (mc_ inX8) tyX8 tyX8_ok nmX8 hown hK g ma0_ ka0_ (by decide) rfl 6 (by decide) (hts _ (List.mem_cons_of_mem _ t_291)) (fun _ h9 => h9) rfl rfl (okV_i (bd_sub kb_1201 (by decide))) rfl rfl (by decide) (Or.inr (Or.inl (by decide))) (fx' := [(8, 8, a0_, .int x_4)]) rfl dX8_fail_77 (fun f H locs hM_7 g => ?_)
      subst hQ
      exact W.vret hx hb hr (fun t ht hW => ⟨⟨_, rfl, ⟨x_4, b_6, (g.fcts [0, 1] rfl)⟩, q3_of g hK ht hW⟩, g.2.2.1.F ht⟩) g.2.2.1.2.2 dX8_fail_80
    · have fc_5 := eq_f c_5
      have b_8 : bd 0 0 x_4 := eqX fc_5 bx_4 kb_0 (by decide)
      refine lv_aload_n hx hb dX8_fail_40 rfl (lv_at hl 1 rfl) ?_
      refine lv_iload_n hx hb dX8_fail_41 rfl (lv_at hl 0 rfl) ?_
      refine lv_if_eq (tgt := 49) hx hb dX8_fail_42 (by decide) (fun c_ => ?_) (fun c_ => absurd (by decide) c_)
      refine lv_iload_n hx hb dX8_fail_49 rfl (lv_at hl 2 rfl) ?_
      refine g_put (C := RX8) (T := TX8) (N := 10) hx hb hts (mc_ inX8) tyX8 tyX8_ok nmX8 hown hK g ma0_ ka0_ (by decide) rfl 8 (by decide) (hts _ (List.mem_cons_of_mem _ t_295)) (fun _ h9 => h9) rfl rfl (okV_i (bd_sub bx1_ (by decide))) rfl rfl (by decide) (Or.inr (Or.inr (st_of bx1_ (by decide)))) (fx' := [(8, 6, a0_, .int x_1)]) rfl dX8_fail_50 (fun f H locs hM_9 g => ?_)
      refine lv_aload_n hx hb dX8_fail_53 rfl (lv_at hl 1 rfl) ?_
      refine lv_iload_n hx hb dX8_fail_54 rfl (lv_at hl 0 rfl) ?_
      refine lv_if_eq (tgt := 69) hx hb dX8_fail_55 (by decide) (fun c_ => ?_) (fun c_ => absurd (by decide) c_)
      refine lv_iload_n hx hb dX8_fail_69 rfl (lv_at hl 3 rfl) ?_
      refine g_put (C := RX8) (T := TX8) (N := 10) hx hb hts (mc_ inX8) tyX8 tyX8_ok nmX8 hown hK g ma0_ ka0_ (by decide) rfl 9 (by decide) (hts _ (List.mem_cons_of_mem _ t_296)) (fun _ h9 => h9) rfl rfl (okV_i (bdT x2_)) rfl rfl (by decide) (Or.inr (Or.inl (by decide))) (fx' := [(8, 8, a0_, .int x1_), (8, 6, a0_, .int x_1)]) rfl dX8_fail_70 (fun f H locs hM_10 g => ?_)
      refine lv_aload_n hx hb dX8_fail_73 rfl (lv_at hl 1 rfl) ?_
      refine lv_sipush (v := 1201) hx hb dX8_fail_74 (by decide) ?_
      have kb_1201 : bd 1201 1201 (1201 : Int32) := ⟨by decide, by decide⟩
      refine g_put (C := RX8) (T := TX8) (N := 10) hx hb hts (mc_ inX8) tyX8 tyX8_ok nmX8 hown hK g ma0_ ka0_ (by decide) rfl 6 (by decide) (hts _ (List.mem_cons_of_mem _ t_291)) (fun _ h9 => h9) rfl rfl (okV_i (bd_sub kb_1201 (by decide))) rfl rfl (by decide) (Or.inr (Or.inl (by decide))) (fx' := [(8, 9, a0_, .int x2_), (8, 8, a0_, .int x1_)]) rfl dX8_fail_77 (fun f H locs hM_11 g => ?_)
      subst hQ
      exact W.vret hx hb hr (fun t ht hW => ⟨⟨_, rfl, ⟨x1_, (bd_sub bx1_ (by decide)), (g.fcts [0, 2] rfl)⟩, q3_of g hK ht hW⟩, g.2.2.1.F ht⟩) g.2.2.1.2.2 dX8_fail_80
  · have fc_2 := nle_f c_2
    have b_12 : bd 1201 1201 x_1 := ltR fc_2 kb_1200 bx_1 (by decide)
    refine lv_iload_n hx hb dX8_fail_10 rfl (lv_at hl 1 rfl) ?_
    refine lv_iconst (v := 4) hx hb dX8_fail_11 (by decide) ?_
    have kb_4 : bd 4 4 (4 : Int32) := ⟨by decide, by decide⟩
    refine lv_icmp_gt (tgt := 27) hx hb dX8_fail_12 (by decide) (fun c_13 => ?_) (fun c_13 => ?_)
    · have fc_13 := lt_f c_13
      refine lv_iconst (v := 1) hx hb dX8_fail_27 (by decide) ?_
      refine lv_goto (tgt := 32) hx hb dX8_fail_28 (by decide) ?_
      refine lv_istore_n (lv' := [(3, .int 1), (0, .ref a0_), (1, .int x1_), (2, .int x2_)]) hx hb dX8_fail_32 rfl hl (by decide) rfl (fun ls hl => ?_)
      refine lv_aload_n hx hb dX8_fail_33 rfl (lv_at hl 1 rfl) ?_
      refine g_geti (C := RX8) (T := TX8) (N := 10) hx hb hts (mc_ inX8) hown hK g ma0_ ka0_ (by decide) rfl 8 (by decide) rfl (hts _ (List.mem_cons_of_mem _ t_295)) (fun _ h9 => h9) rfl dX8_fail_34 (fun x_14 bx_14 g => ?_)
      have kb_0 : bd 0 0 (0 : Int32) := ⟨by decide, by decide⟩
      refine lv_if_ne (tgt := 73) hx hb dX8_fail_37 (by decide) (fun c_15 => ?_) (fun c_15 => ?_)
      · have fc_15 := neq_f c_15
        have b_16 : bd 1 7 x_14 := neX fc_15 bx_14 kb_0 (by decide)
        refine lv_aload_n hx hb dX8_fail_73 rfl (lv_at hl 1 rfl) ?_
        refine lv_sipush (v := 1201) hx hb dX8_fail_74 (by decide) ?_
        have kb_1201 : bd 1201 1201 (1201 : Int32) := ⟨by decide, by decide⟩
        refine g_put (C := RX8) (T := TX8) (N := 10) hx hb hts (mc_ inX8) tyX8 tyX8_ok nmX8 hown hK g ma0_ ka0_ (by decide) rfl 6 (by decide) (hts _ (List.mem_cons_of_mem _ t_291)) (fun _ h9 => h9) rfl rfl (okV_i (bd_sub kb_1201 (by decide))) rfl rfl (by decide) (Or.inr (Or.inl (by decide))) (fx' := [(8, 8, a0_, .int x_14)]) rfl dX8_fail_77 (fun f H locs hM_17 g => ?_)
        subst hQ
        exact W.vret hx hb hr (fun t ht hW => ⟨⟨_, rfl, ⟨x_14, b_16, (g.fcts [0, 1] rfl)⟩, q3_of g hK ht hW⟩, g.2.2.1.F ht⟩) g.2.2.1.2.2 dX8_fail_80
      · have fc_15 := eq_f c_15
        have b_18 : bd 0 0 x_14 := eqX fc_15 bx_14 kb_0 (by decide)
        refine lv_aload_n hx hb dX8_fail_40 rfl (lv_at hl 1 rfl) ?_
        refine lv_iload_n hx hb dX8_fail_41 rfl (lv_at hl 0 rfl) ?_
        refine lv_if_eq (tgt := 49) hx hb dX8_fail_42 (by decide) (fun c_ => absurd c_ (by decide)) (fun c_ => ?_)
        refine lv_iconst (v := 4) hx hb dX8_fail_45 (by decide) ?_
        refine lv_goto (tgt := 50) hx hb dX8_fail_46 (by decide) ?_
        refine g_put (C := RX8) (T := TX8) (N := 10) hx hb hts (mc_ inX8) tyX8 tyX8_ok nmX8 hown hK g ma0_ ka0_ (by decide) rfl 8 (by decide) (hts _ (List.mem_cons_of_mem _ t_295)) (fun _ h9 => h9) rfl rfl (okV_i (bd_sub kb_4 (by decide))) rfl rfl (by decide) (Or.inr (Or.inr (st_of kb_4 (by decide)))) (fx' := [(8, 6, a0_, .int x_1)]) rfl dX8_fail_50 (fun f H locs hM_19 g => ?_)
        refine lv_aload_n hx hb dX8_fail_53 rfl (lv_at hl 1 rfl) ?_
        refine lv_iload_n hx hb dX8_fail_54 rfl (lv_at hl 0 rfl) ?_
        refine lv_if_eq (tgt := 69) hx hb dX8_fail_55 (by decide) (fun c_ => absurd c_ (by decide)) (fun c_ => ?_)
        refine lv_aload_n hx hb dX8_fail_58 rfl (lv_at hl 1 rfl) ?_
        refine g_getr (K := 149) (C := RX8) (T := TX8) (N := 10) hx hb hts (mc_ inX8) hown hK g ma0_ ka0_ (by decide) rfl 1 (by decide) rfl (hts _ (List.mem_cons_of_mem _ t_286)) (fun _ h9 => h9) rfl dX8_fail_59 (fun a_20 ma_20 ka_20 g => ?_)
        refine lv_sipush (v := 1200) hx hb dX8_fail_62 (by decide) ?_
        refine g_iald hx hb hK g ma_20 ka_20 (by decide) rfl (by unfold vp_in; decide) dX8_fail_65 (fun x_21 bx_21 cx_21 => ?_)
        refine lv_goto (tgt := 70) hx hb dX8_fail_66 (by decide) ?_
        refine g_put (C := RX8) (T := TX8) (N := 10) hx hb hts (mc_ inX8) tyX8 tyX8_ok nmX8 hown hK g ma0_ ka0_ (by decide) rfl 9 (by decide) (hts _ (List.mem_cons_of_mem _ t_296)) (fun _ h9 => h9) rfl rfl (okV_i (bdT x_21)) rfl rfl (by decide) (Or.inr (Or.inl (by decide))) (fx' := [(8, 1, a0_, .ref a_20), (8, 8, a0_, .int 4), (8, 6, a0_, .int x_1)]) rfl dX8_fail_70 (fun f H locs hM_22 g => ?_)
        refine lv_aload_n hx hb dX8_fail_73 rfl (lv_at hl 1 rfl) ?_
        refine lv_sipush (v := 1201) hx hb dX8_fail_74 (by decide) ?_
        have kb_1201 : bd 1201 1201 (1201 : Int32) := ⟨by decide, by decide⟩
        refine g_put (C := RX8) (T := TX8) (N := 10) hx hb hts (mc_ inX8) tyX8 tyX8_ok nmX8 hown hK g ma0_ ka0_ (by decide) rfl 6 (by decide) (hts _ (List.mem_cons_of_mem _ t_291)) (fun _ h9 => h9) rfl rfl (okV_i (bd_sub kb_1201 (by decide))) rfl rfl (by decide) (Or.inr (Or.inl (by decide))) (fx' := [(8, 9, a0_, .int x_21), (8, 1, a0_, .ref a_20), (8, 8, a0_, .int 4)]) rfl dX8_fail_77 (fun f H locs hM_23 g => ?_)
        subst hQ
        exact W.vret hx hb hr (fun t ht hW => ⟨⟨_, rfl, ⟨4, (bd_sub kb_4 (by decide)), (g.fcts [0, 3] rfl)⟩, q3_of g hK ht hW⟩, g.2.2.1.F ht⟩) g.2.2.1.2.2 dX8_fail_80
    · have fc_13 := nlt_f c_13
      have b_24 : bd 7 4 x1_ := leL fc_13 bx1_ kb_4 (by decide)
      exact bd_no b_24 (by decide)
set_option maxHeartbeats 4000000 in
set_option maxRecDepth 100000 in
theorem r_X7_leadHere (l : Launch) (dC : Nat → ClassId) (dI : Nat → Nat → Nat) (L : List Nat) (kd : Nat → Nat) (tys : List (ClassId × FieldType)) (f0 : Nat → va_E) (sz : Nat) (hWT : WT L kd tys f0) (a0_ : Nat) (ma0_ : a0_ ∈ L) (ka0_ : kd a0_ = 7) (x1_ : Int32) : Met l yX7_leadHere (.code yX7_leadHere cX7_leadHere 2 none :: lw_g) ({ frames := 0, cells := 0, slots := 0, locals := 0 }) (va_Pc [.ref a0_, .int x1_] (P3 (dC, dI) L tys f0 sz)) (va_Qv (fun (f : Nat → va_E) => (True)) (Q3 (dC, dI) L kd tys [] [139] f0 sz) (pA L sz)) 0 0 (pA L sz) := by
  refine Met.ofW (cc := cX7_leadHere) (maxL := 2) (ret := none) (by decide) rfl ?_
  intro p e s m args below meth c s₁ B hml hv
  obtain ⟨rfl, hsz, hP, hK, hD0⟩ := hv
  have hx := B.exec
  have hb := B.bytes
  have hr := B.returns
  have hts := atoms_spec (ws := (.code yX7_leadHere cX7_leadHere 2 none :: lw_g)) B.pre
  have hown : s.vm.findClass RX7 = some m.cls := findClass_of_methodNamed B.named
  have hlocks := B.notSynchronized
  subst hsz
  have g : G3 (dC, dI) L kd tys s f0 [] [139] f0 s.heap [] [] := G3.start hP hD0 hWT Fs.nil
  have hl := lv_entry ([.ref a0_, .int x1_]) (n := 2) (Nat.le_of_ble_eq_true rfl)
  rw [lg_entry_eq]
  generalize (lg_sl ([.ref a0_, .int x1_]) ++ List.replicate (2 - (lg_sl ([.ref a0_, .int x1_])).length) Slot.unset).toArray = ls at hl ⊢
  have hl : lv_has ls 2 [(0, .ref a0_), (1, .int x1_)] := hl
  refine W_q (fun Q hQ => ?_)
  refine lv_iload_n hx hb dX7_leadHere_0 rfl (lv_at hl 1 rfl) ?_
  have kb_0 : bd 0 0 (0 : Int32) := ⟨by decide, by decide⟩
  refine lv_if_lt (tgt := 22) hx hb dX7_leadHere_1 (by decide) (fun c_1 => ?_) (fun c_1 => ?_)
  · have fc_1 := lt_f c_1
    have b_2 : bd (-2147483648) (-1) x1_ := ltL fc_1 (bdT x1_) kb_0 (by decide)
    subst hQ
    exact W.vret hx hb hr (fun t ht hW => ⟨⟨_, rfl, trivial, q3_of g hK ht hW⟩, g.2.2.1.F ht⟩) g.2.2.1.2.2 dX7_leadHere_22
  · have fc_1 := nlt_f c_1
    have b_3 : bd 0 2147483647 x1_ := leR fc_1 kb_0 (bdT x1_) (by decide)
    refine lv_iload_n hx hb dX7_leadHere_4 rfl (lv_at hl 1 rfl) ?_
    refine lv_aload_n hx hb dX7_leadHere_5 rfl (lv_at hl 0 rfl) ?_
    refine g_geti (C := RX7) (T := TX7) (N := 19) hx hb hts (mc_ inX7) hown hK g ma0_ ka0_ (by decide) rfl 6 (by decide) rfl (hts _ (List.mem_cons_of_mem _ t_644)) (fun _ h9 => h9) rfl dX7_leadHere_6 (fun x_4 bx_4 g => ?_)
    refine lv_icmp_ge (tgt := 22) hx hb dX7_leadHere_9 (by decide) (fun c_5 => ?_) (fun c_5 => ?_)
    · have fc_5 := le_f c_5
      subst hQ
      exact W.vret hx hb hr (fun t ht hW => ⟨⟨_, rfl, trivial, q3_of g hK ht hW⟩, g.2.2.1.F ht⟩) g.2.2.1.2.2 dX7_leadHere_22
    · have fc_5 := nle_f c_5
      have b_6 : bd 0 1999 x1_ := ltL fc_5 b_3 bx_4 (by decide)
      have b_7 : bd 1 2000 x_4 := ltR fc_5 b_3 bx_4 (by decide)
      refine lv_aload_n hx hb dX7_leadHere_12 rfl (lv_at hl 0 rfl) ?_
      refine g_getr (K := 139) (C := RX7) (T := TX7) (N := 19) hx hb hts (mc_ inX7) hown hK g ma0_ ka0_ (by decide) rfl 5 (by decide) rfl (hts _ (List.mem_cons_of_mem _ t_642)) (fun _ h9 => h9) rfl dX7_leadHere_13 (fun a_8 ma_8 ka_8 g => ?_)
      refine lv_iload_n hx hb dX7_leadHere_16 rfl (lv_at hl 1 rfl) ?_
      refine lv_aload_n hx hb dX7_leadHere_17 rfl (lv_at hl 0 rfl) ?_
      refine g_getk (C := RX7) (T := TX7) (N := 19) hx hb hts (mc_ inX7) hown hK g rfl 6 (by decide) rfl (hts _ (List.mem_cons_of_mem _ t_644)) (fun _ h9 => h9) 1 rfl dX7_leadHere_18 ?_
      refine g_iast hx hb hK g ma_8 ka_8 (by decide) rfl (in_bd b_6 (by decide)) (bd_sub b_7 (by decide)) (by decide) dX7_leadHere_21 (fun f H locs hM_9 g => ?_)
      subst hQ
      exact W.vret hx hb hr (fun t ht hW => ⟨⟨_, rfl, trivial, q3_of g hK ht hW⟩, g.2.2.1.F ht⟩) g.2.2.1.2.2 dX7_leadHere_22
