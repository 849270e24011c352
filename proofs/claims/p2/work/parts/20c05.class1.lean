set_option maxHeartbeats 4000000 in
set_option maxRecDepth 100000 in
theorem r_X0_readSize (l : Launch) (dC : Nat → ClassId) (dI : Nat → Nat → Nat) (L : List Nat) (kd : Nat → Nat) (tys : List (ClassId × FieldType)) (f0 : Nat → va_E) (sz : Nat) (hWT : WT L kd tys f0) (a0_ : Nat) (ma0_ : a0_ ∈ L) (ka0_ : kd a0_ = 0) (q0_ : Nat) (mq0_ : q0_ ∈ L) (kq0_ : kd q0_ = 8) (q1_ : Nat) (mq1_ : q1_ ∈ L) (kq1_ : kd q1_ = 5) (q2_ : Nat) (mq2_ : q2_ ∈ L) (kq2_ : kd q2_ = 7) (q3_ : Nat) (mq3_ : q3_ ∈ L) (kq3_ : kd q3_ = 9) (hfx : Fs L kd f0 [(0, 0, a0_, .ref q0_), (0, 1, a0_, .ref q1_), (0, 2, a0_, .ref q2_), (5, 1, q1_, .ref q3_)]) : Met l yX0_readSize (.code yX0_readSize cX0_readSize 3 none :: lw_g) ({ frames := 2, cells := 0, slots := 0, locals := 46 }) (va_Pc [.ref a0_] (P3 (dC, dI) L tys f0 sz)) (va_Qv (fun (f : Nat → va_E) => (∃ z0_ : Int32, bd 1201 1201 z0_ ∧ ∃ z1_ : Int32, bd 1 7 z1_ ∧ Fs L kd f [(8, 6, q0_, .int z0_), (8, 8, q0_, .int z1_)]) ∨ (∃ z1_ : Int32, bd 1 300 z1_ ∧ ∃ z2_ : Int32, bd 1 2000 z2_ ∧ ∃ z3_ : Int32, bd 1 1201 z3_ ∧ ∃ z4_ : Int32, bd 1 10 z4_ ∧ ∃ z5_ : Int32, bd (-2147483648) 39 z5_ ∧ Fs L kd f [(0, 12, a0_, .int 0), (0, 10, a0_, .int z1_), (7, 6, q2_, .int z2_), (8, 6, q0_, .int z3_), (9, 2, q3_, .int z4_), (0, 11, a0_, .int z5_)])) (Q3 (dC, dI) L kd tys [(0, 10), (0, 12), (7, 6), (7, 18), (8, 6), (8, 8), (8, 9)] [115, 138, 139] f0 sz) (pA L sz)) 0 0 (pA L sz) := by
  refine Met.ofW (cc := cX0_readSize) (maxL := 3) (ret := none) (by decide) rfl ?_
  intro p e s m args below meth c s₁ B hml hv
  obtain ⟨rfl, hsz, hP, hK, hD0⟩ := hv
  have hx := B.exec
  have hb := B.bytes
  have hr := B.returns
  have hts := atoms_spec (ws := (.code yX0_readSize cX0_readSize 3 none :: lw_g)) B.pre
  have hown : s.vm.findClass RX0 = some m.cls := findClass_of_methodNamed B.named
  have hlocks := B.notSynchronized
  subst hsz
  have g : G3 (dC, dI) L kd tys s f0 [(0, 10), (0, 12), (7, 6), (7, 18), (8, 6), (8, 8), (8, 9)] [115, 138, 139] f0 s.heap [] [(0, 0, a0_, .ref q0_), (0, 1, a0_, .ref q1_), (0, 2, a0_, .ref q2_), (5, 1, q1_, .ref q3_)] := G3.start hP hD0 hWT hfx
  have hl := lv_entry ([.ref a0_]) (n := 3) (Nat.le_of_ble_eq_true rfl)
  rw [lg_entry_eq]
  generalize (lg_sl ([.ref a0_]) ++ List.replicate (3 - (lg_sl ([.ref a0_])).length) Slot.unset).toArray = ls at hl ⊢
  have hl : lv_has ls 3 [(0, .ref a0_)] := hl
  refine W_q (fun Q hQ => ?_)
  refine lv_aload_n hx hb dX0_readSize_0 rfl (lv_at hl 0 rfl) ?_
  refine g_getk (C := RX0) (T := TX0) (N := 14) hx hb hts (mc_ inX0) hown hK g rfl 0 (by decide) rfl (hts _ (List.mem_cons_of_mem _ t_373)) (fun _ h9 => h9) 0 rfl dX0_readSize_1 ?_
  refine g_callv (va_runV (As := []) (rest := []) ⟨hx, hb, hml, hown, hts⟩ (r_X8_next l dC dI L kd tys f0 s.heap.size g.2.2.2.1 q0_ mq0_ kq0_) (cwV 0 hts (gV_ t_1225 t_1103 t_1104 t_184 t_1105) rfl rfl rfl (by decide +kernel) ⟨(Nat.le_of_ble_eq_true rfl), (Nat.le_of_ble_eq_true rfl)⟩) (pre3V g hK mq0_ kq0_ (by decide) (q := (RX8, TX8, 10)) rfl) rfl rfl hl.1 rfl (lv_room (Nat.le_of_ble_eq_true rfl)) dX0_readSize_4 ⟨(Nat.le_of_ble_eq_true rfl), (Nat.le_of_ble_eq_true rfl)⟩) g hK (by decide) (by decide) (fx' := [(0, 0, a0_, .ref q0_), (0, 1, a0_, .ref q1_), (0, 2, a0_, .ref q2_), (5, 1, q1_, .ref q3_)]) rfl (fun fr_1 H locs hp hMr_1 g => ?_)
  obtain ⟨x_2, h_3, hF_4⟩ := hp
  have g := g.more hF_4
  refine lv_aload_n hx hb dX0_readSize_7 rfl (lv_at hl 0 rfl) ?_
  refine g_callv (va_runV (As := []) (rest := []) ⟨hx, hb, hml, hown, hts⟩ (r_X0_takeBracket l dC dI L kd tys fr_1 H.size g.2.2.2.1 a0_ ma0_ ka0_ q0_ mq0_ kq0_ (g.fcts [1] rfl)) (cwV 0 hts (gV_ t_1289 t_1291 t_29 t_190 t_1292) rfl rfl rfl (by decide +kernel) ⟨(Nat.le_of_ble_eq_true rfl), (Nat.le_of_ble_eq_true rfl)⟩) (pre3V g hK ma0_ ka0_ (by decide) (q := (RX0, TX0, 14)) rfl) rfl rfl hl.1 rfl (lv_room (Nat.le_of_ble_eq_true rfl)) dX0_readSize_8 ⟨(Nat.le_of_ble_eq_true rfl), (Nat.le_of_ble_eq_true rfl)⟩) g hK (by decide) (by decide) (fx' := [(0, 0, a0_, .ref q0_), (0, 1, a0_, .ref q1_), (0, 2, a0_, .ref q2_), (5, 1, q1_, .ref q3_)]) rfl (fun fr_5 H locs hp hMr_5 g => ?_)
  rcases hp with ⟨x_6, h_7, hF_8⟩ | ⟨x_9, h_10, x_11, h_12, hF_13⟩
  · have g := g.more hF_8
    refine lv_aload_n hx hb dX0_readSize_11 rfl (lv_at hl 0 rfl) ?_
    refine g_getk (C := RX0) (T := TX0) (N := 14) hx hb hts (mc_ inX0) hown hK g rfl 0 (by decide) rfl (hts _ (List.mem_cons_of_mem _ t_373)) (fun _ h9 => h9) 2 rfl dX0_readSize_12 ?_
    refine g_calli (va_runV (As := []) (rest := []) ⟨hx, hb, hml, hown, hts⟩ (r_X8_place l dC dI L kd tys fr_5 H.size g.2.2.2.1 q0_ mq0_ kq0_) (cwV 0 hts (gV_ t_1220 t_1111 t_1112 t_184 t_1113) rfl rfl rfl (by decide +kernel) ⟨(Nat.le_of_ble_eq_true rfl), (Nat.le_of_ble_eq_true rfl)⟩) (pre3V g hK mq0_ kq0_ (by decide) (q := (RX8, TX8, 10)) rfl) rfl rfl hl.1 rfl (lv_room (Nat.le_of_ble_eq_true rfl)) dX0_readSize_15 ⟨(Nat.le_of_ble_eq_true rfl), (Nat.le_of_ble_eq_true rfl)⟩) g hK (by decide) (by decide) (fx' := [(8, 6, q0_, .int 1201), (8, 8, q0_, .int x_6), (0, 0, a0_, .ref q0_), (0, 1, a0_, .ref q1_), (0, 2, a0_, .ref q2_), (5, 1, q1_, .ref q3_)]) rfl (fun r_14 fr_14 H locs hp hMr_14 g => ?_)
    refine lv_istore_n (lv' := [(1, .int r_14), (0, .ref a0_)]) hx hb dX0_readSize_18 rfl hl (by decide) rfl (fun ls hl => ?_)
    refine lv_aload_n hx hb dX0_readSize_19 rfl (lv_at hl 1 rfl) ?_
    refine g_getk (C := RX0) (T := TX0) (N := 14) hx hb hts (mc_ inX0) hown hK g rfl 1 (by decide) rfl (hts _ (List.mem_cons_of_mem _ t_374)) (fun _ h9 => h9) 3 rfl dX0_readSize_20 ?_
    refine lv_aload_n hx hb dX0_readSize_23 rfl (lv_at hl 1 rfl) ?_
    refine g_getk (C := RX0) (T := TX0) (N := 14) hx hb hts (mc_ inX0) hown hK g rfl 0 (by decide) rfl (hts _ (List.mem_cons_of_mem _ t_373)) (fun _ h9 => h9) 2 rfl dX0_readSize_24 ?_
    refine g_calll (va_runV (As := []) (rest := [.ref q1_]) ⟨hx, hb, hml, hown, hts⟩ (r_X8_value l dC dI L kd tys fr_14 H.size g.2.2.2.1 q0_ mq0_ kq0_) (cwV 0 hts (gV_ t_1238 t_1115 t_1116 t_184 t_1117) rfl rfl rfl (by decide +kernel) ⟨(Nat.le_of_ble_eq_true rfl), (Nat.le_of_ble_eq_true rfl)⟩) (pre3V g hK mq0_ kq0_ (by decide) (q := (RX8, TX8, 10)) rfl) rfl rfl hl.1 rfl (lv_room (Nat.le_of_ble_eq_true rfl)) dX0_readSize_27 ⟨(Nat.le_of_ble_eq_true rfl), (Nat.le_of_ble_eq_true rfl)⟩) g hK (by decide) (by decide) (fx' := [(8, 6, q0_, .int 1201), (8, 8, q0_, .int x_6), (0, 0, a0_, .ref q0_), (0, 1, a0_, .ref q1_), (0, 2, a0_, .ref q2_), (5, 1, q1_, .ref q3_)]) rfl (fun r_15 fr_15 H locs hp hMr_15 g => ?_)
    refine g_calli (va_runV (As := [.long r_15]) (rest := []) ⟨hx, hb, hml, hown, hts⟩ (r_X5_placeNamed l dC dI L kd tys fr_15 H.size g.2.2.2.1 q1_ mq1_ kq1_ r_15 q3_ mq3_ kq3_ (g.fcts [5] rfl)) (cwV 1 hts (gV_ t_1251 t_1252 t_1253 t_189 t_1254) rfl rfl rfl (by decide +kernel) ⟨(Nat.le_of_ble_eq_true rfl), (Nat.le_of_ble_eq_true rfl)⟩) (pre3V g hK mq1_ kq1_ (by decide) (q := (RX5, TX5, 9)) rfl) rfl rfl hl.1 rfl (lv_room (Nat.le_of_ble_eq_true rfl)) dX0_readSize_30 ⟨(Nat.le_of_ble_eq_true rfl), (Nat.le_of_ble_eq_true rfl)⟩) g hK (by decide) (by decide) (fx' := [(8, 6, q0_, .int 1201), (8, 8, q0_, .int x_6), (0, 0, a0_, .ref q0_), (0, 1, a0_, .ref q1_), (0, 2, a0_, .ref q2_), (5, 1, q1_, .ref q3_)]) rfl (fun r_16 fr_16 H locs hp hMr_16 g => ?_)
    obtain ⟨h_17, -⟩ := hp
    refine lv_istore_n (lv' := [(2, .int r_16), (1, .int r_14), (0, .ref a0_)]) hx hb dX0_readSize_33 rfl hl (by decide) rfl (fun ls hl => ?_)
    refine lv_iload_n hx hb dX0_readSize_34 rfl (lv_at hl 0 rfl) ?_
    refine lv_iconst (v := (-1)) hx hb dX0_readSize_35 (by decide) ?_
    have kb_m1 : bd (-1) (-1) ((-1) : Int32) := ⟨by decide, by decide⟩
    refine lv_icmp_ne (tgt := 49) hx hb dX0_readSize_36 (by decide) (fun c_18 => ?_) (fun c_18 => ?_)
    · have fc_18 := neq_f c_18
      have b_19 : bd 0 26 r_16 := neX fc_18 h_17 kb_m1 (by decide)
      refine lv_aload_n hx hb dX0_readSize_49 rfl (lv_at hl 2 rfl) ?_
      refine g_getk (C := RX0) (T := TX0) (N := 14) hx hb hts (mc_ inX0) hown hK g rfl 0 (by decide) rfl (hts _ (List.mem_cons_of_mem _ t_373)) (fun _ h9 => h9) 2 rfl dX0_readSize_50 ?_
      have kb_1201 : bd 1201 1201 (1201 : Int32) := ⟨by decide, by decide⟩
      refine g_callv (va_runV (As := []) (rest := []) ⟨hx, hb, hml, hown, hts⟩ (r_X8_next_2 l dC dI L kd tys fr_16 H.size g.2.2.2.1 q0_ mq0_ kq0_ 1201 kb_1201 (g.fcts [0] rfl)) (cwV 0 hts (gV_ t_1225 t_1103 t_1104 t_184 t_1105) rfl rfl rfl (by decide +kernel) ⟨(Nat.le_of_ble_eq_true rfl), (Nat.le_of_ble_eq_true rfl)⟩) (pre3V g hK mq0_ kq0_ (by decide) (q := (RX8, TX8, 10)) rfl) rfl rfl hl.1 rfl (lv_room (Nat.le_of_ble_eq_true rfl)) dX0_readSize_53 ⟨(Nat.le_of_ble_eq_true rfl), (Nat.le_of_ble_eq_true rfl)⟩) g hK (by decide) (by decide) (fx' := [(8, 6, q0_, .int 1201), (8, 8, q0_, .int x_6), (0, 0, a0_, .ref q0_), (0, 1, a0_, .ref q1_), (0, 2, a0_, .ref q2_), (5, 1, q1_, .ref q3_)]) rfl (fun fr_20 H locs hp hMr_20 g => ?_)
      refine lv_aload_n hx hb dX0_readSize_56 rfl (lv_at hl 2 rfl) ?_
      refine g_getk (C := RX0) (T := TX0) (N := 14) hx hb hts (mc_ inX0) hown hK g rfl 1 (by decide) rfl (hts _ (List.mem_cons_of_mem _ t_374)) (fun _ h9 => h9) 3 rfl dX0_readSize_57 ?_
      refine g_getk (C := RX5) (T := TX5) (N := 9) hx hb hts (mc_ inX5) hown hK g rfl 1 (by decide) rfl (hts _ (List.mem_cons_of_mem _ t_332)) (fun _ h9 => h9) 5 rfl dX0_readSize_60 ?_
      refine lv_iload_n hx hb dX0_readSize_63 rfl (lv_at hl 0 rfl) ?_
      refine g_calli (va_runV (As := [.int r_16]) (rest := []) ⟨hx, hb, hml, hown, hts⟩ (r_X9_isRow l dC dI L kd tys fr_20 H.size g.2.2.2.1 q3_ mq3_ kq3_ r_16) (cwV 1 hts (gV_ t_1256 t_1257 t_1258 t_192 t_1259) rfl rfl rfl (by decide +kernel) ⟨(Nat.le_of_ble_eq_true rfl), (Nat.le_of_ble_eq_true rfl)⟩) (pre3V g hK mq3_ kq3_ (by decide) (q := (RX9, TX9, 13)) rfl) rfl rfl hl.1 rfl (lv_room (Nat.le_of_ble_eq_true rfl)) dX0_readSize_64 ⟨(Nat.le_of_ble_eq_true rfl), (Nat.le_of_ble_eq_true rfl)⟩) g hK (by decide) (by decide) (fx' := [(8, 6, q0_, .int 1201), (8, 8, q0_, .int x_6), (0, 0, a0_, .ref q0_), (0, 1, a0_, .ref q1_), (0, 2, a0_, .ref q2_), (5, 1, q1_, .ref q3_)]) rfl (fun r_21 fr_21 H locs hp hMr_21 g => ?_)
      rcases hp with ⟨h_22, -⟩ | ⟨h_23, h_24, x_25, h_26, hF_27⟩
      · obtain rfl : r_21 = 0 := h_22
        refine lv_if_ne (tgt := 80) hx hb dX0_readSize_67 (by decide) (fun c_ => absurd c_ (by decide)) (fun c_ => ?_)
        refine lv_aload_n hx hb dX0_readSize_70 rfl (lv_at hl 2 rfl) ?_
        refine g_getk (C := RX0) (T := TX0) (N := 14) hx hb hts (mc_ inX0) hown hK g rfl 0 (by decide) rfl (hts _ (List.mem_cons_of_mem _ t_373)) (fun _ h9 => h9) 2 rfl dX0_readSize_71 ?_
        refine lv_iconst (v := 5) hx hb dX0_readSize_74 (by decide) ?_
        refine lv_iload_n hx hb dX0_readSize_75 rfl (lv_at hl 1 rfl) ?_
        have kb_5 : bd 5 5 (5 : Int32) := ⟨by decide, by decide⟩
        refine g_callv (va_runV (As := [.int 5, .int r_14]) (rest := []) ⟨hx, hb, hml, hown, hts⟩ (r_X8_fail_9 l dC dI L kd tys fr_21 H.size g.2.2.2.1 q0_ mq0_ kq0_ 5 kb_5 r_14 x_6 h_7 (g.fcts [1] rfl)) (cwV 2 hts (gV_ t_1215 t_1107 t_1108 t_184 t_1109) rfl rfl rfl (by decide +kernel) ⟨(Nat.le_of_ble_eq_true rfl), (Nat.le_of_ble_eq_true rfl)⟩) (pre3V g hK mq0_ kq0_ (by decide) (q := (RX8, TX8, 10)) rfl) rfl rfl hl.1 rfl (lv_room (Nat.le_of_ble_eq_true rfl)) dX0_readSize_76 ⟨(Nat.le_of_ble_eq_true rfl), (Nat.le_of_ble_eq_true rfl)⟩) g hK (by decide) (by decide) (fx' := [(8, 8, q0_, .int x_6), (0, 0, a0_, .ref q0_), (0, 1, a0_, .ref q1_), (0, 2, a0_, .ref q2_), (5, 1, q1_, .ref q3_)]) rfl (fun fr_28 H locs hp hMr_28 g => ?_)
        have hF_29 := hp
        have g := g.more hF_29
        subst hQ
        exact W.vret hx hb hr (fun t ht hW => ⟨⟨_, rfl, Or.inl ⟨1201, kb_1201, x_6, h_7, (g.fcts [0, 1] rfl)⟩, q3_of g hK ht hW⟩, g.2.2.1.F ht⟩) g.2.2.1.2.2 dX0_readSize_79
      · obtain rfl : r_21 = 1 := h_23
        have b_30 : bd 0 9 r_16 := eqX rfl b_19 h_24 (by decide)
        have g := g.more hF_27
        refine lv_if_ne (tgt := 80) hx hb dX0_readSize_67 (by decide) (fun c_ => ?_) (fun c_ => absurd c_ (by decide))
        refine lv_aload_n hx hb dX0_readSize_80 rfl (lv_at hl 2 rfl) ?_
        refine g_getk (C := RX0) (T := TX0) (N := 14) hx hb hts (mc_ inX0) hown hK g rfl 0 (by decide) rfl (hts _ (List.mem_cons_of_mem _ t_373)) (fun _ h9 => h9) 3 rfl dX0_readSize_81 ?_
        refine lv_bipush (v := 41) hx hb dX0_readSize_84 (by decide) ?_
        refine g_callv (va_runV (As := [.int 41]) (rest := []) ⟨hx, hb, hml, hown, hts⟩ (r_X8_take_2 l dC dI L kd tys fr_21 H.size g.2.2.2.1 q0_ mq0_ kq0_ 41 1201 kb_1201 x_6 h_7 (g.fcts [1, 2] rfl)) (cwV 1 hts (gV_ t_1284 t_1099 t_1100 t_184 t_1101) rfl rfl rfl (by decide +kernel) ⟨(Nat.le_of_ble_eq_true rfl), (Nat.le_of_ble_eq_true rfl)⟩) (pre3V g hK mq0_ kq0_ (by decide) (q := (RX8, TX8, 10)) rfl) rfl rfl hl.1 rfl (lv_room (Nat.le_of_ble_eq_true rfl)) dX0_readSize_86 ⟨(Nat.le_of_ble_eq_true rfl), (Nat.le_of_ble_eq_true rfl)⟩) g hK (by decide) (by decide) (fx' := [(9, 2, q3_, .int x_25), (8, 8, q0_, .int x_6), (0, 0, a0_, .ref q0_), (0, 1, a0_, .ref q1_), (0, 2, a0_, .ref q2_), (5, 1, q1_, .ref q3_)]) rfl (fun fr_31 H locs hp hMr_31 g => ?_)
        obtain ⟨x_32, h_33, hF_34⟩ := hp
        have g := g.more hF_34
        refine lv_aload_n hx hb dX0_readSize_89 rfl (lv_at hl 2 rfl) ?_
        refine g_getk (C := RX0) (T := TX0) (N := 14) hx hb hts (mc_ inX0) hown hK g rfl 2 (by decide) rfl (hts _ (List.mem_cons_of_mem _ t_375)) (fun _ h9 => h9) 5 rfl dX0_readSize_90 ?_
        refine lv_iconst (v := 1) hx hb dX0_readSize_93 (by decide) ?_
        refine lv_aload_n hx hb dX0_readSize_94 rfl (lv_at hl 2 rfl) ?_
        refine g_getk (C := RX0) (T := TX0) (N := 14) hx hb hts (mc_ inX0) hown hK g rfl 1 (by decide) rfl (hts _ (List.mem_cons_of_mem _ t_374)) (fun _ h9 => h9) 4 rfl dX0_readSize_95 ?_
        refine g_getk (C := RX5) (T := TX5) (N := 9) hx hb hts (mc_ inX5) hown hK g rfl 1 (by decide) rfl (hts _ (List.mem_cons_of_mem _ t_332)) (fun _ h9 => h9) 6 rfl dX0_readSize_98 ?_
        refine g_getr (K := 154) (C := RX9) (T := TX9) (N := 13) hx hb hts (mc_ inX9) hown hK g mq3_ kq3_ (by decide) rfl 5 (by decide) rfl (hts _ (List.mem_cons_of_mem _ t_491)) (fun _ h9 => h9) rfl dX0_readSize_101 (fun a_35 ma_35 ka_35 g => ?_)
        refine lv_iload_n hx hb dX0_readSize_104 rfl (lv_at hl 0 rfl) ?_
        refine g_iald hx hb hK g ma_35 ka_35 (by decide) rfl (in_bd b_30 (by decide)) dX0_readSize_105 (fun x_36 bx_36 cx_36 => ?_)
        refine g_callv (va_runV (As := [.int 1, .int x_36]) (rest := []) ⟨hx, hb, hml, hown, hts⟩ (r_X7_emit l dC dI L kd tys fr_31 H.size g.2.2.2.1 q2_ mq2_ kq2_ 1 x_36) (cwV 2 hts (gV_ t_1203 t_1204 t_1205 t_191 t_1206) rfl rfl rfl (by decide +kernel) ⟨(Nat.le_of_ble_eq_true rfl), (Nat.le_of_ble_eq_true rfl)⟩) (pre3V g hK mq2_ kq2_ (by decide) (q := (RX7, TX7, 19)) rfl) rfl rfl hl.1 rfl (lv_room (Nat.le_of_ble_eq_true rfl)) dX0_readSize_106 ⟨(Nat.le_of_ble_eq_true rfl), (Nat.le_of_ble_eq_true rfl)⟩) g hK (by decide) (by decide) (fx' := [(9, 5, q3_, .ref a_35), (8, 6, q0_, .int x_32), (9, 2, q3_, .int x_25), (8, 8, q0_, .int x_6), (0, 0, a0_, .ref q0_), (0, 1, a0_, .ref q1_), (0, 2, a0_, .ref q2_), (5, 1, q1_, .ref q3_)]) rfl (fun fr_37 H locs hp hMr_37 g => ?_)
        obtain ⟨x_38, h_39, hF_40⟩ := hp
        have g := g.more hF_40
        refine lv_aload_n hx hb dX0_readSize_109 rfl (lv_at hl 2 rfl) ?_
        refine g_getk (C := RX0) (T := TX0) (N := 14) hx hb hts (mc_ inX0) hown hK g rfl 2 (by decide) rfl (hts _ (List.mem_cons_of_mem _ t_375)) (fun _ h9 => h9) 7 rfl dX0_readSize_110 ?_
        refine lv_dup hx hb dX0_readSize_113 rfl ?_
        refine g_geti (C := RX7) (T := TX7) (N := 19) hx hb hts (mc_ inX7) hown hK g mq2_ kq2_ (by decide) rfl 18 (by decide) rfl (hts _ (List.mem_cons_of_mem _ t_681)) (fun _ h9 => h9) rfl dX0_readSize_114 (fun x_41 bx_41 g => ?_)
        refine lv_iconst (v := 1) hx hb dX0_readSize_117 (by decide) ?_
        have kb_1 : bd 1 1 (1 : Int32) := ⟨by decide, by decide⟩
        refine lv_iadd hx hb dX0_readSize_118 ?_
        refine lv_topi (fun y_42 ey_42 => ?_)
        refine g_put (C := RX7) (T := TX7) (N := 19) hx hb hts (mc_ inX7) tyX7 tyX7_ok nmX7 hown hK g mq2_ kq2_ (by decide) rfl 18 (by decide) (hts _ (List.mem_cons_of_mem _ t_681)) (fun _ h9 => h9) rfl rfl (okV_i (bdT y_42)) rfl rfl (by decide) (Or.inr (Or.inl (by decide))) (fx' := [(7, 6, q2_, .int x_38), (9, 5, q3_, .ref a_35), (8, 6, q0_, .int x_32), (9, 2, q3_, .int x_25), (8, 8, q0_, .int x_6), (0, 0, a0_, .ref q0_), (0, 1, a0_, .ref q1_), (0, 2, a0_, .ref q2_), (5, 1, q1_, .ref q3_)]) rfl dX0_readSize_119 (fun f H locs hM_43 g => ?_)
        refine lv_aload_n hx hb dX0_readSize_122 rfl (lv_at hl 2 rfl) ?_
        refine lv_iconst (v := 1) hx hb dX0_readSize_123 (by decide) ?_
        refine g_callv (va_runV (As := [.int 1]) (rest := []) ⟨hx, hb, hml, hown, hts⟩ (r_X0_addWhole l dC dI L kd tys f H.size g.2.2.2.1 a0_ ma0_ ka0_ 1) (cwV 1 hts (gV_ t_1211 t_1213 t_17 t_190 t_1214) rfl rfl rfl (by decide +kernel) ⟨(Nat.le_of_ble_eq_true rfl), (Nat.le_of_ble_eq_true rfl)⟩) (pre3V g hK ma0_ ka0_ (by decide) (q := (RX0, TX0, 14)) rfl) rfl rfl hl.1 rfl (lv_room (Nat.le_of_ble_eq_true rfl)) dX0_readSize_124 ⟨(Nat.le_of_ble_eq_true rfl), (Nat.le_of_ble_eq_true rfl)⟩) g hK (by decide) (by decide) (fx' := [(7, 18, q2_, .int y_42), (7, 6, q2_, .int x_38), (9, 5, q3_, .ref a_35), (8, 6, q0_, .int x_32), (9, 2, q3_, .int x_25), (8, 8, q0_, .int x_6), (0, 0, a0_, .ref q0_), (0, 1, a0_, .ref q1_), (0, 2, a0_, .ref q2_), (5, 1, q1_, .ref q3_)]) rfl (fun fr_44 H locs hp hMr_44 g => ?_)
        obtain ⟨x_45, h_46, hF_47⟩ := hp
        have g := g.more hF_47
        subst hQ
        exact W.vret hx hb hr (fun t ht hW => ⟨⟨_, rfl, Or.inl ⟨x_32, h_33, x_6, h_7, (g.fcts [5, 7] rfl)⟩, q3_of g hK ht hW⟩, g.2.2.1.F ht⟩) g.2.2.1.2.2 dX0_readSize_127
    · have fc_18 := eq_f c_18
      have b_48 : bd (-1) (-1) r_16 := eqX fc_18 h_17 kb_m1 (by decide)
      refine lv_aload_n hx hb dX0_readSize_39 rfl (lv_at hl 2 rfl) ?_
      refine g_getk (C := RX0) (T := TX0) (N := 14) hx hb hts (mc_ inX0) hown hK g rfl 0 (by decide) rfl (hts _ (List.mem_cons_of_mem _ t_373)) (fun _ h9 => h9) 2 rfl dX0_readSize_40 ?_
      refine lv_iconst (v := 2) hx hb dX0_readSize_43 (by decide) ?_
      refine lv_iload_n hx hb dX0_readSize_44 rfl (lv_at hl 1 rfl) ?_
      have kb_2 : bd 2 2 (2 : Int32) := ⟨by decide, by decide⟩
      refine g_callv (va_runV (As := [.int 2, .int r_14]) (rest := []) ⟨hx, hb, hml, hown, hts⟩ (r_X8_fail_10 l dC dI L kd tys fr_16 H.size g.2.2.2.1 q0_ mq0_ kq0_ 2 kb_2 r_14 x_6 h_7 (g.fcts [1] rfl)) (cwV 2 hts (gV_ t_1215 t_1107 t_1108 t_184 t_1109) rfl rfl rfl (by decide +kernel) ⟨(Nat.le_of_ble_eq_true rfl), (Nat.le_of_ble_eq_true rfl)⟩) (pre3V g hK mq0_ kq0_ (by decide) (q := (RX8, TX8, 10)) rfl) rfl rfl hl.1 rfl (lv_room (Nat.le_of_ble_eq_true rfl)) dX0_readSize_45 ⟨(Nat.le_of_ble_eq_true rfl), (Nat.le_of_ble_eq_true rfl)⟩) g hK (by decide) (by decide) (fx' := [(8, 8, q0_, .int x_6), (0, 0, a0_, .ref q0_), (0, 1, a0_, .ref q1_), (0, 2, a0_, .ref q2_), (5, 1, q1_, .ref q3_)]) rfl (fun fr_49 H locs hp hMr_49 g => ?_)
      have hF_50 := hp
      have g := g.more hF_50
      have kb_1201 : bd 1201 1201 (1201 : Int32) := ⟨by decide, by decide⟩
      subst hQ
      exact W.vret hx hb hr (fun t ht hW => ⟨⟨_, rfl, Or.inl ⟨1201, kb_1201, x_6, h_7, (g.fcts [0, 1] rfl)⟩, q3_of g hK ht hW⟩, g.2.2.1.F ht⟩) g.2.2.1.2.2 dX0_readSize_48
  · have g := g.more hF_13
    refine lv_aload_n hx hb dX0_readSize_11 rfl (lv_at hl 0 rfl) ?_
    refine g_getk (C := RX0) (T := TX0) (N := 14) hx hb hts (mc_ inX0) hown hK g rfl 0 (by decide) rfl (hts _ (List.mem_cons_of_mem _ t_373)) (fun _ h9 => h9) 2 rfl dX0_readSize_12 ?_
    refine g_calli (va_runV (As := []) (rest := []) ⟨hx, hb, hml, hown, hts⟩ (r_X8_place l dC dI L kd tys fr_5 H.size g.2.2.2.1 q0_ mq0_ kq0_) (cwV 0 hts (gV_ t_1220 t_1111 t_1112 t_184 t_1113) rfl rfl rfl (by decide +kernel) ⟨(Nat.le_of_ble_eq_true rfl), (Nat.le_of_ble_eq_true rfl)⟩) (pre3V g hK mq0_ kq0_ (by decide) (q := (RX8, TX8, 10)) rfl) rfl rfl hl.1 rfl (lv_room (Nat.le_of_ble_eq_true rfl)) dX0_readSize_15 ⟨(Nat.le_of_ble_eq_true rfl), (Nat.le_of_ble_eq_true rfl)⟩) g hK (by decide) (by decide) (fx' := [(8, 6, q0_, .int x_9), (0, 11, a0_, .int x_11), (0, 0, a0_, .ref q0_), (0, 1, a0_, .ref q1_), (0, 2, a0_, .ref q2_), (5, 1, q1_, .ref q3_)]) rfl (fun r_51 fr_51 H locs hp hMr_51 g => ?_)
    refine lv_istore_n (lv' := [(1, .int r_51), (0, .ref a0_)]) hx hb dX0_readSize_18 rfl hl (by decide) rfl (fun ls hl => ?_)
    refine lv_aload_n hx hb dX0_readSize_19 rfl (lv_at hl 1 rfl) ?_
    refine g_getk (C := RX0) (T := TX0) (N := 14) hx hb hts (mc_ inX0) hown hK g rfl 1 (by decide) rfl (hts _ (List.mem_cons_of_mem _ t_374)) (fun _ h9 => h9) 3 rfl dX0_readSize_20 ?_
    refine lv_aload_n hx hb dX0_readSize_23 rfl (lv_at hl 1 rfl) ?_
    refine g_getk (C := RX0) (T := TX0) (N := 14) hx hb hts (mc_ inX0) hown hK g rfl 0 (by decide) rfl (hts _ (List.mem_cons_of_mem _ t_373)) (fun _ h9 => h9) 2 rfl dX0_readSize_24 ?_
    refine g_calll (va_runV (As := []) (rest := [.ref q1_]) ⟨hx, hb, hml, hown, hts⟩ (r_X8_value l dC dI L kd tys fr_51 H.size g.2.2.2.1 q0_ mq0_ kq0_) (cwV 0 hts (gV_ t_1238 t_1115 t_1116 t_184 t_1117) rfl rfl rfl (by decide +kernel) ⟨(Nat.le_of_ble_eq_true rfl), (Nat.le_of_ble_eq_true rfl)⟩) (pre3V g hK mq0_ kq0_ (by decide) (q := (RX8, TX8, 10)) rfl) rfl rfl hl.1 rfl (lv_room (Nat.le_of_ble_eq_true rfl)) dX0_readSize_27 ⟨(Nat.le_of_ble_eq_true rfl), (Nat.le_of_ble_eq_true rfl)⟩) g hK (by decide) (by decide) (fx' := [(8, 6, q0_, .int x_9), (0, 11, a0_, .int x_11), (0, 0, a0_, .ref q0_), (0, 1, a0_, .ref q1_), (0, 2, a0_, .ref q2_), (5, 1, q1_, .ref q3_)]) rfl (fun r_52 fr_52 H locs hp hMr_52 g => ?_)
    refine g_calli (va_runV (As := [.long r_52]) (rest := []) ⟨hx, hb, hml, hown, hts⟩ (r_X5_placeNamed l dC dI L kd tys fr_52 H.size g.2.2.2.1 q1_ mq1_ kq1_ r_52 q3_ mq3_ kq3_ (g.fcts [5] rfl)) (cwV 1 hts (gV_ t_1251 t_1252 t_1253 t_189 t_1254) rfl rfl rfl (by decide +kernel) ⟨(Nat.le_of_ble_eq_true rfl), (Nat.le_of_ble_eq_true rfl)⟩) (pre3V g hK mq1_ kq1_ (by decide) (q := (RX5, TX5, 9)) rfl) rfl rfl hl.1 rfl (lv_room (Nat.le_of_ble_eq_true rfl)) dX0_readSize_30 ⟨(Nat.le_of_ble_eq_true rfl), (Nat.le_of_ble_eq_true rfl)⟩) g hK (by decide) (by decide) (fx' := [(8, 6, q0_, .int x_9), (0, 11, a0_, .int x_11), (0, 0, a0_, .ref q0_), (0, 1, a0_, .ref q1_), (0, 2, a0_, .ref q2_), (5, 1, q1_, .ref q3_)]) rfl (fun r_53 fr_53 H locs hp hMr_53 g => ?_)
    obtain ⟨h_54, -⟩ := hp
    refine lv_istore_n (lv' := [(2, .int r_53), (1, .int r_51), (0, .ref a0_)]) hx hb dX0_readSize_33 rfl hl (by decide) rfl (fun ls hl => ?_)
    refine lv_iload_n hx hb dX0_readSize_34 rfl (lv_at hl 0 rfl) ?_
    refine lv_iconst (v := (-1)) hx hb dX0_readSize_35 (by decide) ?_
    have kb_m1 : bd (-1) (-1) ((-1) : Int32) := ⟨by decide, by decide⟩
    refine lv_icmp_ne (tgt := 49) hx hb dX0_readSize_36 (by decide) (fun c_55 => ?_) (fun c_55 => ?_)
    · have fc_55 := neq_f c_55
      have b_56 : bd 0 26 r_53 := neX fc_55 h_54 kb_m1 (by decide)
      refine lv_aload_n hx hb dX0_readSize_49 rfl (lv_at hl 2 rfl) ?_
      refine g_getk (C := RX0) (T := TX0) (N := 14) hx hb hts (mc_ inX0) hown hK g rfl 0 (by decide) rfl (hts _ (List.mem_cons_of_mem _ t_373)) (fun _ h9 => h9) 2 rfl dX0_readSize_50 ?_
      refine g_callv (va_runV (As := []) (rest := []) ⟨hx, hb, hml, hown, hts⟩ (r_X8_next l dC dI L kd tys fr_53 H.size g.2.2.2.1 q0_ mq0_ kq0_) (cwV 0 hts (gV_ t_1225 t_1103 t_1104 t_184 t_1105) rfl rfl rfl (by decide +kernel) ⟨(Nat.le_of_ble_eq_true rfl), (Nat.le_of_ble_eq_true rfl)⟩) (pre3V g hK mq0_ kq0_ (by decide) (q := (RX8, TX8, 10)) rfl) rfl rfl hl.1 rfl (lv_room (Nat.le_of_ble_eq_true rfl)) dX0_readSize_53 ⟨(Nat.le_of_ble_eq_true rfl), (Nat.le_of_ble_eq_true rfl)⟩) g hK (by decide) (by decide) (fx' := [(0, 11, a0_, .int x_11), (0, 0, a0_, .ref q0_), (0, 1, a0_, .ref q1_), (0, 2, a0_, .ref q2_), (5, 1, q1_, .ref q3_)]) rfl (fun fr_57 H locs hp hMr_57 g => ?_)
      obtain ⟨x_58, h_59, hF_60⟩ := hp
      have g := g.more hF_60
      refine lv_aload_n hx hb dX0_readSize_56 rfl (lv_at hl 2 rfl) ?_
      refine g_getk (C := RX0) (T := TX0) (N := 14) hx hb hts (mc_ inX0) hown hK g rfl 1 (by decide) rfl (hts _ (List.mem_cons_of_mem _ t_374)) (fun _ h9 => h9) 3 rfl dX0_readSize_57 ?_
      refine g_getk (C := RX5) (T := TX5) (N := 9) hx hb hts (mc_ inX5) hown hK g rfl 1 (by decide) rfl (hts _ (List.mem_cons_of_mem _ t_332)) (fun _ h9 => h9) 5 rfl dX0_readSize_60 ?_
      refine lv_iload_n hx hb dX0_readSize_63 rfl (lv_at hl 0 rfl) ?_
      refine g_calli (va_runV (As := [.int r_53]) (rest := []) ⟨hx, hb, hml, hown, hts⟩ (r_X9_isRow l dC dI L kd tys fr_57 H.size g.2.2.2.1 q3_ mq3_ kq3_ r_53) (cwV 1 hts (gV_ t_1256 t_1257 t_1258 t_192 t_1259) rfl rfl rfl (by decide +kernel) ⟨(Nat.le_of_ble_eq_true rfl), (Nat.le_of_ble_eq_true rfl)⟩) (pre3V g hK mq3_ kq3_ (by decide) (q := (RX9, TX9, 13)) rfl) rfl rfl hl.1 rfl (lv_room (Nat.le_of_ble_eq_true rfl)) dX0_readSize_64 ⟨(Nat.le_of_ble_eq_true rfl), (Nat.le_of_ble_eq_true rfl)⟩) g hK (by decide) (by decide) (fx' := [(8, 6, q0_, .int x_58), (0, 11, a0_, .int x_11), (0, 0, a0_, .ref q0_), (0, 1, a0_, .ref q1_), (0, 2, a0_, .ref q2_), (5, 1, q1_, .ref q3_)]) rfl (fun r_61 fr_61 H locs hp hMr_61 g => ?_)
      rcases hp with ⟨h_62, -⟩ | ⟨h_63, h_64, x_65, h_66, hF_67⟩
      · obtain rfl : r_61 = 0 := h_62
        refine lv_if_ne (tgt := 80) hx hb dX0_readSize_67 (by decide) (fun c_ => absurd c_ (by decide)) (fun c_ => ?_)
        refine lv_aload_n hx hb dX0_readSize_70 rfl (lv_at hl 2 rfl) ?_
        refine g_getk (C := RX0) (T := TX0) (N := 14) hx hb hts (mc_ inX0) hown hK g rfl 0 (by decide) rfl (hts _ (List.mem_cons_of_mem _ t_373)) (fun _ h9 => h9) 2 rfl dX0_readSize_71 ?_
        refine lv_iconst (v := 5) hx hb dX0_readSize_74 (by decide) ?_
        refine lv_iload_n hx hb dX0_readSize_75 rfl (lv_at hl 1 rfl) ?_
        have kb_5 : bd 5 5 (5 : Int32) := ⟨by decide, by decide⟩
        refine g_callv (va_runV (As := [.int 5, .int r_51]) (rest := []) ⟨hx, hb, hml, hown, hts⟩ (r_X8_fail_2 l dC dI L kd tys fr_61 H.size g.2.2.2.1 q0_ mq0_ kq0_ 5 kb_5 r_51) (cwV 2 hts (gV_ t_1215 t_1107 t_1108 t_184 t_1109) rfl rfl rfl (by decide +kernel) ⟨(Nat.le_of_ble_eq_true rfl), (Nat.le_of_ble_eq_true rfl)⟩) (pre3V g hK mq0_ kq0_ (by decide) (q := (RX8, TX8, 10)) rfl) rfl rfl hl.1 rfl (lv_room (Nat.le_of_ble_eq_true rfl)) dX0_readSize_76 ⟨(Nat.le_of_ble_eq_true rfl), (Nat.le_of_ble_eq_true rfl)⟩) g hK (by decide) (by decide) (fx' := [(0, 11, a0_, .int x_11), (0, 0, a0_, .ref q0_), (0, 1, a0_, .ref q1_), (0, 2, a0_, .ref q2_), (5, 1, q1_, .ref q3_)]) rfl (fun fr_68 H locs hp hMr_68 g => ?_)
        obtain ⟨x_69, h_70, hF_71⟩ := hp
        have g := g.more hF_71
        have kb_1201 : bd 1201 1201 (1201 : Int32) := ⟨by decide, by decide⟩
        subst hQ
        exact W.vret hx hb hr (fun t ht hW => ⟨⟨_, rfl, Or.inl ⟨1201, kb_1201, x_69, h_70, (g.fcts [0, 1] rfl)⟩, q3_of g hK ht hW⟩, g.2.2.1.F ht⟩) g.2.2.1.2.2 dX0_readSize_79
      · obtain rfl : r_61 = 1 := h_63
        have b_72 : bd 0 9 r_53 := eqX rfl b_56 h_64 (by decide)
        have g := g.more hF_67
        refine lv_if_ne (tgt := 80) hx hb dX0_readSize_67 (by decide) (fun c_ => ?_) (fun c_ => absurd c_ (by decide))
        refine lv_aload_n hx hb dX0_readSize_80 rfl (lv_at hl 2 rfl) ?_
        refine g_getk (C := RX0) (T := TX0) (N := 14) hx hb hts (mc_ inX0) hown hK g rfl 0 (by decide) rfl (hts _ (List.mem_cons_of_mem _ t_373)) (fun _ h9 => h9) 3 rfl dX0_readSize_81 ?_
        refine lv_bipush (v := 41) hx hb dX0_readSize_84 (by decide) ?_
        refine g_callv (va_runV (As := [.int 41]) (rest := []) ⟨hx, hb, hml, hown, hts⟩ (r_X8_take l dC dI L kd tys fr_61 H.size g.2.2.2.1 q0_ mq0_ kq0_ 41) (cwV 1 hts (gV_ t_1284 t_1099 t_1100 t_184 t_1101) rfl rfl rfl (by decide +kernel) ⟨(Nat.le_of_ble_eq_true rfl), (Nat.le_of_ble_eq_true rfl)⟩) (pre3V g hK mq0_ kq0_ (by decide) (q := (RX8, TX8, 10)) rfl) rfl rfl hl.1 rfl (lv_room (Nat.le_of_ble_eq_true rfl)) dX0_readSize_86 ⟨(Nat.le_of_ble_eq_true rfl), (Nat.le_of_ble_eq_true rfl)⟩) g hK (by decide) (by decide) (fx' := [(9, 2, q3_, .int x_65), (0, 11, a0_, .int x_11), (0, 0, a0_, .ref q0_), (0, 1, a0_, .ref q1_), (0, 2, a0_, .ref q2_), (5, 1, q1_, .ref q3_)]) rfl (fun fr_73 H locs hp hMr_73 g => ?_)
        rcases hp with ⟨x_74, h_75, hF_76⟩ | ⟨x_77, h_78, hF_79⟩
        · have g := g.more hF_76
          refine lv_aload_n hx hb dX0_readSize_89 rfl (lv_at hl 2 rfl) ?_
          refine g_getk (C := RX0) (T := TX0) (N := 14) hx hb hts (mc_ inX0) hown hK g rfl 2 (by decide) rfl (hts _ (List.mem_cons_of_mem _ t_375)) (fun _ h9 => h9) 6 rfl dX0_readSize_90 ?_
          refine lv_iconst (v := 1) hx hb dX0_readSize_93 (by decide) ?_
          refine lv_aload_n hx hb dX0_readSize_94 rfl (lv_at hl 2 rfl) ?_
          refine g_getk (C := RX0) (T := TX0) (N := 14) hx hb hts (mc_ inX0) hown hK g rfl 1 (by decide) rfl (hts _ (List.mem_cons_of_mem _ t_374)) (fun _ h9 => h9) 5 rfl dX0_readSize_95 ?_
          refine g_getk (C := RX5) (T := TX5) (N := 9) hx hb hts (mc_ inX5) hown hK g rfl 1 (by decide) rfl (hts _ (List.mem_cons_of_mem _ t_332)) (fun _ h9 => h9) 7 rfl dX0_readSize_98 ?_
          refine g_getr (K := 154) (C := RX9) (T := TX9) (N := 13) hx hb hts (mc_ inX9) hown hK g mq3_ kq3_ (by decide) rfl 5 (by decide) rfl (hts _ (List.mem_cons_of_mem _ t_491)) (fun _ h9 => h9) rfl dX0_readSize_101 (fun a_80 ma_80 ka_80 g => ?_)
          refine lv_iload_n hx hb dX0_readSize_104 rfl (lv_at hl 0 rfl) ?_
          refine g_iald hx hb hK g ma_80 ka_80 (by decide) rfl (in_bd b_72 (by decide)) dX0_readSize_105 (fun x_81 bx_81 cx_81 => ?_)
          refine g_callv (va_runV (As := [.int 1, .int x_81]) (rest := []) ⟨hx, hb, hml, hown, hts⟩ (r_X7_emit l dC dI L kd tys fr_73 H.size g.2.2.2.1 q2_ mq2_ kq2_ 1 x_81) (cwV 2 hts (gV_ t_1203 t_1204 t_1205 t_191 t_1206) rfl rfl rfl (by decide +kernel) ⟨(Nat.le_of_ble_eq_true rfl), (Nat.le_of_ble_eq_true rfl)⟩) (pre3V g hK mq2_ kq2_ (by decide) (q := (RX7, TX7, 19)) rfl) rfl rfl hl.1 rfl (lv_room (Nat.le_of_ble_eq_true rfl)) dX0_readSize_106 ⟨(Nat.le_of_ble_eq_true rfl), (Nat.le_of_ble_eq_true rfl)⟩) g hK (by decide) (by decide) (fx' := [(9, 5, q3_, .ref a_80), (8, 6, q0_, .int 1201), (8, 8, q0_, .int x_74), (9, 2, q3_, .int x_65), (0, 11, a0_, .int x_11), (0, 0, a0_, .ref q0_), (0, 1, a0_, .ref q1_), (0, 2, a0_, .ref q2_), (5, 1, q1_, .ref q3_)]) rfl (fun fr_82 H locs hp hMr_82 g => ?_)
          obtain ⟨x_83, h_84, hF_85⟩ := hp
          have g := g.more hF_85
          refine lv_aload_n hx hb dX0_readSize_109 rfl (lv_at hl 2 rfl) ?_
          refine g_getk (C := RX0) (T := TX0) (N := 14) hx hb hts (mc_ inX0) hown hK g rfl 2 (by decide) rfl (hts _ (List.mem_cons_of_mem _ t_375)) (fun _ h9 => h9) 8 rfl dX0_readSize_110 ?_
          refine lv_dup hx hb dX0_readSize_113 rfl ?_
          refine g_geti (C := RX7) (T := TX7) (N := 19) hx hb hts (mc_ inX7) hown hK g mq2_ kq2_ (by decide) rfl 18 (by decide) rfl (hts _ (List.mem_cons_of_mem _ t_681)) (fun _ h9 => h9) rfl dX0_readSize_114 (fun x_86 bx_86 g => ?_)
          refine lv_iconst (v := 1) hx hb dX0_readSize_117 (by decide) ?_
          have kb_1 : bd 1 1 (1 : Int32) := ⟨by decide, by decide⟩
          refine lv_iadd hx hb dX0_readSize_118 ?_
          refine lv_topi (fun y_87 ey_87 => ?_)
          refine g_put (C := RX7) (T := TX7) (N := 19) hx hb hts (mc_ inX7) tyX7 tyX7_ok nmX7 hown hK g mq2_ kq2_ (by decide) rfl 18 (by decide) (hts _ (List.mem_cons_of_mem _ t_681)) (fun _ h9 => h9) rfl rfl (okV_i (bdT y_87)) rfl rfl (by decide) (Or.inr (Or.inl (by decide))) (fx' := [(7, 6, q2_, .int x_83), (9, 5, q3_, .ref a_80), (8, 6, q0_, .int 1201), (8, 8, q0_, .int x_74), (9, 2, q3_, .int x_65), (0, 11, a0_, .int x_11), (0, 0, a0_, .ref q0_), (0, 1, a0_, .ref q1_), (0, 2, a0_, .ref q2_), (5, 1, q1_, .ref q3_)]) rfl dX0_readSize_119 (fun f H locs hM_88 g => ?_)
          refine lv_aload_n hx hb dX0_readSize_122 rfl (lv_at hl 2 rfl) ?_
          refine lv_iconst (v := 1) hx hb dX0_readSize_123 (by decide) ?_
          refine g_callv (va_runV (As := [.int 1]) (rest := []) ⟨hx, hb, hml, hown, hts⟩ (r_X0_addWhole l dC dI L kd tys f H.size g.2.2.2.1 a0_ ma0_ ka0_ 1) (cwV 1 hts (gV_ t_1211 t_1213 t_17 t_190 t_1214) rfl rfl rfl (by decide +kernel) ⟨(Nat.le_of_ble_eq_true rfl), (Nat.le_of_ble_eq_true rfl)⟩) (pre3V g hK ma0_ ka0_ (by decide) (q := (RX0, TX0, 14)) rfl) rfl rfl hl.1 rfl (lv_room (Nat.le_of_ble_eq_true rfl)) dX0_readSize_124 ⟨(Nat.le_of_ble_eq_true rfl), (Nat.le_of_ble_eq_true rfl)⟩) g hK (by decide) (by decide) (fx' := [(7, 18, q2_, .int y_87), (7, 6, q2_, .int x_83), (9, 5, q3_, .ref a_80), (8, 6, q0_, .int 1201), (8, 8, q0_, .int x_74), (9, 2, q3_, .int x_65), (0, 11, a0_, .int x_11), (0, 0, a0_, .ref q0_), (0, 1, a0_, .ref q1_), (0, 2, a0_, .ref q2_), (5, 1, q1_, .ref q3_)]) rfl (fun fr_89 H locs hp hMr_89 g => ?_)
          obtain ⟨x_90, h_91, hF_92⟩ := hp
          have g := g.more hF_92
          have kb_1201 : bd 1201 1201 (1201 : Int32) := ⟨by decide, by decide⟩
          subst hQ
          exact W.vret hx hb hr (fun t ht hW => ⟨⟨_, rfl, Or.inl ⟨1201, kb_1201, x_74, h_75, (g.fcts [5, 6] rfl)⟩, q3_of g hK ht hW⟩, g.2.2.1.F ht⟩) g.2.2.1.2.2 dX0_readSize_127
        · have g := g.more hF_79
          refine lv_aload_n hx hb dX0_readSize_89 rfl (lv_at hl 2 rfl) ?_
          refine g_getk (C := RX0) (T := TX0) (N := 14) hx hb hts (mc_ inX0) hown hK g rfl 2 (by decide) rfl (hts _ (List.mem_cons_of_mem _ t_375)) (fun _ h9 => h9) 5 rfl dX0_readSize_90 ?_
          refine lv_iconst (v := 1) hx hb dX0_readSize_93 (by decide) ?_
          refine lv_aload_n hx hb dX0_readSize_94 rfl (lv_at hl 2 rfl) ?_
          refine g_getk (C := RX0) (T := TX0) (N := 14) hx hb hts (mc_ inX0) hown hK g rfl 1 (by decide) rfl (hts _ (List.mem_cons_of_mem _ t_374)) (fun _ h9 => h9) 4 rfl dX0_readSize_95 ?_
          refine g_getk (C := RX5) (T := TX5) (N := 9) hx hb hts (mc_ inX5) hown hK g rfl 1 (by decide) rfl (hts _ (List.mem_cons_of_mem _ t_332)) (fun _ h9 => h9) 6 rfl dX0_readSize_98 ?_
          refine g_getr (K := 154) (C := RX9) (T := TX9) (N := 13) hx hb hts (mc_ inX9) hown hK g mq3_ kq3_ (by decide) rfl 5 (by decide) rfl (hts _ (List.mem_cons_of_mem _ t_491)) (fun _ h9 => h9) rfl dX0_readSize_101 (fun a_93 ma_93 ka_93 g => ?_)
          refine lv_iload_n hx hb dX0_readSize_104 rfl (lv_at hl 0 rfl) ?_
          refine g_iald hx hb hK g ma_93 ka_93 (by decide) rfl (in_bd b_72 (by decide)) dX0_readSize_105 (fun x_94 bx_94 cx_94 => ?_)
          refine g_callv (va_runV (As := [.int 1, .int x_94]) (rest := []) ⟨hx, hb, hml, hown, hts⟩ (r_X7_emit l dC dI L kd tys fr_73 H.size g.2.2.2.1 q2_ mq2_ kq2_ 1 x_94) (cwV 2 hts (gV_ t_1203 t_1204 t_1205 t_191 t_1206) rfl rfl rfl (by decide +kernel) ⟨(Nat.le_of_ble_eq_true rfl), (Nat.le_of_ble_eq_true rfl)⟩) (pre3V g hK mq2_ kq2_ (by decide) (q := (RX7, TX7, 19)) rfl) rfl rfl hl.1 rfl (lv_room (Nat.le_of_ble_eq_true rfl)) dX0_readSize_106 ⟨(Nat.le_of_ble_eq_true rfl), (Nat.le_of_ble_eq_true rfl)⟩) g hK (by decide) (by decide) (fx' := [(9, 5, q3_, .ref a_93), (8, 6, q0_, .int x_77), (9, 2, q3_, .int x_65), (0, 11, a0_, .int x_11), (0, 0, a0_, .ref q0_), (0, 1, a0_, .ref q1_), (0, 2, a0_, .ref q2_), (5, 1, q1_, .ref q3_)]) rfl (fun fr_95 H locs hp hMr_95 g => ?_)
          obtain ⟨x_96, h_97, hF_98⟩ := hp
          have g := g.more hF_98
          refine lv_aload_n hx hb dX0_readSize_109 rfl (lv_at hl 2 rfl) ?_
          refine g_getk (C := RX0) (T := TX0) (N := 14) hx hb hts (mc_ inX0) hown hK g rfl 2 (by decide) rfl (hts _ (List.mem_cons_of_mem _ t_375)) (fun _ h9 => h9) 7 rfl dX0_readSize_110 ?_
          refine lv_dup hx hb dX0_readSize_113 rfl ?_
          refine g_geti (C := RX7) (T := TX7) (N := 19) hx hb hts (mc_ inX7) hown hK g mq2_ kq2_ (by decide) rfl 18 (by decide) rfl (hts _ (List.mem_cons_of_mem _ t_681)) (fun _ h9 => h9) rfl dX0_readSize_114 (fun x_99 bx_99 g => ?_)
          refine lv_iconst (v := 1) hx hb dX0_readSize_117 (by decide) ?_
          have kb_1 : bd 1 1 (1 : Int32) := ⟨by decide, by decide⟩
          refine lv_iadd hx hb dX0_readSize_118 ?_
          refine lv_topi (fun y_100 ey_100 => ?_)
          refine g_put (C := RX7) (T := TX7) (N := 19) hx hb hts (mc_ inX7) tyX7 tyX7_ok nmX7 hown hK g mq2_ kq2_ (by decide) rfl 18 (by decide) (hts _ (List.mem_cons_of_mem _ t_681)) (fun _ h9 => h9) rfl rfl (okV_i (bdT y_100)) rfl rfl (by decide) (Or.inr (Or.inl (by decide))) (fx' := [(7, 6, q2_, .int x_96), (9, 5, q3_, .ref a_93), (8, 6, q0_, .int x_77), (9, 2, q3_, .int x_65), (0, 11, a0_, .int x_11), (0, 0, a0_, .ref q0_), (0, 1, a0_, .ref q1_), (0, 2, a0_, .ref q2_), (5, 1, q1_, .ref q3_)]) rfl dX0_readSize_119 (fun f H locs hM_101 g => ?_)
          refine lv_aload_n hx hb dX0_readSize_122 rfl (lv_at hl 2 rfl) ?_
          refine lv_iconst (v := 1) hx hb dX0_readSize_123 (by decide) ?_
          refine g_callv (va_runV (As := [.int 1]) (rest := []) ⟨hx, hb, hml, hown, hts⟩ (r_X0_addWhole l dC dI L kd tys f H.size g.2.2.2.1 a0_ ma0_ ka0_ 1) (cwV 1 hts (gV_ t_1211 t_1213 t_17 t_190 t_1214) rfl rfl rfl (by decide +kernel) ⟨(Nat.le_of_ble_eq_true rfl), (Nat.le_of_ble_eq_true rfl)⟩) (pre3V g hK ma0_ ka0_ (by decide) (q := (RX0, TX0, 14)) rfl) rfl rfl hl.1 rfl (lv_room (Nat.le_of_ble_eq_true rfl)) dX0_readSize_124 ⟨(Nat.le_of_ble_eq_true rfl), (Nat.le_of_ble_eq_true rfl)⟩) g hK (by decide) (by decide) (fx' := [(7, 18, q2_, .int y_100), (7, 6, q2_, .int x_96), (9, 5, q3_, .ref a_93), (8, 6, q0_, .int x_77), (9, 2, q3_, .int x_65), (0, 11, a0_, .int x_11), (0, 0, a0_, .ref q0_), (0, 1, a0_, .ref q1_), (0, 2, a0_, .ref q2_), (5, 1, q1_, .ref q3_)]) rfl (fun fr_102 H locs hp hMr_102 g => ?_)
          obtain ⟨x_103, h_104, hF_105⟩ := hp
          have g := g.more hF_105
          subst hQ
          exact W.vret hx hb hr (fun t ht hW => ⟨⟨_, rfl, Or.inr (⟨x_103, h_104, x_96, h_97, x_77, h_78, x_65, h_66, x_11, h_12, (g.fcts [0, 1, 3, 5, 6, 7] rfl)⟩), q3_of g hK ht hW⟩, g.2.2.1.F ht⟩) g.2.2.1.2.2 dX0_readSize_127
    · have fc_55 := eq_f c_55
      have b_106 : bd (-1) (-1) r_53 := eqX fc_55 h_54 kb_m1 (by decide)
      refine lv_aload_n hx hb dX0_readSize_39 rfl (lv_at hl 2 rfl) ?_
      refine g_getk (C := RX0) (T := TX0) (N := 14) hx hb hts (mc_ inX0) hown hK g rfl 0 (by decide) rfl (hts _ (List.mem_cons_of_mem _ t_373)) (fun _ h9 => h9) 2 rfl dX0_readSize_40 ?_
      refine lv_iconst (v := 2) hx hb dX0_readSize_43 (by decide) ?_
      refine lv_iload_n hx hb dX0_readSize_44 rfl (lv_at hl 1 rfl) ?_
      have kb_2 : bd 2 2 (2 : Int32) := ⟨by decide, by decide⟩
      refine g_callv (va_runV (As := [.int 2, .int r_51]) (rest := []) ⟨hx, hb, hml, hown, hts⟩ (r_X8_fail_3 l dC dI L kd tys fr_53 H.size g.2.2.2.1 q0_ mq0_ kq0_ 2 kb_2 r_51) (cwV 2 hts (gV_ t_1215 t_1107 t_1108 t_184 t_1109) rfl rfl rfl (by decide +kernel) ⟨(Nat.le_of_ble_eq_true rfl), (Nat.le_of_ble_eq_true rfl)⟩) (pre3V g hK mq0_ kq0_ (by decide) (q := (RX8, TX8, 10)) rfl) rfl rfl hl.1 rfl (lv_room (Nat.le_of_ble_eq_true rfl)) dX0_readSize_45 ⟨(Nat.le_of_ble_eq_true rfl), (Nat.le_of_ble_eq_true rfl)⟩) g hK (by decide) (by decide) (fx' := [(0, 11, a0_, .int x_11), (0, 0, a0_, .ref q0_), (0, 1, a0_, .ref q1_), (0, 2, a0_, .ref q2_), (5, 1, q1_, .ref q3_)]) rfl (fun fr_107 H locs hp hMr_107 g => ?_)
      obtain ⟨x_108, h_109, hF_110⟩ := hp
      have g := g.more hF_110
      have kb_1201 : bd 1201 1201 (1201 : Int32) := ⟨by decide, by decide⟩
      subst hQ
      exact W.vret hx hb hr (fun t ht hW => ⟨⟨_, rfl, Or.inl ⟨1201, kb_1201, x_108, h_109, (g.fcts [0, 1] rfl)⟩, q3_of g hK ht hW⟩, g.2.2.1.F ht⟩) g.2.2.1.2.2 dX0_readSize_48
set_option maxHeartbeats 4000000 in
set_option maxRecDepth 100000 in
theorem r_X0_readOld (l : Launch) (dC : Nat → ClassId) (dI : Nat → Nat → Nat) (L : List Nat) (kd : Nat → Nat) (tys : List (ClassId × FieldType)) (f0 : Nat → va_E) (sz : Nat) (hWT : WT L kd tys f0) (a0_ : Nat) (ma0_ : a0_ ∈ L) (ka0_ : kd a0_ = 0) (q0_ : Nat) (mq0_ : q0_ ∈ L) (kq0_ : kd q0_ = 8) (q1_ : Nat) (mq1_ : q1_ ∈ L) (kq1_ : kd q1_ = 5) (q2_ : Nat) (mq2_ : q2_ ∈ L) (kq2_ : kd q2_ = 7) (q3_ : Nat) (mq3_ : q3_ ∈ L) (kq3_ : kd q3_ = 9) (hfx : Fs L kd f0 [(0, 0, a0_, .ref q0_), (0, 1, a0_, .ref q1_), (0, 2, a0_, .ref q2_), (5, 1, q1_, .ref q3_)]) : Met l yX0_readOld (.code yX0_readOld cX0_readOld 5 none :: lw_g) ({ frames := 2, cells := 0, slots := 0, locals := 46 }) (va_Pc [.ref a0_] (P3 (dC, dI) L tys f0 sz)) (va_Qv (fun (f : Nat → va_E) => (∃ z0_ : Int32, bd 1201 1201 z0_ ∧ ∃ z1_ : Int32, bd 1 7 z1_ ∧ Fs L kd f [(8, 6, q0_, .int z0_), (8, 8, q0_, .int z1_)]) ∨ (∃ z0_ : Int32, bd 1 1201 z0_ ∧ ∃ z1_ : Int32, bd (-2147483648) 40 z1_ ∧ Fs L kd f [(8, 6, q0_, .int z0_), (0, 11, a0_, .int z1_)])) (Q3 (dC, dI) L kd tys [(0, 8), (0, 10), (0, 11), (0, 12), (7, 6), (7, 18), (8, 6), (8, 8), (8, 9)] [110, 111, 112, 113, 114, 115, 138, 139] f0 sz) (pA L sz)) 0 0 (pA L sz) := by
  refine Met.ofW (cc := cX0_readOld) (maxL := 5) (ret := none) (by decide) rfl ?_
  intro p e s m args below meth c s₁ B hml hv
  obtain ⟨rfl, hsz, hP, hK, hD0⟩ := hv
  have hx := B.exec
  have hb := B.bytes
  have hr := B.returns
  have hts := atoms_spec (ws := (.code yX0_readOld cX0_readOld 5 none :: lw_g)) B.pre
  have hown : s.vm.findClass RX0 = some m.cls := findClass_of_methodNamed B.named
  have hlocks := B.notSynchronized
  subst hsz
  have g : G3 (dC, dI) L kd tys s f0 [(0, 8), (0, 10), (0, 11), (0, 12), (7, 6), (7, 18), (8, 6), (8, 8), (8, 9)] [110, 111, 112, 113, 114, 115, 138, 139] f0 s.heap [] [(0, 0, a0_, .ref q0_), (0, 1, a0_, .ref q1_), (0, 2, a0_, .ref q2_), (5, 1, q1_, .ref q3_)] := G3.start hP hD0 hWT hfx
  have hl := lv_entry ([.ref a0_]) (n := 5) (Nat.le_of_ble_eq_true rfl)
  rw [lg_entry_eq]
  generalize (lg_sl ([.ref a0_]) ++ List.replicate (5 - (lg_sl ([.ref a0_])).length) Slot.unset).toArray = ls at hl ⊢
  have hl : lv_has ls 5 [(0, .ref a0_)] := hl
  refine W_q (fun Q hQ => ?_)
  refine lv_aload_n hx hb dX0_readOld_0 rfl (lv_at hl 0 rfl) ?_
  refine g_getk (C := RX0) (T := TX0) (N := 14) hx hb hts (mc_ inX0) hown hK g rfl 0 (by decide) rfl (hts _ (List.mem_cons_of_mem _ t_373)) (fun _ h9 => h9) 0 rfl dX0_readOld_1 ?_
  refine g_calli (va_runV (As := []) (rest := []) ⟨hx, hb, hml, hown, hts⟩ (r_X8_place l dC dI L kd tys f0 s.heap.size g.2.2.2.1 q0_ mq0_ kq0_) (cwV 0 hts (gV_ t_1220 t_1111 t_1112 t_184 t_1113) rfl rfl rfl (by decide +kernel) ⟨(Nat.le_of_ble_eq_true rfl), (Nat.le_of_ble_eq_true rfl)⟩) (pre3V g hK mq0_ kq0_ (by decide) (q := (RX8, TX8, 10)) rfl) rfl rfl hl.1 rfl (lv_room (Nat.le_of_ble_eq_true rfl)) dX0_readOld_4 ⟨(Nat.le_of_ble_eq_true rfl), (Nat.le_of_ble_eq_true rfl)⟩) g hK (by decide) (by decide) (fx' := [(0, 0, a0_, .ref q0_), (0, 1, a0_, .ref q1_), (0, 2, a0_, .ref q2_), (5, 1, q1_, .ref q3_)]) rfl (fun r_1 fr_1 H locs hp hMr_1 g => ?_)
  refine lv_istore_n (lv' := [(1, .int r_1), (0, .ref a0_)]) hx hb dX0_readOld_7 rfl hl (by decide) rfl (fun ls hl => ?_)
  refine lv_aload_n hx hb dX0_readOld_8 rfl (lv_at hl 1 rfl) ?_
  refine g_getk (C := RX0) (T := TX0) (N := 14) hx hb hts (mc_ inX0) hown hK g rfl 0 (by decide) rfl (hts _ (List.mem_cons_of_mem _ t_373)) (fun _ h9 => h9) 0 rfl dX0_readOld_9 ?_
  refine g_callv (va_runV (As := []) (rest := []) ⟨hx, hb, hml, hown, hts⟩ (r_X8_next l dC dI L kd tys fr_1 H.size g.2.2.2.1 q0_ mq0_ kq0_) (cwV 0 hts (gV_ t_1225 t_1103 t_1104 t_184 t_1105) rfl rfl rfl (by decide +kernel) ⟨(Nat.le_of_ble_eq_true rfl), (Nat.le_of_ble_eq_true rfl)⟩) (pre3V g hK mq0_ kq0_ (by decide) (q := (RX8, TX8, 10)) rfl) rfl rfl hl.1 rfl (lv_room (Nat.le_of_ble_eq_true rfl)) dX0_readOld_12 ⟨(Nat.le_of_ble_eq_true rfl), (Nat.le_of_ble_eq_true rfl)⟩) g hK (by decide) (by decide) (fx' := [(0, 0, a0_, .ref q0_), (0, 1, a0_, .ref q1_), (0, 2, a0_, .ref q2_), (5, 1, q1_, .ref q3_)]) rfl (fun fr_2 H locs hp hMr_2 g => ?_)
  obtain ⟨x_3, h_4, hF_5⟩ := hp
  have g := g.more hF_5
  refine lv_aload_n hx hb dX0_readOld_15 rfl (lv_at hl 1 rfl) ?_
  refine g_callv (va_runV (As := []) (rest := []) ⟨hx, hb, hml, hown, hts⟩ (r_X0_takeBracket l dC dI L kd tys fr_2 H.size g.2.2.2.1 a0_ ma0_ ka0_ q0_ mq0_ kq0_ (g.fcts [1] rfl)) (cwV 0 hts (gV_ t_1289 t_1291 t_29 t_190 t_1292) rfl rfl rfl (by decide +kernel) ⟨(Nat.le_of_ble_eq_true rfl), (Nat.le_of_ble_eq_true rfl)⟩) (pre3V g hK ma0_ ka0_ (by decide) (q := (RX0, TX0, 14)) rfl) rfl rfl hl.1 rfl (lv_room (Nat.le_of_ble_eq_true rfl)) dX0_readOld_16 ⟨(Nat.le_of_ble_eq_true rfl), (Nat.le_of_ble_eq_true rfl)⟩) g hK (by decide) (by decide) (fx' := [(0, 0, a0_, .ref q0_), (0, 1, a0_, .ref q1_), (0, 2, a0_, .ref q2_), (5, 1, q1_, .ref q3_)]) rfl (fun fr_6 H locs hp hMr_6 g => ?_)
  rcases hp with ⟨x_7, h_8, hF_9⟩ | ⟨x_10, h_11, x_12, h_13, hF_14⟩
  · have g := g.more hF_9
    refine lv_aload_n hx hb dX0_readOld_19 rfl (lv_at hl 1 rfl) ?_
    refine g_getk (C := RX0) (T := TX0) (N := 14) hx hb hts (mc_ inX0) hown hK g rfl 0 (by decide) rfl (hts _ (List.mem_cons_of_mem _ t_373)) (fun _ h9 => h9) 2 rfl dX0_readOld_20 ?_
    refine g_calli (va_runV (As := []) (rest := []) ⟨hx, hb, hml, hown, hts⟩ (r_X8_place l dC dI L kd tys fr_6 H.size g.2.2.2.1 q0_ mq0_ kq0_) (cwV 0 hts (gV_ t_1220 t_1111 t_1112 t_184 t_1113) rfl rfl rfl (by decide +kernel) ⟨(Nat.le_of_ble_eq_true rfl), (Nat.le_of_ble_eq_true rfl)⟩) (pre3V g hK mq0_ kq0_ (by decide) (q := (RX8, TX8, 10)) rfl) rfl rfl hl.1 rfl (lv_room (Nat.le_of_ble_eq_true rfl)) dX0_readOld_23 ⟨(Nat.le_of_ble_eq_true rfl), (Nat.le_of_ble_eq_true rfl)⟩) g hK (by decide) (by decide) (fx' := [(8, 6, q0_, .int 1201), (8, 8, q0_, .int x_7), (0, 0, a0_, .ref q0_), (0, 1, a0_, .ref q1_), (0, 2, a0_, .ref q2_), (5, 1, q1_, .ref q3_)]) rfl (fun r_15 fr_15 H locs hp hMr_15 g => ?_)
    refine lv_istore_n (lv' := [(2, .int r_15), (1, .int r_1), (0, .ref a0_)]) hx hb dX0_readOld_26 rfl hl (by decide) rfl (fun ls hl => ?_)
    refine lv_aload_n hx hb dX0_readOld_27 rfl (lv_at hl 2 rfl) ?_
    refine g_getk (C := RX0) (T := TX0) (N := 14) hx hb hts (mc_ inX0) hown hK g rfl 1 (by decide) rfl (hts _ (List.mem_cons_of_mem _ t_374)) (fun _ h9 => h9) 3 rfl dX0_readOld_28 ?_
    refine lv_aload_n hx hb dX0_readOld_31 rfl (lv_at hl 2 rfl) ?_
    refine g_getk (C := RX0) (T := TX0) (N := 14) hx hb hts (mc_ inX0) hown hK g rfl 0 (by decide) rfl (hts _ (List.mem_cons_of_mem _ t_373)) (fun _ h9 => h9) 2 rfl dX0_readOld_32 ?_
    refine g_calll (va_runV (As := []) (rest := [.ref q1_]) ⟨hx, hb, hml, hown, hts⟩ (r_X8_value l dC dI L kd tys fr_15 H.size g.2.2.2.1 q0_ mq0_ kq0_) (cwV 0 hts (gV_ t_1238 t_1115 t_1116 t_184 t_1117) rfl rfl rfl (by decide +kernel) ⟨(Nat.le_of_ble_eq_true rfl), (Nat.le_of_ble_eq_true rfl)⟩) (pre3V g hK mq0_ kq0_ (by decide) (q := (RX8, TX8, 10)) rfl) rfl rfl hl.1 rfl (lv_room (Nat.le_of_ble_eq_true rfl)) dX0_readOld_35 ⟨(Nat.le_of_ble_eq_true rfl), (Nat.le_of_ble_eq_true rfl)⟩) g hK (by decide) (by decide) (fx' := [(8, 6, q0_, .int 1201), (8, 8, q0_, .int x_7), (0, 0, a0_, .ref q0_), (0, 1, a0_, .ref q1_), (0, 2, a0_, .ref q2_), (5, 1, q1_, .ref q3_)]) rfl (fun r_16 fr_16 H locs hp hMr_16 g => ?_)
    refine g_calli (va_runV (As := [.long r_16]) (rest := []) ⟨hx, hb, hml, hown, hts⟩ (r_X5_placeNamed l dC dI L kd tys fr_16 H.size g.2.2.2.1 q1_ mq1_ kq1_ r_16 q3_ mq3_ kq3_ (g.fcts [5] rfl)) (cwV 1 hts (gV_ t_1251 t_1252 t_1253 t_189 t_1254) rfl rfl rfl (by decide +kernel) ⟨(Nat.le_of_ble_eq_true rfl), (Nat.le_of_ble_eq_true rfl)⟩) (pre3V g hK mq1_ kq1_ (by decide) (q := (RX5, TX5, 9)) rfl) rfl rfl hl.1 rfl (lv_room (Nat.le_of_ble_eq_true rfl)) dX0_readOld_38 ⟨(Nat.le_of_ble_eq_true rfl), (Nat.le_of_ble_eq_true rfl)⟩) g hK (by decide) (by decide) (fx' := [(8, 6, q0_, .int 1201), (8, 8, q0_, .int x_7), (0, 0, a0_, .ref q0_), (0, 1, a0_, .ref q1_), (0, 2, a0_, .ref q2_), (5, 1, q1_, .ref q3_)]) rfl (fun r_17 fr_17 H locs hp hMr_17 g => ?_)
    obtain ⟨h_18, -⟩ := hp
    refine lv_istore_n (lv' := [(3, .int r_17), (2, .int r_15), (1, .int r_1), (0, .ref a0_)]) hx hb dX0_readOld_41 rfl hl (by decide) rfl (fun ls hl => ?_)
    refine lv_aload_n hx hb dX0_readOld_42 rfl (lv_at hl 3 rfl) ?_
    refine g_getk (C := RX0) (T := TX0) (N := 14) hx hb hts (mc_ inX0) hown hK g rfl 0 (by decide) rfl (hts _ (List.mem_cons_of_mem _ t_373)) (fun _ h9 => h9) 2 rfl dX0_readOld_43 ?_
    have kb_1201 : bd 1201 1201 (1201 : Int32) := ⟨by decide, by decide⟩
    refine g_callv (va_runV (As := []) (rest := []) ⟨hx, hb, hml, hown, hts⟩ (r_X8_next_2 l dC dI L kd tys fr_17 H.size g.2.2.2.1 q0_ mq0_ kq0_ 1201 kb_1201 (g.fcts [0] rfl)) (cwV 0 hts (gV_ t_1225 t_1103 t_1104 t_184 t_1105) rfl rfl rfl (by decide +kernel) ⟨(Nat.le_of_ble_eq_true rfl), (Nat.le_of_ble_eq_true rfl)⟩) (pre3V g hK mq0_ kq0_ (by decide) (q := (RX8, TX8, 10)) rfl) rfl rfl hl.1 rfl (lv_room (Nat.le_of_ble_eq_true rfl)) dX0_readOld_46 ⟨(Nat.le_of_ble_eq_true rfl), (Nat.le_of_ble_eq_true rfl)⟩) g hK (by decide) (by decide) (fx' := [(8, 6, q0_, .int 1201), (8, 8, q0_, .int x_7), (0, 0, a0_, .ref q0_), (0, 1, a0_, .ref q1_), (0, 2, a0_, .ref q2_), (5, 1, q1_, .ref q3_)]) rfl (fun fr_19 H locs hp hMr_19 g => ?_)
    refine lv_iload_n hx hb dX0_readOld_49 rfl (lv_at hl 0 rfl) ?_
    refine lv_iconst (v := (-1)) hx hb dX0_readOld_50 (by decide) ?_
    have kb_m1 : bd (-1) (-1) ((-1) : Int32) := ⟨by decide, by decide⟩
    refine lv_icmp_ne (tgt := 64) hx hb dX0_readOld_51 (by decide) (fun c_20 => ?_) (fun c_20 => ?_)
    · have fc_20 := neq_f c_20
      have b_21 : bd 0 26 r_17 := neX fc_20 h_18 kb_m1 (by decide)
      refine lv_aload_n hx hb dX0_readOld_64 rfl (lv_at hl 3 rfl) ?_
      refine g_getk (C := RX0) (T := TX0) (N := 14) hx hb hts (mc_ inX0) hown hK g rfl 1 (by decide) rfl (hts _ (List.mem_cons_of_mem _ t_374)) (fun _ h9 => h9) 3 rfl dX0_readOld_65 ?_
      refine g_getk (C := RX5) (T := TX5) (N := 9) hx hb hts (mc_ inX5) hown hK g rfl 1 (by decide) rfl (hts _ (List.mem_cons_of_mem _ t_332)) (fun _ h9 => h9) 5 rfl dX0_readOld_68 ?_
      refine lv_iload_n hx hb dX0_readOld_71 rfl (lv_at hl 0 rfl) ?_
      refine g_calli (va_runV (As := [.int r_17]) (rest := []) ⟨hx, hb, hml, hown, hts⟩ (r_X9_isRow l dC dI L kd tys fr_19 H.size g.2.2.2.1 q3_ mq3_ kq3_ r_17) (cwV 1 hts (gV_ t_1256 t_1257 t_1258 t_192 t_1259) rfl rfl rfl (by decide +kernel) ⟨(Nat.le_of_ble_eq_true rfl), (Nat.le_of_ble_eq_true rfl)⟩) (pre3V g hK mq3_ kq3_ (by decide) (q := (RX9, TX9, 13)) rfl) rfl rfl hl.1 rfl (lv_room (Nat.le_of_ble_eq_true rfl)) dX0_readOld_72 ⟨(Nat.le_of_ble_eq_true rfl), (Nat.le_of_ble_eq_true rfl)⟩) g hK (by decide) (by decide) (fx' := [(8, 6, q0_, .int 1201), (8, 8, q0_, .int x_7), (0, 0, a0_, .ref q0_), (0, 1, a0_, .ref q1_), (0, 2, a0_, .ref q2_), (5, 1, q1_, .ref q3_)]) rfl (fun r_22 fr_22 H locs hp hMr_22 g => ?_)
      rcases hp with ⟨h_23, -⟩ | ⟨h_24, h_25, x_26, h_27, hF_28⟩
      · obtain rfl : r_22 = 0 := h_23
        refine lv_istore (lv' := [(4, .int 0), (3, .int r_17), (2, .int r_15), (1, .int r_1), (0, .ref a0_)]) hx hb dX0_readOld_75 hl (by decide) rfl (fun ls hl => ?_)
        refine lv_iload_n hx hb dX0_readOld_77 rfl (lv_at hl 1 rfl) ?_
        refine lv_bipush (v := 16) hx hb dX0_readOld_78 (by decide) ?_
        have kb_16 : bd 16 16 (16 : Int32) := ⟨by decide, by decide⟩
        refine lv_icmp_ge (tgt := 105) hx hb dX0_readOld_80 (by decide) (fun c_29 => ?_) (fun c_29 => ?_)
        · have fc_29 := le_f c_29
          have b_30 : bd 16 26 r_17 := leR fc_29 kb_16 b_21 (by decide)
          refine lv_aload_n hx hb dX0_readOld_105 rfl (lv_at hl 4 rfl) ?_
          refine g_getk (C := RX0) (T := TX0) (N := 14) hx hb hts (mc_ inX0) hown hK g rfl 0 (by decide) rfl (hts _ (List.mem_cons_of_mem _ t_373)) (fun _ h9 => h9) 2 rfl dX0_readOld_106 ?_
          refine lv_iconst (v := 5) hx hb dX0_readOld_109 (by decide) ?_
          refine lv_iload_n hx hb dX0_readOld_110 rfl (lv_at hl 2 rfl) ?_
          have kb_5 : bd 5 5 (5 : Int32) := ⟨by decide, by decide⟩
          refine g_callv (va_runV (As := [.int 5, .int r_15]) (rest := []) ⟨hx, hb, hml, hown, hts⟩ (r_X8_fail_9 l dC dI L kd tys fr_22 H.size g.2.2.2.1 q0_ mq0_ kq0_ 5 kb_5 r_15 x_7 h_8 (g.fcts [1] rfl)) (cwV 2 hts (gV_ t_1215 t_1107 t_1108 t_184 t_1109) rfl rfl rfl (by decide +kernel) ⟨(Nat.le_of_ble_eq_true rfl), (Nat.le_of_ble_eq_true rfl)⟩) (pre3V g hK mq0_ kq0_ (by decide) (q := (RX8, TX8, 10)) rfl) rfl rfl hl.1 rfl (lv_room (Nat.le_of_ble_eq_true rfl)) dX0_readOld_111 ⟨(Nat.le_of_ble_eq_true rfl), (Nat.le_of_ble_eq_true rfl)⟩) g hK (by decide) (by decide) (fx' := [(8, 8, q0_, .int x_7), (0, 0, a0_, .ref q0_), (0, 1, a0_, .ref q1_), (0, 2, a0_, .ref q2_), (5, 1, q1_, .ref q3_)]) rfl (fun fr_31 H locs hp hMr_31 g => ?_)
          have hF_32 := hp
          have g := g.more hF_32
          subst hQ
          exact W.vret hx hb hr (fun t ht hW => ⟨⟨_, rfl, Or.inl ⟨1201, kb_1201, x_7, h_8, (g.fcts [0, 1] rfl)⟩, q3_of g hK ht hW⟩, g.2.2.1.F ht⟩) g.2.2.1.2.2 dX0_readOld_114
        · have fc_29 := nle_f c_29
          have b_33 : bd 0 15 r_17 := ltL fc_29 b_21 kb_16 (by decide)
          refine lv_iload hx hb dX0_readOld_83 (lv_at hl 0 rfl) ?_
          refine lv_aload_n hx hb dX0_readOld_85 rfl (lv_at hl 4 rfl) ?_
          refine g_getk (C := RX0) (T := TX0) (N := 14) hx hb hts (mc_ inX0) hown hK g rfl 0 (by decide) rfl (hts _ (List.mem_cons_of_mem _ t_373)) (fun _ h9 => h9) 2 rfl dX0_readOld_86 ?_
          refine g_calli (va_runV (As := []) (rest := [.int 0]) ⟨hx, hb, hml, hown, hts⟩ (r_X8_kind_2 l dC dI L kd tys fr_22 H.size g.2.2.2.1 q0_ mq0_ kq0_ 1201 kb_1201 (g.fcts [0] rfl)) (cwV 0 hts (gV_ t_1186 t_1119 t_1120 t_184 t_1121) rfl rfl rfl (by decide +kernel) ⟨(Nat.le_of_ble_eq_true rfl), (Nat.le_of_ble_eq_true rfl)⟩) (pre3V g hK mq0_ kq0_ (by decide) (q := (RX8, TX8, 10)) rfl) rfl rfl hl.1 rfl (lv_room (Nat.le_of_ble_eq_true rfl)) dX0_readOld_89 ⟨(Nat.le_of_ble_eq_true rfl), (Nat.le_of_ble_eq_true rfl)⟩) g hK (by decide) (by decide) (fx' := [(8, 6, q0_, .int 1201), (8, 8, q0_, .int x_7), (0, 0, a0_, .ref q0_), (0, 1, a0_, .ref q1_), (0, 2, a0_, .ref q2_), (5, 1, q1_, .ref q3_)]) rfl (fun r_34 fr_34 H locs hp hMr_34 g => ?_)
          obtain ⟨h_35, -⟩ := hp
          obtain rfl : r_34 = 0 := h_35
          refine lv_bipush (v := 91) hx hb dX0_readOld_92 (by decide) ?_
          refine lv_icmp_ne (tgt := 101) hx hb dX0_readOld_94 (by decide) (fun c_ => ?_) (fun c_ => absurd c_ (by decide))
          refine lv_iconst (v := 0) hx hb dX0_readOld_101 (by decide) ?_
          refine lv_icmp_eq (tgt := 115) hx hb dX0_readOld_102 (by decide) (fun c_ => ?_) (fun c_ => absurd (by decide) c_)
          refine lv_aload_n hx hb dX0_readOld_115 rfl (lv_at hl 4 rfl) ?_
          refine g_getk (C := RX0) (T := TX0) (N := 14) hx hb hts (mc_ inX0) hown hK g rfl 2 (by decide) rfl (hts _ (List.mem_cons_of_mem _ t_375)) (fun _ h9 => h9) 4 rfl dX0_readOld_116 ?_
          refine lv_dup hx hb dX0_readOld_119 rfl ?_
          refine g_geti (C := RX7) (T := TX7) (N := 19) hx hb hts (mc_ inX7) hown hK g mq2_ kq2_ (by decide) rfl 18 (by decide) rfl (hts _ (List.mem_cons_of_mem _ t_681)) (fun _ h9 => h9) rfl dX0_readOld_120 (fun x_36 bx_36 g => ?_)
          refine lv_iconst (v := 2) hx hb dX0_readOld_123 (by decide) ?_
          have kb_2 : bd 2 2 (2 : Int32) := ⟨by decide, by decide⟩
          refine lv_iadd hx hb dX0_readOld_124 ?_
          refine lv_topi (fun y_37 ey_37 => ?_)
          refine g_put (C := RX7) (T := TX7) (N := 19) hx hb hts (mc_ inX7) tyX7 tyX7_ok nmX7 hown hK g mq2_ kq2_ (by decide) rfl 18 (by decide) (hts _ (List.mem_cons_of_mem _ t_681)) (fun _ h9 => h9) rfl rfl (okV_i (bdT y_37)) rfl rfl (by decide) (Or.inr (Or.inl (by decide))) (fx' := [(8, 6, q0_, .int 1201), (8, 8, q0_, .int x_7), (0, 0, a0_, .ref q0_), (0, 1, a0_, .ref q1_), (0, 2, a0_, .ref q2_), (5, 1, q1_, .ref q3_)]) rfl dX0_readOld_125 (fun f H locs hM_38 g => ?_)
          refine lv_iload hx hb dX0_readOld_128 (lv_at hl 0 rfl) ?_
          refine lv_if_eq (tgt := 167) hx hb dX0_readOld_130 (by decide) (fun c_ => ?_) (fun c_ => absurd (by decide) c_)
          refine lv_aload_n hx hb dX0_readOld_167 rfl (lv_at hl 4 rfl) ?_
          refine g_getk (C := RX0) (T := TX0) (N := 14) hx hb hts (mc_ inX0) hown hK g rfl 0 (by decide) rfl (hts _ (List.mem_cons_of_mem _ t_373)) (fun _ h9 => h9) 3 rfl dX0_readOld_168 ?_
          refine lv_bipush (v := 41) hx hb dX0_readOld_171 (by decide) ?_
          refine g_callv (va_runV (As := [.int 41]) (rest := []) ⟨hx, hb, hml, hown, hts⟩ (r_X8_take_2 l dC dI L kd tys f H.size g.2.2.2.1 q0_ mq0_ kq0_ 41 1201 kb_1201 x_7 h_8 (g.fcts [1, 2] rfl)) (cwV 1 hts (gV_ t_1284 t_1099 t_1100 t_184 t_1101) rfl rfl rfl (by decide +kernel) ⟨(Nat.le_of_ble_eq_true rfl), (Nat.le_of_ble_eq_true rfl)⟩) (pre3V g hK mq0_ kq0_ (by decide) (q := (RX8, TX8, 10)) rfl) rfl rfl hl.1 rfl (lv_room (Nat.le_of_ble_eq_true rfl)) dX0_readOld_173 ⟨(Nat.le_of_ble_eq_true rfl), (Nat.le_of_ble_eq_true rfl)⟩) g hK (by decide) (by decide) (fx' := [(7, 18, q2_, .int y_37), (8, 8, q0_, .int x_7), (0, 0, a0_, .ref q0_), (0, 1, a0_, .ref q1_), (0, 2, a0_, .ref q2_), (5, 1, q1_, .ref q3_)]) rfl (fun fr_39 H locs hp hMr_39 g => ?_)
          obtain ⟨x_40, h_41, hF_42⟩ := hp
          have g := g.more hF_42
          refine lv_aload_n hx hb dX0_readOld_176 rfl (lv_at hl 4 rfl) ?_
          refine g_getk (C := RX0) (T := TX0) (N := 14) hx hb hts (mc_ inX0) hown hK g rfl 2 (by decide) rfl (hts _ (List.mem_cons_of_mem _ t_375)) (fun _ h9 => h9) 5 rfl dX0_readOld_177 ?_
          refine lv_iconst (v := 4) hx hb dX0_readOld_180 (by decide) ?_
          refine lv_aload_n hx hb dX0_readOld_181 rfl (lv_at hl 4 rfl) ?_
          refine g_getk (C := RX0) (T := TX0) (N := 14) hx hb hts (mc_ inX0) hown hK g rfl 1 (by decide) rfl (hts _ (List.mem_cons_of_mem _ t_374)) (fun _ h9 => h9) 4 rfl dX0_readOld_182 ?_
          refine g_getk (C := RX5) (T := TX5) (N := 9) hx hb hts (mc_ inX5) hown hK g rfl 1 (by decide) rfl (hts _ (List.mem_cons_of_mem _ t_332)) (fun _ h9 => h9) 6 rfl dX0_readOld_185 ?_
          refine lv_iload_n hx hb dX0_readOld_188 rfl (lv_at hl 1 rfl) ?_
          refine g_calli (va_runV (As := [.int r_17]) (rest := [.int 4, .ref q2_]) ⟨hx, hb, hml, hown, hts⟩ (r_X9_spanOf l dC dI L kd tys fr_39 H.size g.2.2.2.1 q3_ mq3_ kq3_ r_17) (cwV 1 hts (gV_ t_1264 t_1265 t_1266 t_192 t_1267) rfl rfl rfl (by decide +kernel) ⟨(Nat.le_of_ble_eq_true rfl), (Nat.le_of_ble_eq_true rfl)⟩) (pre3V g hK mq3_ kq3_ (by decide) (q := (RX9, TX9, 13)) rfl) rfl rfl hl.1 rfl (lv_room (Nat.le_of_ble_eq_true rfl)) dX0_readOld_189 ⟨(Nat.le_of_ble_eq_true rfl), (Nat.le_of_ble_eq_true rfl)⟩) g hK (by decide) (by decide) (fx' := [(8, 6, q0_, .int x_40), (7, 18, q2_, .int y_37), (8, 8, q0_, .int x_7), (0, 0, a0_, .ref q0_), (0, 1, a0_, .ref q1_), (0, 2, a0_, .ref q2_), (5, 1, q1_, .ref q3_)]) rfl (fun r_43 fr_43 H locs hp hMr_43 g => ?_)
          obtain ⟨h_44, -⟩ := hp
          refine g_callv (va_runV (As := [.int 4, .int r_43]) (rest := []) ⟨hx, hb, hml, hown, hts⟩ (r_X7_emit l dC dI L kd tys fr_43 H.size g.2.2.2.1 q2_ mq2_ kq2_ 4 r_43) (cwV 2 hts (gV_ t_1203 t_1204 t_1205 t_191 t_1206) rfl rfl rfl (by decide +kernel) ⟨(Nat.le_of_ble_eq_true rfl), (Nat.le_of_ble_eq_true rfl)⟩) (pre3V g hK mq2_ kq2_ (by decide) (q := (RX7, TX7, 19)) rfl) rfl rfl hl.1 rfl (lv_room (Nat.le_of_ble_eq_true rfl)) dX0_readOld_192 ⟨(Nat.le_of_ble_eq_true rfl), (Nat.le_of_ble_eq_true rfl)⟩) g hK (by decide) (by decide) (fx' := [(8, 6, q0_, .int x_40), (7, 18, q2_, .int y_37), (8, 8, q0_, .int x_7), (0, 0, a0_, .ref q0_), (0, 1, a0_, .ref q1_), (0, 2, a0_, .ref q2_), (5, 1, q1_, .ref q3_)]) rfl (fun fr_45 H locs hp hMr_45 g => ?_)
          obtain ⟨x_46, h_47, hF_48⟩ := hp
          have g := g.more hF_48
          refine lv_aload_n hx hb dX0_readOld_195 rfl (lv_at hl 4 rfl) ?_
          refine lv_iconst (v := 2) hx hb dX0_readOld_196 (by decide) ?_
          refine g_callv (va_runV (As := [.int 2]) (rest := []) ⟨hx, hb, hml, hown, hts⟩ (r_X0_addWhole l dC dI L kd tys fr_45 H.size g.2.2.2.1 a0_ ma0_ ka0_ 2) (cwV 1 hts (gV_ t_1211 t_1213 t_17 t_190 t_1214) rfl rfl rfl (by decide +kernel) ⟨(Nat.le_of_ble_eq_true rfl), (Nat.le_of_ble_eq_true rfl)⟩) (pre3V g hK ma0_ ka0_ (by decide) (q := (RX0, TX0, 14)) rfl) rfl rfl hl.1 rfl (lv_room (Nat.le_of_ble_eq_true rfl)) dX0_readOld_197 ⟨(Nat.le_of_ble_eq_true rfl), (Nat.le_of_ble_eq_true rfl)⟩) g hK (by decide) (by decide) (fx' := [(7, 6, q2_, .int x_46), (8, 6, q0_, .int x_40), (7, 18, q2_, .int y_37), (8, 8, q0_, .int x_7), (0, 0, a0_, .ref q0_), (0, 1, a0_, .ref q1_), (0, 2, a0_, .ref q2_), (5, 1, q1_, .ref q3_)]) rfl (fun fr_49 H locs hp hMr_49 g => ?_)
          obtain ⟨x_50, h_51, hF_52⟩ := hp
          have g := g.more hF_52
          subst hQ
          exact W.vret hx hb hr (fun t ht hW => ⟨⟨_, rfl, Or.inl ⟨x_40, h_41, x_7, h_8, (g.fcts [3, 5] rfl)⟩, q3_of g hK ht hW⟩, g.2.2.1.F ht⟩) g.2.2.1.2.2 dX0_readOld_200
      · obtain rfl : r_22 = 1 := h_24
        have b_53 : bd 0 9 r_17 := eqX rfl b_21 h_25 (by decide)
        have g := g.more hF_28
        refine lv_istore (lv' := [(4, .int 1), (3, .int r_17), (2, .int r_15), (1, .int r_1), (0, .ref a0_)]) hx hb dX0_readOld_75 hl (by decide) rfl (fun ls hl => ?_)
        refine lv_iload_n hx hb dX0_readOld_77 rfl (lv_at hl 1 rfl) ?_
        refine lv_bipush (v := 16) hx hb dX0_readOld_78 (by decide) ?_
        have kb_16 : bd 16 16 (16 : Int32) := ⟨by decide, by decide⟩
        refine lv_icmp_ge (tgt := 105) hx hb dX0_readOld_80 (by decide) (fun c_54 => ?_) (fun c_54 => ?_)
        · have fc_54 := le_f c_54
          have b_55 : bd 16 9 (16 : Int32) := leL fc_54 kb_16 b_53 (by decide)
          exact bd_no (eqX rfl b_55 kb_16 (lo := 16) (hi := 9) (by decide)) (by decide)
        · have fc_54 := nle_f c_54
          refine lv_iload hx hb dX0_readOld_83 (lv_at hl 0 rfl) ?_
          refine lv_aload_n hx hb dX0_readOld_85 rfl (lv_at hl 4 rfl) ?_
          refine g_getk (C := RX0) (T := TX0) (N := 14) hx hb hts (mc_ inX0) hown hK g rfl 0 (by decide) rfl (hts _ (List.mem_cons_of_mem _ t_373)) (fun _ h9 => h9) 3 rfl dX0_readOld_86 ?_
          refine g_calli (va_runV (As := []) (rest := [.int 1]) ⟨hx, hb, hml, hown, hts⟩ (r_X8_kind_2 l dC dI L kd tys fr_22 H.size g.2.2.2.1 q0_ mq0_ kq0_ 1201 kb_1201 (g.fcts [1] rfl)) (cwV 0 hts (gV_ t_1186 t_1119 t_1120 t_184 t_1121) rfl rfl rfl (by decide +kernel) ⟨(Nat.le_of_ble_eq_true rfl), (Nat.le_of_ble_eq_true rfl)⟩) (pre3V g hK mq0_ kq0_ (by decide) (q := (RX8, TX8, 10)) rfl) rfl rfl hl.1 rfl (lv_room (Nat.le_of_ble_eq_true rfl)) dX0_readOld_89 ⟨(Nat.le_of_ble_eq_true rfl), (Nat.le_of_ble_eq_true rfl)⟩) g hK (by decide) (by decide) (fx' := [(9, 2, q3_, .int x_26), (8, 6, q0_, .int 1201), (8, 8, q0_, .int x_7), (0, 0, a0_, .ref q0_), (0, 1, a0_, .ref q1_), (0, 2, a0_, .ref q2_), (5, 1, q1_, .ref q3_)]) rfl (fun r_56 fr_56 H locs hp hMr_56 g => ?_)
          obtain ⟨h_57, -⟩ := hp
          obtain rfl : r_56 = 0 := h_57
          refine lv_bipush (v := 91) hx hb dX0_readOld_92 (by decide) ?_
          refine lv_icmp_ne (tgt := 101) hx hb dX0_readOld_94 (by decide) (fun c_ => ?_) (fun c_ => absurd c_ (by decide))
          refine lv_iconst (v := 0) hx hb dX0_readOld_101 (by decide) ?_
          refine lv_icmp_eq (tgt := 115) hx hb dX0_readOld_102 (by decide) (fun c_ => absurd c_ (by decide)) (fun c_ => ?_)
          refine lv_aload_n hx hb dX0_readOld_105 rfl (lv_at hl 4 rfl) ?_
          refine g_getk (C := RX0) (T := TX0) (N := 14) hx hb hts (mc_ inX0) hown hK g rfl 0 (by decide) rfl (hts _ (List.mem_cons_of_mem _ t_373)) (fun _ h9 => h9) 3 rfl dX0_readOld_106 ?_
          refine lv_iconst (v := 5) hx hb dX0_readOld_109 (by decide) ?_
          refine lv_iload_n hx hb dX0_readOld_110 rfl (lv_at hl 2 rfl) ?_
          have kb_5 : bd 5 5 (5 : Int32) := ⟨by decide, by decide⟩
          refine g_callv (va_runV (As := [.int 5, .int r_15]) (rest := []) ⟨hx, hb, hml, hown, hts⟩ (r_X8_fail_9 l dC dI L kd tys fr_56 H.size g.2.2.2.1 q0_ mq0_ kq0_ 5 kb_5 r_15 x_7 h_8 (g.fcts [2] rfl)) (cwV 2 hts (gV_ t_1215 t_1107 t_1108 t_184 t_1109) rfl rfl rfl (by decide +kernel) ⟨(Nat.le_of_ble_eq_true rfl), (Nat.le_of_ble_eq_true rfl)⟩) (pre3V g hK mq0_ kq0_ (by decide) (q := (RX8, TX8, 10)) rfl) rfl rfl hl.1 rfl (lv_room (Nat.le_of_ble_eq_true rfl)) dX0_readOld_111 ⟨(Nat.le_of_ble_eq_true rfl), (Nat.le_of_ble_eq_true rfl)⟩) g hK (by decide) (by decide) (fx' := [(9, 2, q3_, .int x_26), (8, 8, q0_, .int x_7), (0, 0, a0_, .ref q0_), (0, 1, a0_, .ref q1_), (0, 2, a0_, .ref q2_), (5, 1, q1_, .ref q3_)]) rfl (fun fr_58 H locs hp hMr_58 g => ?_)
          have hF_59 := hp
          have g := g.more hF_59
          subst hQ
          exact W.vret hx hb hr (fun t ht hW => ⟨⟨_, rfl, Or.inl ⟨1201, kb_1201, x_7, h_8, (g.fcts [0, 2] rfl)⟩, q3_of g hK ht hW⟩, g.2.2.1.F ht⟩) g.2.2.1.2.2 dX0_readOld_114
    · have fc_20 := eq_f c_20
      have b_60 : bd (-1) (-1) r_17 := eqX fc_20 h_18 kb_m1 (by decide)
      refine lv_aload_n hx hb dX0_readOld_54 rfl (lv_at hl 3 rfl) ?_
      refine g_getk (C := RX0) (T := TX0) (N := 14) hx hb hts (mc_ inX0) hown hK g rfl 0 (by decide) rfl (hts _ (List.mem_cons_of_mem _ t_373)) (fun _ h9 => h9) 2 rfl dX0_readOld_55 ?_
      refine lv_iconst (v := 2) hx hb dX0_readOld_58 (by decide) ?_
      refine lv_iload_n hx hb dX0_readOld_59 rfl (lv_at hl 1 rfl) ?_
      have kb_2 : bd 2 2 (2 : Int32) := ⟨by decide, by decide⟩
      refine g_callv (va_runV (As := [.int 2, .int r_15]) (rest := []) ⟨hx, hb, hml, hown, hts⟩ (r_X8_fail_10 l dC dI L kd tys fr_19 H.size g.2.2.2.1 q0_ mq0_ kq0_ 2 kb_2 r_15 x_7 h_8 (g.fcts [1] rfl)) (cwV 2 hts (gV_ t_1215 t_1107 t_1108 t_184 t_1109) rfl rfl rfl (by decide +kernel) ⟨(Nat.le_of_ble_eq_true rfl), (Nat.le_of_ble_eq_true rfl)⟩) (pre3V g hK mq0_ kq0_ (by decide) (q := (RX8, TX8, 10)) rfl) rfl rfl hl.1 rfl (lv_room (Nat.le_of_ble_eq_true rfl)) dX0_readOld_60 ⟨(Nat.le_of_ble_eq_true rfl), (Nat.le_of_ble_eq_true rfl)⟩) g hK (by decide) (by decide) (fx' := [(8, 8, q0_, .int x_7), (0, 0, a0_, .ref q0_), (0, 1, a0_, .ref q1_), (0, 2, a0_, .ref q2_), (5, 1, q1_, .ref q3_)]) rfl (fun fr_61 H locs hp hMr_61 g => ?_)
      have hF_62 := hp
      have g := g.more hF_62
      subst hQ
      exact W.vret hx hb hr (fun t ht hW => ⟨⟨_, rfl, Or.inl ⟨1201, kb_1201, x_7, h_8, (g.fcts [0, 1] rfl)⟩, q3_of g hK ht hW⟩, g.2.2.1.F ht⟩) g.2.2.1.2.2 dX0_readOld_63
  · have g := g.more hF_14
    refine lv_aload_n hx hb dX0_readOld_19 rfl (lv_at hl 1 rfl) ?_
    refine g_getk (C := RX0) (T := TX0) (N := 14) hx hb hts (mc_ inX0) hown hK g rfl 0 (by decide) rfl (hts _ (List.mem_cons_of_mem _ t_373)) (fun _ h9 => h9) 2 rfl dX0_readOld_20 ?_
    refine g_calli (va_runV (As := []) (rest := []) ⟨hx, hb, hml, hown, hts⟩ (r_X8_place l dC dI L kd tys fr_6 H.size g.2.2.2.1 q0_ mq0_ kq0_) (cwV 0 hts (gV_ t_1220 t_1111 t_1112 t_184 t_1113) rfl rfl rfl (by decide +kernel) ⟨(Nat.le_of_ble_eq_true rfl), (Nat.le_of_ble_eq_true rfl)⟩) (pre3V g hK mq0_ kq0_ (by decide) (q := (RX8, TX8, 10)) rfl) rfl rfl hl.1 rfl (lv_room (Nat.le_of_ble_eq_true rfl)) dX0_readOld_23 ⟨(Nat.le_of_ble_eq_true rfl), (Nat.le_of_ble_eq_true rfl)⟩) g hK (by decide) (by decide) (fx' := [(8, 6, q0_, .int x_10), (0, 11, a0_, .int x_12), (0, 0, a0_, .ref q0_), (0, 1, a0_, .ref q1_), (0, 2, a0_, .ref q2_), (5, 1, q1_, .ref q3_)]) rfl (fun r_63 fr_63 H locs hp hMr_63 g => ?_)
    refine lv_istore_n (lv' := [(2, .int r_63), (1, .int r_1), (0, .ref a0_)]) hx hb dX0_readOld_26 rfl hl (by decide) rfl (fun ls hl => ?_)
    refine lv_aload_n hx hb dX0_readOld_27 rfl (lv_at hl 2 rfl) ?_
    refine g_getk (C := RX0) (T := TX0) (N := 14) hx hb hts (mc_ inX0) hown hK g rfl 1 (by decide) rfl (hts _ (List.mem_cons_of_mem _ t_374)) (fun _ h9 => h9) 3 rfl dX0_readOld_28 ?_
    refine lv_aload_n hx hb dX0_readOld_31 rfl (lv_at hl 2 rfl) ?_
    refine g_getk (C := RX0) (T := TX0) (N := 14) hx hb hts (mc_ inX0) hown hK g rfl 0 (by decide) rfl (hts _ (List.mem_cons_of_mem _ t_373)) (fun _ h9 => h9) 2 rfl dX0_readOld_32 ?_
    refine g_calll (va_runV (As := []) (rest := [.ref q1_]) ⟨hx, hb, hml, hown, hts⟩ (r_X8_value l dC dI L kd tys fr_63 H.size g.2.2.2.1 q0_ mq0_ kq0_) (cwV 0 hts (gV_ t_1238 t_1115 t_1116 t_184 t_1117) rfl rfl rfl (by decide +kernel) ⟨(Nat.le_of_ble_eq_true rfl), (Nat.le_of_ble_eq_true rfl)⟩) (pre3V g hK mq0_ kq0_ (by decide) (q := (RX8, TX8, 10)) rfl) rfl rfl hl.1 rfl (lv_room (Nat.le_of_ble_eq_true rfl)) dX0_readOld_35 ⟨(Nat.le_of_ble_eq_true rfl), (Nat.le_of_ble_eq_true rfl)⟩) g hK (by decide) (by decide) (fx' := [(8, 6, q0_, .int x_10), (0, 11, a0_, .int x_12), (0, 0, a0_, .ref q0_), (0, 1, a0_, .ref q1_), (0, 2, a0_, .ref q2_), (5, 1, q1_, .ref q3_)]) rfl (fun r_64 fr_64 H locs hp hMr_64 g => ?_)
    refine g_calli (va_runV (As := [.long r_64]) (rest := []) ⟨hx, hb, hml, hown, hts⟩ (r_X5_placeNamed l dC dI L kd tys fr_64 H.size g.2.2.2.1 q1_ mq1_ kq1_ r_64 q3_ mq3_ kq3_ (g.fcts [5] rfl)) (cwV 1 hts (gV_ t_1251 t_1252 t_1253 t_189 t_1254) rfl rfl rfl (by decide +kernel) ⟨(Nat.le_of_ble_eq_true rfl), (Nat.le_of_ble_eq_true rfl)⟩) (pre3V g hK mq1_ kq1_ (by decide) (q := (RX5, TX5, 9)) rfl) rfl rfl hl.1 rfl (lv_room (Nat.le_of_ble_eq_true rfl)) dX0_readOld_38 ⟨(Nat.le_of_ble_eq_true rfl), (Nat.le_of_ble_eq_true rfl)⟩) g hK (by decide) (by decide) (fx' := [(8, 6, q0_, .int x_10), (0, 11, a0_, .int x_12), (0, 0, a0_, .ref q0_), (0, 1, a0_, .ref q1_), (0, 2, a0_, .ref q2_), (5, 1, q1_, .ref q3_)]) rfl (fun r_65 fr_65 H locs hp hMr_65 g => ?_)
    obtain ⟨h_66, -⟩ := hp
    refine lv_istore_n (lv' := [(3, .int r_65), (2, .int r_63), (1, .int r_1), (0, .ref a0_)]) hx hb dX0_readOld_41 rfl hl (by decide) rfl (fun ls hl => ?_)
    refine lv_aload_n hx hb dX0_readOld_42 rfl (lv_at hl 3 rfl) ?_
    refine g_getk (C := RX0) (T := TX0) (N := 14) hx hb hts (mc_ inX0) hown hK g rfl 0 (by decide) rfl (hts _ (List.mem_cons_of_mem _ t_373)) (fun _ h9 => h9) 2 rfl dX0_readOld_43 ?_
    refine g_callv (va_runV (As := []) (rest := []) ⟨hx, hb, hml, hown, hts⟩ (r_X8_next l dC dI L kd tys fr_65 H.size g.2.2.2.1 q0_ mq0_ kq0_) (cwV 0 hts (gV_ t_1225 t_1103 t_1104 t_184 t_1105) rfl rfl rfl (by decide +kernel) ⟨(Nat.le_of_ble_eq_true rfl), (Nat.le_of_ble_eq_true rfl)⟩) (pre3V g hK mq0_ kq0_ (by decide) (q := (RX8, TX8, 10)) rfl) rfl rfl hl.1 rfl (lv_room (Nat.le_of_ble_eq_true rfl)) dX0_readOld_46 ⟨(Nat.le_of_ble_eq_true rfl), (Nat.le_of_ble_eq_true rfl)⟩) g hK (by decide) (by decide) (fx' := [(0, 11, a0_, .int x_12), (0, 0, a0_, .ref q0_), (0, 1, a0_, .ref q1_), (0, 2, a0_, .ref q2_), (5, 1, q1_, .ref q3_)]) rfl (fun fr_67 H locs hp hMr_67 g => ?_)
    obtain ⟨x_68, h_69, hF_70⟩ := hp
    have g := g.more hF_70
    refine lv_iload_n hx hb dX0_readOld_49 rfl (lv_at hl 0 rfl) ?_
    refine lv_iconst (v := (-1)) hx hb dX0_readOld_50 (by decide) ?_
    have kb_m1 : bd (-1) (-1) ((-1) : Int32) := ⟨by decide, by decide⟩
    refine lv_icmp_ne (tgt := 64) hx hb dX0_readOld_51 (by decide) (fun c_71 => ?_) (fun c_71 => ?_)
    · have fc_71 := neq_f c_71
      have b_72 : bd 0 26 r_65 := neX fc_71 h_66 kb_m1 (by decide)
      refine lv_aload_n hx hb dX0_readOld_64 rfl (lv_at hl 3 rfl) ?_
      refine g_getk (C := RX0) (T := TX0) (N := 14) hx hb hts (mc_ inX0) hown hK g rfl 1 (by decide) rfl (hts _ (List.mem_cons_of_mem _ t_374)) (fun _ h9 => h9) 3 rfl dX0_readOld_65 ?_
      refine g_getk (C := RX5) (T := TX5) (N := 9) hx hb hts (mc_ inX5) hown hK g rfl 1 (by decide) rfl (hts _ (List.mem_cons_of_mem _ t_332)) (fun _ h9 => h9) 5 rfl dX0_readOld_68 ?_
      refine lv_iload_n hx hb dX0_readOld_71 rfl (lv_at hl 0 rfl) ?_
      refine g_calli (va_runV (As := [.int r_65]) (rest := []) ⟨hx, hb, hml, hown, hts⟩ (r_X9_isRow l dC dI L kd tys fr_67 H.size g.2.2.2.1 q3_ mq3_ kq3_ r_65) (cwV 1 hts (gV_ t_1256 t_1257 t_1258 t_192 t_1259) rfl rfl rfl (by decide +kernel) ⟨(Nat.le_of_ble_eq_true rfl), (Nat.le_of_ble_eq_true rfl)⟩) (pre3V g hK mq3_ kq3_ (by decide) (q := (RX9, TX9, 13)) rfl) rfl rfl hl.1 rfl (lv_room (Nat.le_of_ble_eq_true rfl)) dX0_readOld_72 ⟨(Nat.le_of_ble_eq_true rfl), (Nat.le_of_ble_eq_true rfl)⟩) g hK (by decide) (by decide) (fx' := [(8, 6, q0_, .int x_68), (0, 11, a0_, .int x_12), (0, 0, a0_, .ref q0_), (0, 1, a0_, .ref q1_), (0, 2, a0_, .ref q2_), (5, 1, q1_, .ref q3_)]) rfl (fun r_73 fr_73 H locs hp hMr_73 g => ?_)
      rcases hp with ⟨h_74, -⟩ | ⟨h_75, h_76, x_77, h_78, hF_79⟩
      · obtain rfl : r_73 = 0 := h_74
        refine lv_istore (lv' := [(4, .int 0), (3, .int r_65), (2, .int r_63), (1, .int r_1), (0, .ref a0_)]) hx hb dX0_readOld_75 hl (by decide) rfl (fun ls hl => ?_)
        refine lv_iload_n hx hb dX0_readOld_77 rfl (lv_at hl 1 rfl) ?_
        refine lv_bipush (v := 16) hx hb dX0_readOld_78 (by decide) ?_
        have kb_16 : bd 16 16 (16 : Int32) := ⟨by decide, by decide⟩
        refine lv_icmp_ge (tgt := 105) hx hb dX0_readOld_80 (by decide) (fun c_80 => ?_) (fun c_80 => ?_)
        · have fc_80 := le_f c_80
          have b_81 : bd 16 26 r_65 := leR fc_80 kb_16 b_72 (by decide)
          refine lv_aload_n hx hb dX0_readOld_105 rfl (lv_at hl 4 rfl) ?_
          refine g_getk (C := RX0) (T := TX0) (N := 14) hx hb hts (mc_ inX0) hown hK g rfl 0 (by decide) rfl (hts _ (List.mem_cons_of_mem _ t_373)) (fun _ h9 => h9) 2 rfl dX0_readOld_106 ?_
          refine lv_iconst (v := 5) hx hb dX0_readOld_109 (by decide) ?_
          refine lv_iload_n hx hb dX0_readOld_110 rfl (lv_at hl 2 rfl) ?_
          have kb_5 : bd 5 5 (5 : Int32) := ⟨by decide, by decide⟩
          refine g_callv (va_runV (As := [.int 5, .int r_63]) (rest := []) ⟨hx, hb, hml, hown, hts⟩ (r_X8_fail_2 l dC dI L kd tys fr_73 H.size g.2.2.2.1 q0_ mq0_ kq0_ 5 kb_5 r_63) (cwV 2 hts (gV_ t_1215 t_1107 t_1108 t_184 t_1109) rfl rfl rfl (by decide +kernel) ⟨(Nat.le_of_ble_eq_true rfl), (Nat.le_of_ble_eq_true rfl)⟩) (pre3V g hK mq0_ kq0_ (by decide) (q := (RX8, TX8, 10)) rfl) rfl rfl hl.1 rfl (lv_room (Nat.le_of_ble_eq_true rfl)) dX0_readOld_111 ⟨(Nat.le_of_ble_eq_true rfl), (Nat.le_of_ble_eq_true rfl)⟩) g hK (by decide) (by decide) (fx' := [(0, 11, a0_, .int x_12), (0, 0, a0_, .ref q0_), (0, 1, a0_, .ref q1_), (0, 2, a0_, .ref q2_), (5, 1, q1_, .ref q3_)]) rfl (fun fr_82 H locs hp hMr_82 g => ?_)
          obtain ⟨x_83, h_84, hF_85⟩ := hp
          have g := g.more hF_85
          have kb_1201 : bd 1201 1201 (1201 : Int32) := ⟨by decide, by decide⟩
          subst hQ
          exact W.vret hx hb hr (fun t ht hW => ⟨⟨_, rfl, Or.inl ⟨1201, kb_1201, x_83, h_84, (g.fcts [0, 1] rfl)⟩, q3_of g hK ht hW⟩, g.2.2.1.F ht⟩) g.2.2.1.2.2 dX0_readOld_114
        · have fc_80 := nle_f c_80
          have b_86 : bd 0 15 r_65 := ltL fc_80 b_72 kb_16 (by decide)
          refine lv_iload hx hb dX0_readOld_83 (lv_at hl 0 rfl) ?_
          refine lv_aload_n hx hb dX0_readOld_85 rfl (lv_at hl 4 rfl) ?_
          refine g_getk (C := RX0) (T := TX0) (N := 14) hx hb hts (mc_ inX0) hown hK g rfl 0 (by decide) rfl (hts _ (List.mem_cons_of_mem _ t_373)) (fun _ h9 => h9) 2 rfl dX0_readOld_86 ?_
          refine g_calli (va_runV (As := []) (rest := [.int 0]) ⟨hx, hb, hml, hown, hts⟩ (r_X8_kind l dC dI L kd tys fr_73 H.size g.2.2.2.1 q0_ mq0_ kq0_) (cwV 0 hts (gV_ t_1186 t_1119 t_1120 t_184 t_1121) rfl rfl rfl (by decide +kernel) ⟨(Nat.le_of_ble_eq_true rfl), (Nat.le_of_ble_eq_true rfl)⟩) (pre3V g hK mq0_ kq0_ (by decide) (q := (RX8, TX8, 10)) rfl) rfl rfl hl.1 rfl (lv_room (Nat.le_of_ble_eq_true rfl)) dX0_readOld_89 ⟨(Nat.le_of_ble_eq_true rfl), (Nat.le_of_ble_eq_true rfl)⟩) g hK (by decide) (by decide) (fx' := [(8, 6, q0_, .int x_68), (0, 11, a0_, .int x_12), (0, 0, a0_, .ref q0_), (0, 1, a0_, .ref q1_), (0, 2, a0_, .ref q2_), (5, 1, q1_, .ref q3_)]) rfl (fun r_87 fr_87 H locs hp hMr_87 g => ?_)
          refine lv_bipush (v := 91) hx hb dX0_readOld_92 (by decide) ?_
          have kb_91 : bd 91 91 (91 : Int32) := ⟨by decide, by decide⟩
          refine lv_icmp_ne (tgt := 101) hx hb dX0_readOld_94 (by decide) (fun c_88 => ?_) (fun c_88 => ?_)
          · have fc_88 := neq_f c_88
            refine lv_iconst (v := 0) hx hb dX0_readOld_101 (by decide) ?_
            refine lv_icmp_eq (tgt := 115) hx hb dX0_readOld_102 (by decide) (fun c_ => ?_) (fun c_ => absurd (by decide) c_)
            refine lv_aload_n hx hb dX0_readOld_115 rfl (lv_at hl 4 rfl) ?_
            refine g_getk (C := RX0) (T := TX0) (N := 14) hx hb hts (mc_ inX0) hown hK g rfl 2 (by decide) rfl (hts _ (List.mem_cons_of_mem _ t_375)) (fun _ h9 => h9) 4 rfl dX0_readOld_116 ?_
            refine lv_dup hx hb dX0_readOld_119 rfl ?_
            refine g_geti (C := RX7) (T := TX7) (N := 19) hx hb hts (mc_ inX7) hown hK g mq2_ kq2_ (by decide) rfl 18 (by decide) rfl (hts _ (List.mem_cons_of_mem _ t_681)) (fun _ h9 => h9) rfl dX0_readOld_120 (fun x_89 bx_89 g => ?_)
            refine lv_iconst (v := 2) hx hb dX0_readOld_123 (by decide) ?_
            have kb_2 : bd 2 2 (2 : Int32) := ⟨by decide, by decide⟩
            refine lv_iadd hx hb dX0_readOld_124 ?_
            refine lv_topi (fun y_90 ey_90 => ?_)
            refine g_put (C := RX7) (T := TX7) (N := 19) hx hb hts (mc_ inX7) tyX7 tyX7_ok nmX7 hown hK g mq2_ kq2_ (by decide) rfl 18 (by decide) (hts _ (List.mem_cons_of_mem _ t_681)) (fun _ h9 => h9) rfl rfl (okV_i (bdT y_90)) rfl rfl (by decide) (Or.inr (Or.inl (by decide))) (fx' := [(8, 6, q0_, .int x_68), (0, 11, a0_, .int x_12), (0, 0, a0_, .ref q0_), (0, 1, a0_, .ref q1_), (0, 2, a0_, .ref q2_), (5, 1, q1_, .ref q3_)]) rfl dX0_readOld_125 (fun f H locs hM_91 g => ?_)
            refine lv_iload hx hb dX0_readOld_128 (lv_at hl 0 rfl) ?_
            refine lv_if_eq (tgt := 167) hx hb dX0_readOld_130 (by decide) (fun c_ => ?_) (fun c_ => absurd (by decide) c_)
            refine lv_aload_n hx hb dX0_readOld_167 rfl (lv_at hl 4 rfl) ?_
            refine g_getk (C := RX0) (T := TX0) (N := 14) hx hb hts (mc_ inX0) hown hK g rfl 0 (by decide) rfl (hts _ (List.mem_cons_of_mem _ t_373)) (fun _ h9 => h9) 3 rfl dX0_readOld_168 ?_
            refine lv_bipush (v := 41) hx hb dX0_readOld_171 (by decide) ?_
            refine g_callv (va_runV (As := [.int 41]) (rest := []) ⟨hx, hb, hml, hown, hts⟩ (r_X8_take l dC dI L kd tys f H.size g.2.2.2.1 q0_ mq0_ kq0_ 41) (cwV 1 hts (gV_ t_1284 t_1099 t_1100 t_184 t_1101) rfl rfl rfl (by decide +kernel) ⟨(Nat.le_of_ble_eq_true rfl), (Nat.le_of_ble_eq_true rfl)⟩) (pre3V g hK mq0_ kq0_ (by decide) (q := (RX8, TX8, 10)) rfl) rfl rfl hl.1 rfl (lv_room (Nat.le_of_ble_eq_true rfl)) dX0_readOld_173 ⟨(Nat.le_of_ble_eq_true rfl), (Nat.le_of_ble_eq_true rfl)⟩) g hK (by decide) (by decide) (fx' := [(7, 18, q2_, .int y_90), (0, 11, a0_, .int x_12), (0, 0, a0_, .ref q0_), (0, 1, a0_, .ref q1_), (0, 2, a0_, .ref q2_), (5, 1, q1_, .ref q3_)]) rfl (fun fr_92 H locs hp hMr_92 g => ?_)
            rcases hp with ⟨x_93, h_94, hF_95⟩ | ⟨x_96, h_97, hF_98⟩
            · have g := g.more hF_95
              refine lv_aload_n hx hb dX0_readOld_176 rfl (lv_at hl 4 rfl) ?_
              refine g_getk (C := RX0) (T := TX0) (N := 14) hx hb hts (mc_ inX0) hown hK g rfl 2 (by decide) rfl (hts _ (List.mem_cons_of_mem _ t_375)) (fun _ h9 => h9) 6 rfl dX0_readOld_177 ?_
              refine lv_iconst (v := 4) hx hb dX0_readOld_180 (by decide) ?_
              refine lv_aload_n hx hb dX0_readOld_181 rfl (lv_at hl 4 rfl) ?_
              refine g_getk (C := RX0) (T := TX0) (N := 14) hx hb hts (mc_ inX0) hown hK g rfl 1 (by decide) rfl (hts _ (List.mem_cons_of_mem _ t_374)) (fun _ h9 => h9) 5 rfl dX0_readOld_182 ?_
              refine g_getk (C := RX5) (T := TX5) (N := 9) hx hb hts (mc_ inX5) hown hK g rfl 1 (by decide) rfl (hts _ (List.mem_cons_of_mem _ t_332)) (fun _ h9 => h9) 7 rfl dX0_readOld_185 ?_
              refine lv_iload_n hx hb dX0_readOld_188 rfl (lv_at hl 1 rfl) ?_
              refine g_calli (va_runV (As := [.int r_65]) (rest := [.int 4, .ref q2_]) ⟨hx, hb, hml, hown, hts⟩ (r_X9_spanOf l dC dI L kd tys fr_92 H.size g.2.2.2.1 q3_ mq3_ kq3_ r_65) (cwV 1 hts (gV_ t_1264 t_1265 t_1266 t_192 t_1267) rfl rfl rfl (by decide +kernel) ⟨(Nat.le_of_ble_eq_true rfl), (Nat.le_of_ble_eq_true rfl)⟩) (pre3V g hK mq3_ kq3_ (by decide) (q := (RX9, TX9, 13)) rfl) rfl rfl hl.1 rfl (lv_room (Nat.le_of_ble_eq_true rfl)) dX0_readOld_189 ⟨(Nat.le_of_ble_eq_true rfl), (Nat.le_of_ble_eq_true rfl)⟩) g hK (by decide) (by decide) (fx' := [(8, 6, q0_, .int 1201), (8, 8, q0_, .int x_93), (7, 18, q2_, .int y_90), (0, 11, a0_, .int x_12), (0, 0, a0_, .ref q0_), (0, 1, a0_, .ref q1_), (0, 2, a0_, .ref q2_), (5, 1, q1_, .ref q3_)]) rfl (fun r_99 fr_99 H locs hp hMr_99 g => ?_)
              obtain ⟨h_100, -⟩ := hp
              refine g_callv (va_runV (As := [.int 4, .int r_99]) (rest := []) ⟨hx, hb, hml, hown, hts⟩ (r_X7_emit l dC dI L kd tys fr_99 H.size g.2.2.2.1 q2_ mq2_ kq2_ 4 r_99) (cwV 2 hts (gV_ t_1203 t_1204 t_1205 t_191 t_1206) rfl rfl rfl (by decide +kernel) ⟨(Nat.le_of_ble_eq_true rfl), (Nat.le_of_ble_eq_true rfl)⟩) (pre3V g hK mq2_ kq2_ (by decide) (q := (RX7, TX7, 19)) rfl) rfl rfl hl.1 rfl (lv_room (Nat.le_of_ble_eq_true rfl)) dX0_readOld_192 ⟨(Nat.le_of_ble_eq_true rfl), (Nat.le_of_ble_eq_true rfl)⟩) g hK (by decide) (by decide) (fx' := [(8, 6, q0_, .int 1201), (8, 8, q0_, .int x_93), (7, 18, q2_, .int y_90), (0, 11, a0_, .int x_12), (0, 0, a0_, .ref q0_), (0, 1, a0_, .ref q1_), (0, 2, a0_, .ref q2_), (5, 1, q1_, .ref q3_)]) rfl (fun fr_101 H locs hp hMr_101 g => ?_)
              obtain ⟨x_102, h_103, hF_104⟩ := hp
              have g := g.more hF_104
              refine lv_aload_n hx hb dX0_readOld_195 rfl (lv_at hl 4 rfl) ?_
              refine lv_iconst (v := 2) hx hb dX0_readOld_196 (by decide) ?_
              refine g_callv (va_runV (As := [.int 2]) (rest := []) ⟨hx, hb, hml, hown, hts⟩ (r_X0_addWhole l dC dI L kd tys fr_101 H.size g.2.2.2.1 a0_ ma0_ ka0_ 2) (cwV 1 hts (gV_ t_1211 t_1213 t_17 t_190 t_1214) rfl rfl rfl (by decide +kernel) ⟨(Nat.le_of_ble_eq_true rfl), (Nat.le_of_ble_eq_true rfl)⟩) (pre3V g hK ma0_ ka0_ (by decide) (q := (RX0, TX0, 14)) rfl) rfl rfl hl.1 rfl (lv_room (Nat.le_of_ble_eq_true rfl)) dX0_readOld_197 ⟨(Nat.le_of_ble_eq_true rfl), (Nat.le_of_ble_eq_true rfl)⟩) g hK (by decide) (by decide) (fx' := [(7, 6, q2_, .int x_102), (8, 6, q0_, .int 1201), (8, 8, q0_, .int x_93), (7, 18, q2_, .int y_90), (0, 11, a0_, .int x_12), (0, 0, a0_, .ref q0_), (0, 1, a0_, .ref q1_), (0, 2, a0_, .ref q2_), (5, 1, q1_, .ref q3_)]) rfl (fun fr_105 H locs hp hMr_105 g => ?_)
              obtain ⟨x_106, h_107, hF_108⟩ := hp
              have g := g.more hF_108
              have kb_1201 : bd 1201 1201 (1201 : Int32) := ⟨by decide, by decide⟩
              subst hQ
              exact W.vret hx hb hr (fun t ht hW => ⟨⟨_, rfl, Or.inl ⟨1201, kb_1201, x_93, h_94, (g.fcts [3, 4] rfl)⟩, q3_of g hK ht hW⟩, g.2.2.1.F ht⟩) g.2.2.1.2.2 dX0_readOld_200
            · have g := g.more hF_98
              refine lv_aload_n hx hb dX0_readOld_176 rfl (lv_at hl 4 rfl) ?_
              refine g_getk (C := RX0) (T := TX0) (N := 14) hx hb hts (mc_ inX0) hown hK g rfl 2 (by decide) rfl (hts _ (List.mem_cons_of_mem _ t_375)) (fun _ h9 => h9) 5 rfl dX0_readOld_177 ?_
              refine lv_iconst (v := 4) hx hb dX0_readOld_180 (by decide) ?_
              refine lv_aload_n hx hb dX0_readOld_181 rfl (lv_at hl 4 rfl) ?_
              refine g_getk (C := RX0) (T := TX0) (N := 14) hx hb hts (mc_ inX0) hown hK g rfl 1 (by decide) rfl (hts _ (List.mem_cons_of_mem _ t_374)) (fun _ h9 => h9) 4 rfl dX0_readOld_182 ?_
              refine g_getk (C := RX5) (T := TX5) (N := 9) hx hb hts (mc_ inX5) hown hK g rfl 1 (by decide) rfl (hts _ (List.mem_cons_of_mem _ t_332)) (fun _ h9 => h9) 6 rfl dX0_readOld_185 ?_
              refine lv_iload_n hx hb dX0_readOld_188 rfl (lv_at hl 1 rfl) ?_
              refine g_calli (va_runV (As := [.int r_65]) (rest := [.int 4, .ref q2_]) ⟨hx, hb, hml, hown, hts⟩ (r_X9_spanOf l dC dI L kd tys fr_92 H.size g.2.2.2.1 q3_ mq3_ kq3_ r_65) (cwV 1 hts (gV_ t_1264 t_1265 t_1266 t_192 t_1267) rfl rfl rfl (by decide +kernel) ⟨(Nat.le_of_ble_eq_true rfl), (Nat.le_of_ble_eq_true rfl)⟩) (pre3V g hK mq3_ kq3_ (by decide) (q := (RX9, TX9, 13)) rfl) rfl rfl hl.1 rfl (lv_room (Nat.le_of_ble_eq_true rfl)) dX0_readOld_189 ⟨(Nat.le_of_ble_eq_true rfl), (Nat.le_of_ble_eq_true rfl)⟩) g hK (by decide) (by decide) (fx' := [(8, 6, q0_, .int x_96), (7, 18, q2_, .int y_90), (0, 11, a0_, .int x_12), (0, 0, a0_, .ref q0_), (0, 1, a0_, .ref q1_), (0, 2, a0_, .ref q2_), (5, 1, q1_, .ref q3_)]) rfl (fun r_109 fr_109 H locs hp hMr_109 g => ?_)
              obtain ⟨h_110, -⟩ := hp
              refine g_callv (va_runV (As := [.int 4, .int r_109]) (rest := []) ⟨hx, hb, hml, hown, hts⟩ (r_X7_emit l dC dI L kd tys fr_109 H.size g.2.2.2.1 q2_ mq2_ kq2_ 4 r_109) (cwV 2 hts (gV_ t_1203 t_1204 t_1205 t_191 t_1206) rfl rfl rfl (by decide +kernel) ⟨(Nat.le_of_ble_eq_true rfl), (Nat.le_of_ble_eq_true rfl)⟩) (pre3V g hK mq2_ kq2_ (by decide) (q := (RX7, TX7, 19)) rfl) rfl rfl hl.1 rfl (lv_room (Nat.le_of_ble_eq_true rfl)) dX0_readOld_192 ⟨(Nat.le_of_ble_eq_true rfl), (Nat.le_of_ble_eq_true rfl)⟩) g hK (by decide) (by decide) (fx' := [(8, 6, q0_, .int x_96), (7, 18, q2_, .int y_90), (0, 11, a0_, .int x_12), (0, 0, a0_, .ref q0_), (0, 1, a0_, .ref q1_), (0, 2, a0_, .ref q2_), (5, 1, q1_, .ref q3_)]) rfl (fun fr_111 H locs hp hMr_111 g => ?_)
              obtain ⟨x_112, h_113, hF_114⟩ := hp
              have g := g.more hF_114
              refine lv_aload_n hx hb dX0_readOld_195 rfl (lv_at hl 4 rfl) ?_
              refine lv_iconst (v := 2) hx hb dX0_readOld_196 (by decide) ?_
              refine g_callv (va_runV (As := [.int 2]) (rest := []) ⟨hx, hb, hml, hown, hts⟩ (r_X0_addWhole l dC dI L kd tys fr_111 H.size g.2.2.2.1 a0_ ma0_ ka0_ 2) (cwV 1 hts (gV_ t_1211 t_1213 t_17 t_190 t_1214) rfl rfl rfl (by decide +kernel) ⟨(Nat.le_of_ble_eq_true rfl), (Nat.le_of_ble_eq_true rfl)⟩) (pre3V g hK ma0_ ka0_ (by decide) (q := (RX0, TX0, 14)) rfl) rfl rfl hl.1 rfl (lv_room (Nat.le_of_ble_eq_true rfl)) dX0_readOld_197 ⟨(Nat.le_of_ble_eq_true rfl), (Nat.le_of_ble_eq_true rfl)⟩) g hK (by decide) (by decide) (fx' := [(7, 6, q2_, .int x_112), (8, 6, q0_, .int x_96), (7, 18, q2_, .int y_90), (0, 11, a0_, .int x_12), (0, 0, a0_, .ref q0_), (0, 1, a0_, .ref q1_), (0, 2, a0_, .ref q2_), (5, 1, q1_, .ref q3_)]) rfl (fun fr_115 H locs hp hMr_115 g => ?_)
              obtain ⟨x_116, h_117, hF_118⟩ := hp
              have g := g.more hF_118
              subst hQ
              exact W.vret hx hb hr (fun t ht hW => ⟨⟨_, rfl, Or.inr (⟨x_96, h_97, x_12, (bd_sub h_13 (by decide)), (g.fcts [3, 5] rfl)⟩), q3_of g hK ht hW⟩, g.2.2.1.F ht⟩) g.2.2.1.2.2 dX0_readOld_200
          · have fc_88 := eq_f c_88
            have b_119 : bd 91 91 r_87 := eqX fc_88 (bdT r_87) kb_91 (by decide)
            refine lv_iconst (v := 1) hx hb dX0_readOld_97 (by decide) ?_
            refine lv_goto (tgt := 102) hx hb dX0_readOld_98 (by decide) ?_
            refine lv_icmp_eq (tgt := 115) hx hb dX0_readOld_102 (by decide) (fun c_ => absurd c_ (by decide)) (fun c_ => ?_)
            refine lv_aload_n hx hb dX0_readOld_105 rfl (lv_at hl 4 rfl) ?_
            refine g_getk (C := RX0) (T := TX0) (N := 14) hx hb hts (mc_ inX0) hown hK g rfl 0 (by decide) rfl (hts _ (List.mem_cons_of_mem _ t_373)) (fun _ h9 => h9) 2 rfl dX0_readOld_106 ?_
            refine lv_iconst (v := 5) hx hb dX0_readOld_109 (by decide) ?_
            refine lv_iload_n hx hb dX0_readOld_110 rfl (lv_at hl 2 rfl) ?_
            have kb_5 : bd 5 5 (5 : Int32) := ⟨by decide, by decide⟩
            refine g_callv (va_runV (As := [.int 5, .int r_63]) (rest := []) ⟨hx, hb, hml, hown, hts⟩ (r_X8_fail_2 l dC dI L kd tys fr_87 H.size g.2.2.2.1 q0_ mq0_ kq0_ 5 kb_5 r_63) (cwV 2 hts (gV_ t_1215 t_1107 t_1108 t_184 t_1109) rfl rfl rfl (by decide +kernel) ⟨(Nat.le_of_ble_eq_true rfl), (Nat.le_of_ble_eq_true rfl)⟩) (pre3V g hK mq0_ kq0_ (by decide) (q := (RX8, TX8, 10)) rfl) rfl rfl hl.1 rfl (lv_room (Nat.le_of_ble_eq_true rfl)) dX0_readOld_111 ⟨(Nat.le_of_ble_eq_true rfl), (Nat.le_of_ble_eq_true rfl)⟩) g hK (by decide) (by decide) (fx' := [(0, 11, a0_, .int x_12), (0, 0, a0_, .ref q0_), (0, 1, a0_, .ref q1_), (0, 2, a0_, .ref q2_), (5, 1, q1_, .ref q3_)]) rfl (fun fr_120 H locs hp hMr_120 g => ?_)
            obtain ⟨x_121, h_122, hF_123⟩ := hp
            have g := g.more hF_123
            have kb_1201 : bd 1201 1201 (1201 : Int32) := ⟨by decide, by decide⟩
            subst hQ
            exact W.vret hx hb hr (fun t ht hW => ⟨⟨_, rfl, Or.inl ⟨1201, kb_1201, x_121, h_122, (g.fcts [0, 1] rfl)⟩, q3_of g hK ht hW⟩, g.2.2.1.F ht⟩) g.2.2.1.2.2 dX0_readOld_114
      · obtain rfl : r_73 = 1 := h_75
        have b_124 : bd 0 9 r_65 := eqX rfl b_72 h_76 (by decide)
        have g := g.more hF_79
        refine lv_istore (lv' := [(4, .int 1), (3, .int r_65), (2, .int r_63), (1, .int r_1), (0, .ref a0_)]) hx hb dX0_readOld_75 hl (by decide) rfl (fun ls hl => ?_)
        refine lv_iload_n hx hb dX0_readOld_77 rfl (lv_at hl 1 rfl) ?_
        refine lv_bipush (v := 16) hx hb dX0_readOld_78 (by decide) ?_
        have kb_16 : bd 16 16 (16 : Int32) := ⟨by decide, by decide⟩
        refine lv_icmp_ge (tgt := 105) hx hb dX0_readOld_80 (by decide) (fun c_125 => ?_) (fun c_125 => ?_)
        · have fc_125 := le_f c_125
          have b_126 : bd 16 9 (16 : Int32) := leL fc_125 kb_16 b_124 (by decide)
          exact bd_no (eqX rfl b_126 kb_16 (lo := 16) (hi := 9) (by decide)) (by decide)
        · have fc_125 := nle_f c_125
          refine lv_iload hx hb dX0_readOld_83 (lv_at hl 0 rfl) ?_
          refine lv_aload_n hx hb dX0_readOld_85 rfl (lv_at hl 4 rfl) ?_
          refine g_getk (C := RX0) (T := TX0) (N := 14) hx hb hts (mc_ inX0) hown hK g rfl 0 (by decide) rfl (hts _ (List.mem_cons_of_mem _ t_373)) (fun _ h9 => h9) 3 rfl dX0_readOld_86 ?_
          refine g_calli (va_runV (As := []) (rest := [.int 1]) ⟨hx, hb, hml, hown, hts⟩ (r_X8_kind l dC dI L kd tys fr_73 H.size g.2.2.2.1 q0_ mq0_ kq0_) (cwV 0 hts (gV_ t_1186 t_1119 t_1120 t_184 t_1121) rfl rfl rfl (by decide +kernel) ⟨(Nat.le_of_ble_eq_true rfl), (Nat.le_of_ble_eq_true rfl)⟩) (pre3V g hK mq0_ kq0_ (by decide) (q := (RX8, TX8, 10)) rfl) rfl rfl hl.1 rfl (lv_room (Nat.le_of_ble_eq_true rfl)) dX0_readOld_89 ⟨(Nat.le_of_ble_eq_true rfl), (Nat.le_of_ble_eq_true rfl)⟩) g hK (by decide) (by decide) (fx' := [(9, 2, q3_, .int x_77), (8, 6, q0_, .int x_68), (0, 11, a0_, .int x_12), (0, 0, a0_, .ref q0_), (0, 1, a0_, .ref q1_), (0, 2, a0_, .ref q2_), (5, 1, q1_, .ref q3_)]) rfl (fun r_127 fr_127 H locs hp hMr_127 g => ?_)
          refine lv_bipush (v := 91) hx hb dX0_readOld_92 (by decide) ?_
          have kb_91 : bd 91 91 (91 : Int32) := ⟨by decide, by decide⟩
          refine lv_icmp_ne (tgt := 101) hx hb dX0_readOld_94 (by decide) (fun c_128 => ?_) (fun c_128 => ?_)
          · have fc_128 := neq_f c_128
            refine lv_iconst (v := 0) hx hb dX0_readOld_101 (by decide) ?_
            refine lv_icmp_eq (tgt := 115) hx hb dX0_readOld_102 (by decide) (fun c_ => absurd c_ (by decide)) (fun c_ => ?_)
            refine lv_aload_n hx hb dX0_readOld_105 rfl (lv_at hl 4 rfl) ?_
            refine g_getk (C := RX0) (T := TX0) (N := 14) hx hb hts (mc_ inX0) hown hK g rfl 0 (by decide) rfl (hts _ (List.mem_cons_of_mem _ t_373)) (fun _ h9 => h9) 3 rfl dX0_readOld_106 ?_
            refine lv_iconst (v := 5) hx hb dX0_readOld_109 (by decide) ?_
            refine lv_iload_n hx hb dX0_readOld_110 rfl (lv_at hl 2 rfl) ?_
            have kb_5 : bd 5 5 (5 : Int32) := ⟨by decide, by decide⟩
            refine g_callv (va_runV (As := [.int 5, .int r_63]) (rest := []) ⟨hx, hb, hml, hown, hts⟩ (r_X8_fail_2 l dC dI L kd tys fr_127 H.size g.2.2.2.1 q0_ mq0_ kq0_ 5 kb_5 r_63) (cwV 2 hts (gV_ t_1215 t_1107 t_1108 t_184 t_1109) rfl rfl rfl (by decide +kernel) ⟨(Nat.le_of_ble_eq_true rfl), (Nat.le_of_ble_eq_true rfl)⟩) (pre3V g hK mq0_ kq0_ (by decide) (q := (RX8, TX8, 10)) rfl) rfl rfl hl.1 rfl (lv_room (Nat.le_of_ble_eq_true rfl)) dX0_readOld_111 ⟨(Nat.le_of_ble_eq_true rfl), (Nat.le_of_ble_eq_true rfl)⟩) g hK (by decide) (by decide) (fx' := [(9, 2, q3_, .int x_77), (0, 11, a0_, .int x_12), (0, 0, a0_, .ref q0_), (0, 1, a0_, .ref q1_), (0, 2, a0_, .ref q2_), (5, 1, q1_, .ref q3_)]) rfl (fun fr_129 H locs hp hMr_129 g => ?_)
            obtain ⟨x_130, h_131, hF_132⟩ := hp
            have g := g.more hF_132
            have kb_1201 : bd 1201 1201 (1201 : Int32) := ⟨by decide, by decide⟩
            subst hQ
            exact W.vret hx hb hr (fun t ht hW => ⟨⟨_, rfl, Or.inl ⟨1201, kb_1201, x_130, h_131, (g.fcts [0, 1] rfl)⟩, q3_of g hK ht hW⟩, g.2.2.1.F ht⟩) g.2.2.1.2.2 dX0_readOld_114
          · have fc_128 := eq_f c_128
            have b_133 : bd 91 91 r_127 := eqX fc_128 (bdT r_127) kb_91 (by decide)
            refine lv_iconst (v := 1) hx hb dX0_readOld_97 (by decide) ?_
            refine lv_goto (tgt := 102) hx hb dX0_readOld_98 (by decide) ?_
            refine lv_icmp_eq (tgt := 115) hx hb dX0_readOld_102 (by decide) (fun c_ => ?_) (fun c_ => absurd (by decide) c_)
            refine lv_aload_n hx hb dX0_readOld_115 rfl (lv_at hl 4 rfl) ?_
            refine g_getk (C := RX0) (T := TX0) (N := 14) hx hb hts (mc_ inX0) hown hK g rfl 2 (by decide) rfl (hts _ (List.mem_cons_of_mem _ t_375)) (fun _ h9 => h9) 5 rfl dX0_readOld_116 ?_
            refine lv_dup hx hb dX0_readOld_119 rfl ?_
            refine g_geti (C := RX7) (T := TX7) (N := 19) hx hb hts (mc_ inX7) hown hK g mq2_ kq2_ (by decide) rfl 18 (by decide) rfl (hts _ (List.mem_cons_of_mem _ t_681)) (fun _ h9 => h9) rfl dX0_readOld_120 (fun x_134 bx_134 g => ?_)
            refine lv_iconst (v := 2) hx hb dX0_readOld_123 (by decide) ?_
            have kb_2 : bd 2 2 (2 : Int32) := ⟨by decide, by decide⟩
            refine lv_iadd hx hb dX0_readOld_124 ?_
            refine lv_topi (fun y_135 ey_135 => ?_)
            refine g_put (C := RX7) (T := TX7) (N := 19) hx hb hts (mc_ inX7) tyX7 tyX7_ok nmX7 hown hK g mq2_ kq2_ (by decide) rfl 18 (by decide) (hts _ (List.mem_cons_of_mem _ t_681)) (fun _ h9 => h9) rfl rfl (okV_i (bdT y_135)) rfl rfl (by decide) (Or.inr (Or.inl (by decide))) (fx' := [(9, 2, q3_, .int x_77), (8, 6, q0_, .int x_68), (0, 11, a0_, .int x_12), (0, 0, a0_, .ref q0_), (0, 1, a0_, .ref q1_), (0, 2, a0_, .ref q2_), (5, 1, q1_, .ref q3_)]) rfl dX0_readOld_125 (fun f H locs hM_136 g => ?_)
            refine lv_iload hx hb dX0_readOld_128 (lv_at hl 0 rfl) ?_
            refine lv_if_eq (tgt := 167) hx hb dX0_readOld_130 (by decide) (fun c_ => absurd c_ (by decide)) (fun c_ => ?_)
            refine lv_aload_n hx hb dX0_readOld_133 rfl (lv_at hl 4 rfl) ?_
            refine lv_dup hx hb dX0_readOld_134 rfl ?_
            refine g_getk (C := RX0) (T := TX0) (N := 14) hx hb hts (mc_ inX0) hown hK g rfl 11 (by decide) rfl (hts _ (List.mem_cons_of_mem _ t_384)) (fun _ h9 => h9) 3 rfl dX0_readOld_135 ?_
            refine lv_iconst (v := 1) hx hb dX0_readOld_138 (by decide) ?_
            have kb_1 : bd 1 1 (1 : Int32) := ⟨by decide, by decide⟩
            refine lv_iadd hx hb dX0_readOld_139 ?_
            refine lv_topi (fun y_137 ey_137 => ?_)
            have ty_137 := add_bd ey_137 h_13 kb_1 (by decide)
            have b_138 : bd (-2147483647) 40 y_137 := add_rg ty_137 h_13 kb_1 (by decide)
            refine g_put (C := RX0) (T := TX0) (N := 14) hx hb hts (mc_ inX0) tyX0 tyX0_ok nmX0 hown hK g ma0_ ka0_ (by decide) rfl 11 (by decide) (hts _ (List.mem_cons_of_mem _ t_384)) (fun _ h9 => h9) rfl rfl (okV_i (bd_sub b_138 (by decide))) rfl rfl (by decide) (Or.inr (Or.inl (by decide))) (fx' := [(7, 18, q2_, .int y_135), (9, 2, q3_, .int x_77), (8, 6, q0_, .int x_68), (0, 0, a0_, .ref q0_), (0, 1, a0_, .ref q1_), (0, 2, a0_, .ref q2_), (5, 1, q1_, .ref q3_)]) rfl dX0_readOld_140 (fun f H locs hM_139 g => ?_)
            refine lv_aload_n hx hb dX0_readOld_143 rfl (lv_at hl 4 rfl) ?_
            refine lv_iconst (v := 5) hx hb dX0_readOld_144 (by decide) ?_
            refine lv_iload_n hx hb dX0_readOld_145 rfl (lv_at hl 2 rfl) ?_
            refine lv_iload_n hx hb dX0_readOld_146 rfl (lv_at hl 1 rfl) ?_
            refine g_callv (va_runV (As := [.int 5, .int r_63, .int r_65]) (rest := []) ⟨hx, hb, hml, hown, hts⟩ (r_X0_openIndex l dC dI L kd tys f H.size g.2.2.2.1 a0_ ma0_ ka0_ 5 r_63 r_65 q0_ mq0_ kq0_ q1_ mq1_ kq1_ q3_ mq3_ kq3_ (g.fcts [4, 5, 7] rfl)) (cwV 3 hts (gV_ t_1260 t_1262 t_24 t_190 t_1263) rfl rfl rfl (by decide +kernel) ⟨(Nat.le_of_ble_eq_true rfl), (Nat.le_of_ble_eq_true rfl)⟩) (pre3V g hK ma0_ ka0_ (by decide) (q := (RX0, TX0, 14)) rfl) rfl rfl hl.1 rfl (lv_room (Nat.le_of_ble_eq_true rfl)) dX0_readOld_147 ⟨(Nat.le_of_ble_eq_true rfl), (Nat.le_of_ble_eq_true rfl)⟩) g hK (by decide) (by decide) (fx' := [(7, 18, q2_, .int y_135), (9, 2, q3_, .int x_77), (0, 0, a0_, .ref q0_), (0, 1, a0_, .ref q1_), (0, 2, a0_, .ref q2_), (5, 1, q1_, .ref q3_)]) rfl (fun fr_140 H locs hp hMr_140 g => ?_)
            rcases hp with ⟨x_141, h_142, x_143, h_144, hF_145⟩ | ⟨x_146, h_147, x_148, h_149, x_150, h_151, hF_152⟩
            · have g := g.more hF_145
              refine lv_aload_n hx hb dX0_readOld_150 rfl (lv_at hl 4 rfl) ?_
              refine g_getr (K := 114) (C := RX0) (T := TX0) (N := 14) hx hb hts (mc_ inX0) hown hK g ma0_ ka0_ (by decide) rfl 7 (by decide) rfl (hts _ (List.mem_cons_of_mem _ t_380)) (fun _ h9 => h9) rfl dX0_readOld_151 (fun a_153 ma_153 ka_153 g => ?_)
              refine lv_aload_n hx hb dX0_readOld_154 rfl (lv_at hl 4 rfl) ?_
              refine g_getk (C := RX0) (T := TX0) (N := 14) hx hb hts (mc_ inX0) hown hK g rfl 8 (by decide) rfl (hts _ (List.mem_cons_of_mem _ t_381)) (fun _ h9 => h9) 1 rfl dX0_readOld_155 ?_
              refine lv_iconst (v := 1) hx hb dX0_readOld_158 (by decide) ?_
              refine lv_isub hx hb dX0_readOld_159 ?_
              refine lv_topi (fun y_154 ey_154 => ?_)
              have ty_154 := sub_bd ey_154 h_142 kb_1 (by decide)
              have b_155 : bd 0 299 y_154 := sub_rg ty_154 h_142 kb_1 (by decide)
              refine lv_iconst (v := 0) hx hb dX0_readOld_160 (by decide) ?_
              have kb_0 : bd 0 0 (0 : Int32) := ⟨by decide, by decide⟩
              refine va_mmax hx hb (hml.trans hl.1.symm) hown (hts _ (List.mem_cons_of_mem _ t_1194)) (hts _ (List.mem_cons_of_mem _ t_1041)) (hts _ (List.mem_cons_of_mem _ t_204)) (hts _ (List.mem_cons_of_mem _ t_1042)) (Nat.le_of_ble_eq_true rfl) (Nat.le_of_ble_eq_true rfl) (Nat.le_of_ble_eq_true rfl) (Nat.le_of_ble_eq_true rfl) dX0_readOld_161 ?_
              refine lv_topi (fun y_156 ey_156 => ?_)
              have ty_156 : y_156.toInt = max y_154.toInt (0 : Int32).toInt := by rw [ey_156]; exact mmax_ok _ _
              have b_157 : bd 0 299 y_156 := max_rg ty_156 b_155 kb_0 (by decide)
              refine lv_iload_n hx hb dX0_readOld_164 rfl (lv_at hl 3 rfl) ?_
              refine g_iast hx hb hK g ma_153 ka_153 (by decide) rfl (in_bd b_157 (by decide)) (bdT r_1) (by decide) dX0_readOld_165 (fun f H locs hM_158 g => ?_)
              have kb_1201 : bd 1201 1201 (1201 : Int32) := ⟨by decide, by decide⟩
              subst hQ
              exact W.vret hx hb hr (fun t ht hW => ⟨⟨_, rfl, Or.inl ⟨1201, kb_1201, x_143, h_144, (g.fcts [2, 3] rfl)⟩, q3_of g hK ht hW⟩, g.2.2.1.F ht⟩) g.2.2.1.2.2 dX0_readOld_166
            · have g := g.more hF_152
              refine lv_aload_n hx hb dX0_readOld_150 rfl (lv_at hl 4 rfl) ?_
              refine g_getr (K := 114) (C := RX0) (T := TX0) (N := 14) hx hb hts (mc_ inX0) hown hK g ma0_ ka0_ (by decide) rfl 7 (by decide) rfl (hts _ (List.mem_cons_of_mem _ t_380)) (fun _ h9 => h9) rfl dX0_readOld_151 (fun a_159 ma_159 ka_159 g => ?_)
              refine lv_aload_n hx hb dX0_readOld_154 rfl (lv_at hl 4 rfl) ?_
              refine g_getk (C := RX0) (T := TX0) (N := 14) hx hb hts (mc_ inX0) hown hK g rfl 8 (by decide) rfl (hts _ (List.mem_cons_of_mem _ t_381)) (fun _ h9 => h9) 3 rfl dX0_readOld_155 ?_
              refine lv_iconst (v := 1) hx hb dX0_readOld_158 (by decide) ?_
              refine lv_isub hx hb dX0_readOld_159 ?_
              refine lv_topi (fun y_160 ey_160 => ?_)
              have ty_160 := sub_bd ey_160 h_151 kb_1 (by decide)
              have b_161 : bd 0 299 y_160 := sub_rg ty_160 h_151 kb_1 (by decide)
              refine lv_iconst (v := 0) hx hb dX0_readOld_160 (by decide) ?_
              have kb_0 : bd 0 0 (0 : Int32) := ⟨by decide, by decide⟩
              refine va_mmax hx hb (hml.trans hl.1.symm) hown (hts _ (List.mem_cons_of_mem _ t_1194)) (hts _ (List.mem_cons_of_mem _ t_1041)) (hts _ (List.mem_cons_of_mem _ t_204)) (hts _ (List.mem_cons_of_mem _ t_1042)) (Nat.le_of_ble_eq_true rfl) (Nat.le_of_ble_eq_true rfl) (Nat.le_of_ble_eq_true rfl) (Nat.le_of_ble_eq_true rfl) dX0_readOld_161 ?_
              refine lv_topi (fun y_162 ey_162 => ?_)
              have ty_162 : y_162.toInt = max y_160.toInt (0 : Int32).toInt := by rw [ey_162]; exact mmax_ok _ _
              have b_163 : bd 0 299 y_162 := max_rg ty_162 b_161 kb_0 (by decide)
              refine lv_iload_n hx hb dX0_readOld_164 rfl (lv_at hl 3 rfl) ?_
              refine g_iast hx hb hK g ma_159 ka_159 (by decide) rfl (in_bd b_163 (by decide)) (bdT r_1) (by decide) dX0_readOld_165 (fun f H locs hM_164 g => ?_)
              subst hQ
              exact W.vret hx hb hr (fun t ht hW => ⟨⟨_, rfl, Or.inr (⟨x_146, h_147, x_148, (bd_sub h_149 (by decide)), (g.fcts [1, 2] rfl)⟩), q3_of g hK ht hW⟩, g.2.2.1.F ht⟩) g.2.2.1.2.2 dX0_readOld_166
    · have fc_71 := eq_f c_71
      have b_165 : bd (-1) (-1) r_65 := eqX fc_71 h_66 kb_m1 (by decide)
      refine lv_aload_n hx hb dX0_readOld_54 rfl (lv_at hl 3 rfl) ?_
      refine g_getk (C := RX0) (T := TX0) (N := 14) hx hb hts (mc_ inX0) hown hK g rfl 0 (by decide) rfl (hts _ (List.mem_cons_of_mem _ t_373)) (fun _ h9 => h9) 2 rfl dX0_readOld_55 ?_
      refine lv_iconst (v := 2) hx hb dX0_readOld_58 (by decide) ?_
      refine lv_iload_n hx hb dX0_readOld_59 rfl (lv_at hl 1 rfl) ?_
      have kb_2 : bd 2 2 (2 : Int32) := ⟨by decide, by decide⟩
      refine g_callv (va_runV (As := [.int 2, .int r_63]) (rest := []) ⟨hx, hb, hml, hown, hts⟩ (r_X8_fail_3 l dC dI L kd tys fr_67 H.size g.2.2.2.1 q0_ mq0_ kq0_ 2 kb_2 r_63) (cwV 2 hts (gV_ t_1215 t_1107 t_1108 t_184 t_1109) rfl rfl rfl (by decide +kernel) ⟨(Nat.le_of_ble_eq_true rfl), (Nat.le_of_ble_eq_true rfl)⟩) (pre3V g hK mq0_ kq0_ (by decide) (q := (RX8, TX8, 10)) rfl) rfl rfl hl.1 rfl (lv_room (Nat.le_of_ble_eq_true rfl)) dX0_readOld_60 ⟨(Nat.le_of_ble_eq_true rfl), (Nat.le_of_ble_eq_true rfl)⟩) g hK (by decide) (by decide) (fx' := [(0, 11, a0_, .int x_12), (0, 0, a0_, .ref q0_), (0, 1, a0_, .ref q1_), (0, 2, a0_, .ref q2_), (5, 1, q1_, .ref q3_)]) rfl (fun fr_166 H locs hp hMr_166 g => ?_)
      obtain ⟨x_167, h_168, hF_169⟩ := hp
      have g := g.more hF_169
      have kb_1201 : bd 1201 1201 (1201 : Int32) := ⟨by decide, by decide⟩
      subst hQ
      exact W.vret hx hb hr (fun t ht hW => ⟨⟨_, rfl, Or.inl ⟨1201, kb_1201, x_167, h_168, (g.fcts [0, 1] rfl)⟩, q3_of g hK ht hW⟩, g.2.2.1.F ht⟩) g.2.2.1.2.2 dX0_readOld_63
set_option maxHeartbeats 4000000 in
set_option maxRecDepth 100000 in
theorem r_X0_levelOf (l : Launch) (dC : Nat → ClassId) (dI : Nat → Nat → Nat) (L : List Nat) (kd : Nat → Nat) (tys : List (ClassId × FieldType)) (f0 : Nat → va_E) (sz : Nat) (hWT : WT L kd tys f0) (x0_ : Int32) : Met l yX0_levelOf (.code yX0_levelOf cX0_levelOf 1 (some .int) :: lw_g) ({ frames := 0, cells := 0, slots := 0, locals := 0 }) (va_Pc [.int x0_] (P3 (dC, dI) L tys f0 sz)) (va_Qi (fun (r : Int32) (f : Nat → va_E) => (bd 0 5 r ∧ True)) (Q3 (dC, dI) L kd tys [] [] f0 sz) (pA L sz)) 0 0 (pA L sz) := by
  refine Met.ofW (cc := cX0_levelOf) (maxL := 1) (ret := (some .int)) (by decide) rfl ?_
  intro p e s m args below meth c s₁ B hml hv
  obtain ⟨rfl, hsz, hP, hK, hD0⟩ := hv
  have hx := B.exec
  have hb := B.bytes
  have hr := B.returns
  have hts := atoms_spec (ws := (.code yX0_levelOf cX0_levelOf 1 (some .int) :: lw_g)) B.pre
  have hown : s.vm.findClass RX0 = some m.cls := findClass_of_methodNamed B.named
  have hlocks := B.notSynchronized
  subst hsz
  have g : G3 (dC, dI) L kd tys s f0 [] [] f0 s.heap [] [] := G3.start hP hD0 hWT Fs.nil
  have hl := lv_entry ([.int x0_]) (n := 1) (Nat.le_of_ble_eq_true rfl)
  rw [lg_entry_eq]
  generalize (lg_sl ([.int x0_]) ++ List.replicate (1 - (lg_sl ([.int x0_])).length) Slot.unset).toArray = ls at hl ⊢
  have hl : lv_has ls 1 [(0, .int x0_)] := hl
  refine W_q (fun Q hQ => ?_)
  refine lv_iload_n hx hb dX0_levelOf_0 rfl (lv_at hl 0 rfl) ?_
  by_cases e_1 : x0_ = 37
  · refine lv_topi (fun z_2 ez_2 => ?_)
    obtain rfl : z_2 = 37 := ez_2.trans e_1
    have kb_37 : bd 37 37 (37 : Int32) := ⟨by decide, by decide⟩
    have b_3 : bd 37 37 x0_ := eqX (eq_f e_1) (bdT x0_) kb_37 (by decide)
    refine lv_lookup (off := 125) (tgt := 126) hx hb dX0_levelOf_1 (by decide) (by decide) (by decide) ?_
    refine lv_iconst (v := 5) hx hb dX0_levelOf_126 (by decide) ?_
    have kb_5 : bd 5 5 (5 : Int32) := ⟨by decide, by decide⟩
    subst hQ
    exact W.iret (v := 5) hx hb hr (fun t ht hW => ⟨⟨_, _, rfl, ⟨(bd_sub kb_5 (by decide)), trivial⟩, q3_of g hK ht hW⟩, g.2.2.1.F ht⟩) g.2.2.1.2.2 dX0_levelOf_127
  by_cases e_4 : x0_ = 42
  · refine lv_topi (fun z_5 ez_5 => ?_)
    obtain rfl : z_5 = 42 := ez_5.trans e_4
    have kb_42 : bd 42 42 (42 : Int32) := ⟨by decide, by decide⟩
    have b_6 : bd 42 42 x0_ := eqX (eq_f e_4) (bdT x0_) kb_42 (by decide)
    refine lv_lookup (off := 125) (tgt := 126) hx hb dX0_levelOf_1 (by decide) (by decide) (by decide) ?_
    refine lv_iconst (v := 5) hx hb dX0_levelOf_126 (by decide) ?_
    have kb_5 : bd 5 5 (5 : Int32) := ⟨by decide, by decide⟩
    subst hQ
    exact W.iret (v := 5) hx hb hr (fun t ht hW => ⟨⟨_, _, rfl, ⟨(bd_sub kb_5 (by decide)), trivial⟩, q3_of g hK ht hW⟩, g.2.2.1.F ht⟩) g.2.2.1.2.2 dX0_levelOf_127
  by_cases e_7 : x0_ = 43
  · refine lv_topi (fun z_8 ez_8 => ?_)
    obtain rfl : z_8 = 43 := ez_8.trans e_7
    have kb_43 : bd 43 43 (43 : Int32) := ⟨by decide, by decide⟩
    have b_9 : bd 43 43 x0_ := eqX (eq_f e_7) (bdT x0_) kb_43 (by decide)
    refine lv_lookup (off := 123) (tgt := 124) hx hb dX0_levelOf_1 (by decide) (by decide) (by decide) ?_
    refine lv_iconst (v := 4) hx hb dX0_levelOf_124 (by decide) ?_
    have kb_4 : bd 4 4 (4 : Int32) := ⟨by decide, by decide⟩
    subst hQ
    exact W.iret (v := 4) hx hb hr (fun t ht hW => ⟨⟨_, _, rfl, ⟨(bd_sub kb_4 (by decide)), trivial⟩, q3_of g hK ht hW⟩, g.2.2.1.F ht⟩) g.2.2.1.2.2 dX0_levelOf_125
  by_cases e_10 : x0_ = 45
  · refine lv_topi (fun z_11 ez_11 => ?_)
    obtain rfl : z_11 = 45 := ez_11.trans e_10
    have kb_45 : bd 45 45 (45 : Int32) := ⟨by decide, by decide⟩
    have b_12 : bd 45 45 x0_ := eqX (eq_f e_10) (bdT x0_) kb_45 (by decide)
    refine lv_lookup (off := 123) (tgt := 124) hx hb dX0_levelOf_1 (by decide) (by decide) (by decide) ?_
    refine lv_iconst (v := 4) hx hb dX0_levelOf_124 (by decide) ?_
    have kb_4 : bd 4 4 (4 : Int32) := ⟨by decide, by decide⟩
    subst hQ
    exact W.iret (v := 4) hx hb hr (fun t ht hW => ⟨⟨_, _, rfl, ⟨(bd_sub kb_4 (by decide)), trivial⟩, q3_of g hK ht hW⟩, g.2.2.1.F ht⟩) g.2.2.1.2.2 dX0_levelOf_125
  by_cases e_13 : x0_ = 47
  · refine lv_topi (fun z_14 ez_14 => ?_)
    obtain rfl : z_14 = 47 := ez_14.trans e_13
    have kb_47 : bd 47 47 (47 : Int32) := ⟨by decide, by decide⟩
    have b_15 : bd 47 47 x0_ := eqX (eq_f e_13) (bdT x0_) kb_47 (by decide)
    refine lv_lookup (off := 125) (tgt := 126) hx hb dX0_levelOf_1 (by decide) (by decide) (by decide) ?_
    refine lv_iconst (v := 5) hx hb dX0_levelOf_126 (by decide) ?_
    have kb_5 : bd 5 5 (5 : Int32) := ⟨by decide, by decide⟩
    subst hQ
    exact W.iret (v := 5) hx hb hr (fun t ht hW => ⟨⟨_, _, rfl, ⟨(bd_sub kb_5 (by decide)), trivial⟩, q3_of g hK ht hW⟩, g.2.2.1.F ht⟩) g.2.2.1.2.2 dX0_levelOf_127
  by_cases e_16 : x0_ = 60
  · refine lv_topi (fun z_17 ez_17 => ?_)
    obtain rfl : z_17 = 60 := ez_17.trans e_16
    have kb_60 : bd 60 60 (60 : Int32) := ⟨by decide, by decide⟩
    have b_18 : bd 60 60 x0_ := eqX (eq_f e_16) (bdT x0_) kb_60 (by decide)
    refine lv_lookup (off := 121) (tgt := 122) hx hb dX0_levelOf_1 (by decide) (by decide) (by decide) ?_
    refine lv_iconst (v := 3) hx hb dX0_levelOf_122 (by decide) ?_
    have kb_3 : bd 3 3 (3 : Int32) := ⟨by decide, by decide⟩
    subst hQ
    exact W.iret (v := 3) hx hb hr (fun t ht hW => ⟨⟨_, _, rfl, ⟨(bd_sub kb_3 (by decide)), trivial⟩, q3_of g hK ht hW⟩, g.2.2.1.F ht⟩) g.2.2.1.2.2 dX0_levelOf_123
  by_cases e_19 : x0_ = 62
  · refine lv_topi (fun z_20 ez_20 => ?_)
    obtain rfl : z_20 = 62 := ez_20.trans e_19
    have kb_62 : bd 62 62 (62 : Int32) := ⟨by decide, by decide⟩
    have b_21 : bd 62 62 x0_ := eqX (eq_f e_19) (bdT x0_) kb_62 (by decide)
    refine lv_lookup (off := 121) (tgt := 122) hx hb dX0_levelOf_1 (by decide) (by decide) (by decide) ?_
    refine lv_iconst (v := 3) hx hb dX0_levelOf_122 (by decide) ?_
    have kb_3 : bd 3 3 (3 : Int32) := ⟨by decide, by decide⟩
    subst hQ
    exact W.iret (v := 3) hx hb hr (fun t ht hW => ⟨⟨_, _, rfl, ⟨(bd_sub kb_3 (by decide)), trivial⟩, q3_of g hK ht hW⟩, g.2.2.1.F ht⟩) g.2.2.1.2.2 dX0_levelOf_123
  by_cases e_22 : x0_ = 201
  · refine lv_topi (fun z_23 ez_23 => ?_)
    obtain rfl : z_23 = 201 := ez_23.trans e_22
    have kb_201 : bd 201 201 (201 : Int32) := ⟨by decide, by decide⟩
    have b_24 : bd 201 201 x0_ := eqX (eq_f e_22) (bdT x0_) kb_201 (by decide)
    refine lv_lookup (off := 119) (tgt := 120) hx hb dX0_levelOf_1 (by decide) (by decide) (by decide) ?_
    refine lv_iconst (v := 3) hx hb dX0_levelOf_120 (by decide) ?_
    have kb_3 : bd 3 3 (3 : Int32) := ⟨by decide, by decide⟩
    subst hQ
    exact W.iret (v := 3) hx hb hr (fun t ht hW => ⟨⟨_, _, rfl, ⟨(bd_sub kb_3 (by decide)), trivial⟩, q3_of g hK ht hW⟩, g.2.2.1.F ht⟩) g.2.2.1.2.2 dX0_levelOf_121
  by_cases e_25 : x0_ = 202
  · refine lv_topi (fun z_26 ez_26 => ?_)
    obtain rfl : z_26 = 202 := ez_26.trans e_25
    have kb_202 : bd 202 202 (202 : Int32) := ⟨by decide, by decide⟩
    have b_27 : bd 202 202 x0_ := eqX (eq_f e_25) (bdT x0_) kb_202 (by decide)
    refine lv_lookup (off := 119) (tgt := 120) hx hb dX0_levelOf_1 (by decide) (by decide) (by decide) ?_
    refine lv_iconst (v := 3) hx hb dX0_levelOf_120 (by decide) ?_
    have kb_3 : bd 3 3 (3 : Int32) := ⟨by decide, by decide⟩
    subst hQ
    exact W.iret (v := 3) hx hb hr (fun t ht hW => ⟨⟨_, _, rfl, ⟨(bd_sub kb_3 (by decide)), trivial⟩, q3_of g hK ht hW⟩, g.2.2.1.F ht⟩) g.2.2.1.2.2 dX0_levelOf_121
  by_cases e_28 : x0_ = 203
  · refine lv_topi (fun z_29 ez_29 => ?_)
    obtain rfl : z_29 = 203 := ez_29.trans e_28
    have kb_203 : bd 203 203 (203 : Int32) := ⟨by decide, by decide⟩
    have b_30 : bd 203 203 x0_ := eqX (eq_f e_28) (bdT x0_) kb_203 (by decide)
    refine lv_lookup (off := 121) (tgt := 122) hx hb dX0_levelOf_1 (by decide) (by decide) (by decide) ?_
    refine lv_iconst (v := 3) hx hb dX0_levelOf_122 (by decide) ?_
    have kb_3 : bd 3 3 (3 : Int32) := ⟨by decide, by decide⟩
    subst hQ
    exact W.iret (v := 3) hx hb hr (fun t ht hW => ⟨⟨_, _, rfl, ⟨(bd_sub kb_3 (by decide)), trivial⟩, q3_of g hK ht hW⟩, g.2.2.1.F ht⟩) g.2.2.1.2.2 dX0_levelOf_123
  by_cases e_31 : x0_ = 204
  · refine lv_topi (fun z_32 ez_32 => ?_)
    obtain rfl : z_32 = 204 := ez_32.trans e_31
    have kb_204 : bd 204 204 (204 : Int32) := ⟨by decide, by decide⟩
    have b_33 : bd 204 204 x0_ := eqX (eq_f e_31) (bdT x0_) kb_204 (by decide)
    refine lv_lookup (off := 121) (tgt := 122) hx hb dX0_levelOf_1 (by decide) (by decide) (by decide) ?_
    refine lv_iconst (v := 3) hx hb dX0_levelOf_122 (by decide) ?_
    have kb_3 : bd 3 3 (3 : Int32) := ⟨by decide, by decide⟩
    subst hQ
    exact W.iret (v := 3) hx hb hr (fun t ht hW => ⟨⟨_, _, rfl, ⟨(bd_sub kb_3 (by decide)), trivial⟩, q3_of g hK ht hW⟩, g.2.2.1.F ht⟩) g.2.2.1.2.2 dX0_levelOf_123
  by_cases e_34 : x0_ = 205
  · refine lv_topi (fun z_35 ez_35 => ?_)
    obtain rfl : z_35 = 205 := ez_35.trans e_34
    have kb_205 : bd 205 205 (205 : Int32) := ⟨by decide, by decide⟩
    have b_36 : bd 205 205 x0_ := eqX (eq_f e_34) (bdT x0_) kb_205 (by decide)
    refine lv_lookup (off := 117) (tgt := 118) hx hb dX0_levelOf_1 (by decide) (by decide) (by decide) ?_
    refine lv_iconst (v := 2) hx hb dX0_levelOf_118 (by decide) ?_
    have kb_2 : bd 2 2 (2 : Int32) := ⟨by decide, by decide⟩
    subst hQ
    exact W.iret (v := 2) hx hb hr (fun t ht hW => ⟨⟨_, _, rfl, ⟨(bd_sub kb_2 (by decide)), trivial⟩, q3_of g hK ht hW⟩, g.2.2.1.F ht⟩) g.2.2.1.2.2 dX0_levelOf_119
  by_cases e_37 : x0_ = 206
  · refine lv_topi (fun z_38 ez_38 => ?_)
    obtain rfl : z_38 = 206 := ez_38.trans e_37
    have kb_206 : bd 206 206 (206 : Int32) := ⟨by decide, by decide⟩
    have b_39 : bd 206 206 x0_ := eqX (eq_f e_37) (bdT x0_) kb_206 (by decide)
    refine lv_lookup (off := 115) (tgt := 116) hx hb dX0_levelOf_1 (by decide) (by decide) (by decide) ?_
    refine lv_iconst (v := 1) hx hb dX0_levelOf_116 (by decide) ?_
    have kb_1 : bd 1 1 (1 : Int32) := ⟨by decide, by decide⟩
    subst hQ
    exact W.iret (v := 1) hx hb hr (fun t ht hW => ⟨⟨_, _, rfl, ⟨(bd_sub kb_1 (by decide)), trivial⟩, q3_of g hK ht hW⟩, g.2.2.1.F ht⟩) g.2.2.1.2.2 dX0_levelOf_117
  refine lv_lookup (off := 127) (tgt := 128) hx hb dX0_levelOf_1 (by decide) (by have a0 : x0_.toInt ≠ 37 := fun h => e_1 (Int32.toInt_inj.mp (h.trans (by decide))); have a1 : x0_.toInt ≠ 42 := fun h => e_4 (Int32.toInt_inj.mp (h.trans (by decide))); have a2 : x0_.toInt ≠ 43 := fun h => e_7 (Int32.toInt_inj.mp (h.trans (by decide))); have a3 : x0_.toInt ≠ 45 := fun h => e_10 (Int32.toInt_inj.mp (h.trans (by decide))); have a4 : x0_.toInt ≠ 47 := fun h => e_13 (Int32.toInt_inj.mp (h.trans (by decide))); have a5 : x0_.toInt ≠ 60 := fun h => e_16 (Int32.toInt_inj.mp (h.trans (by decide))); have a6 : x0_.toInt ≠ 62 := fun h => e_19 (Int32.toInt_inj.mp (h.trans (by decide))); have a7 : x0_.toInt ≠ 201 := fun h => e_22 (Int32.toInt_inj.mp (h.trans (by decide))); have a8 : x0_.toInt ≠ 202 := fun h => e_25 (Int32.toInt_inj.mp (h.trans (by decide))); have a9 : x0_.toInt ≠ 203 := fun h => e_28 (Int32.toInt_inj.mp (h.trans (by decide))); have a10 : x0_.toInt ≠ 204 := fun h => e_31 (Int32.toInt_inj.mp (h.trans (by decide))); have a11 : x0_.toInt ≠ 205 := fun h => e_34 (Int32.toInt_inj.mp (h.trans (by decide))); have a12 : x0_.toInt ≠ 206 := fun h => e_37 (Int32.toInt_inj.mp (h.trans (by decide))); simp [Op.lookupswitch.offset, a0, a1, a2, a3, a4, a5, a6, a7, a8, a9, a10, a11, a12, Ne.symm]) (by decide) ?_
  refine lv_iconst (v := 0) hx hb dX0_levelOf_128 (by decide) ?_
  have kb_0 : bd 0 0 (0 : Int32) := ⟨by decide, by decide⟩
  subst hQ
  exact W.iret (v := 0) hx hb hr (fun t ht hW => ⟨⟨_, _, rfl, ⟨(bd_sub kb_0 (by decide)), trivial⟩, q3_of g hK ht hW⟩, g.2.2.1.F ht⟩) g.2.2.1.2.2 dX0_levelOf_129
