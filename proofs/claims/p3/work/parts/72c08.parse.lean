set_option maxHeartbeats 4000000 in
set_option maxRecDepth 100000 in
theorem r_X0_readSize (l : Launch) (dC : Nat → ClassId) (dI : Nat → Nat → Nat) (L : List Nat) (kd : Nat → Nat) (tys : List (ClassId × FieldType)) (f0 : Nat → va_E) (sz : Nat) (hWT : WT L kd tys f0) (a0_ : Nat) (ma0_ : a0_ ∈ L) (ka0_ : kd a0_ = 0) (q0_ : Nat) (mq0_ : q0_ ∈ L) (kq0_ : kd q0_ = 8) (q1_ : Nat) (mq1_ : q1_ ∈ L) (kq1_ : kd q1_ = 5) (q2_ : Nat) (mq2_ : q2_ ∈ L) (kq2_ : kd q2_ = 7) (q3_ : Nat) (mq3_ : q3_ ∈ L) (kq3_ : kd q3_ = 9) (y0_ : Int32) (by0_ : bd 0 0 y0_) (T_ : Nat) (J_ : Int32 → Prop) (hGcq2_ : cOK f0 q2_) (hGdq2_ : dOK L kd f0 q2_ T_) (hGsq2_ : jS f0 q2_ J_) (hfx : Fs L kd f0 [(0, 0, a0_, .ref q0_), (0, 1, a0_, .ref q1_), (0, 2, a0_, .ref q2_), (5, 1, q1_, .ref q3_), (8, 8, q0_, .int y0_)]) : Met l yX0_readSize (.code yX0_readSize cX0_readSize 3 none :: lw_g) ({ frames := 2, cells := 0, slots := 0, locals := 46 }) (va_Pc [.ref a0_] (P3 (dC, dI) L tys f0 sz)) (va_Qv (fun (f : Nat → va_E) => (cOK f q2_ ∧ dOK L kd f q2_ T_ ∧ jS f q2_ J_ ∧ ∃ z1_ : Int32, bd 1 300 z1_ ∧ ∃ z2_ : Int32, bd 1 1201 z2_ ∧ ∃ z4_ : Int32, bd 1 10 z4_ ∧ ∃ z5_ : Int32, bd (-2147483648) 39 z5_ ∧ Fs L kd f [(0, 12, a0_, .int 0), (0, 10, a0_, .int z1_), (8, 6, q0_, .int z2_), (8, 8, q0_, .int y0_), (9, 2, q3_, .int z4_), (0, 11, a0_, .int z5_)]) ∨ (dOK L kd f q2_ T_ ∧ ∃ z0_ : Int32, bd 1201 1201 z0_ ∧ ∃ z1_ : Int32, bd 1 7 z1_ ∧ Fs L kd f [(8, 6, q0_, .int z0_), (8, 8, q0_, .int z1_)])) (Q3 (dC, dI) L kd tys [(0, 10), (0, 12), (7, 6), (7, 18), (8, 6), (8, 8), (8, 9)] [115, 138, 139] f0 sz) (pA L sz)) 0 0 (pA L sz) := by
  refine Met.ofW (cc := cX0_readSize) (maxL := 3) (ret := none) (by decide) rfl ?_
  intro p e s m args below meth c s₁ B hml hv
  obtain ⟨rfl, hsz, hP, hK, hD0⟩ := hv
  have hx := B.exec
  have hb := B.bytes
  have hr := B.returns
  have hts := atoms_spec (ws := (.code yX0_readSize cX0_readSize 3 none :: lw_g)) B.pre
  have hown : s.vm.findClass RX0 = some m.cls := findClass_of_methodNamed B.named
  have hlocks := B.notSynchronized
  subst hsz
  have g : G3 (dC, dI) L kd tys s f0 [(0, 10), (0, 12), (7, 6), (7, 18), (8, 6), (8, 8), (8, 9)] [115, 138, 139] f0 s.heap [] [(0, 0, a0_, .ref q0_), (0, 1, a0_, .ref q1_), (0, 2, a0_, .ref q2_), (5, 1, q1_, .ref q3_), (8, 8, q0_, .int y0_)] := G3.start hP hD0 hWT hfx
  have hl := lv_entry ([.ref a0_]) (n := 3) (Nat.le_of_ble_eq_true rfl)
  rw [lg_entry_eq]
  generalize (lg_sl ([.ref a0_]) ++ List.replicate (3 - (lg_sl ([.ref a0_])).length) Slot.unset).toArray = ls at hl ⊢
  have hl : lv_has ls 3 [(0, .ref a0_)] := hl
  refine W_q (fun Q hQ => ?_)
  refine lv_aload_n hx hb dX0_readSize_0 rfl (lv_at hl 0 rfl) ?_
  refine g_getk (C := RX0) (T := TX0) (N := 14) hx hb hts (mc_ inX0) hown hK g rfl 0 (by decide) rfl (hts _ (List.mem_cons_of_mem _ t_373)) (fun _ h9 => h9) 0 rfl dX0_readSize_1 ?_
  have go_ := g
  refine g_callv (va_runV (As := []) (rest := []) ⟨hx, hb, hml, hown, hts⟩ (r_X8_next l dC dI L kd tys f0 s.heap.size g.2.2.2.1 q0_ mq0_ kq0_) (cwV 0 hts (gV_ t_1225 t_1103 t_1104 t_184 t_1105) rfl rfl rfl (by decide +kernel) ⟨(Nat.le_of_ble_eq_true rfl), (Nat.le_of_ble_eq_true rfl)⟩) (pre3V g hK mq0_ kq0_ (by decide) (q := (RX8, TX8, 10)) rfl) rfl rfl hl.1 rfl (lv_room (Nat.le_of_ble_eq_true rfl)) dX0_readSize_4 ⟨(Nat.le_of_ble_eq_true rfl), (Nat.le_of_ble_eq_true rfl)⟩) g hK (by decide) (by decide) (fx' := [(0, 0, a0_, .ref q0_), (0, 1, a0_, .ref q1_), (0, 2, a0_, .ref q2_), (5, 1, q1_, .ref q3_), (8, 8, q0_, .int y0_)]) rfl (fun fr_1 H locs hp hMr_1 g => ?_)
  obtain ⟨x_2, h_3, hF_4⟩ := hp
  have hG_5 := cOK.frame hMr_1 go_.2.2.2.1 mq2_ kq2_ (by decide) (by decide) hGcq2_
  have hG_6 := dOK.frame hMr_1 go_.2.2.2.1 mq2_ kq2_ (by decide) (by decide) hGdq2_
  have hG_7 := jS.frame hMr_1 go_.2.2.2.1 mq2_ kq2_ (by decide) (by decide) hGsq2_
  have g := g.more hF_4
  refine lv_aload_n hx hb dX0_readSize_7 rfl (lv_at hl 0 rfl) ?_
  have go_ := g
  refine g_callv (va_runV (As := []) (rest := []) ⟨hx, hb, hml, hown, hts⟩ (r_X0_takeBracket l dC dI L kd tys fr_1 H.size g.2.2.2.1 a0_ ma0_ ka0_ q0_ mq0_ kq0_ y0_ by0_ (g.fcts [1, 5] rfl)) (cwV 0 hts (gV_ t_1289 t_1291 t_29 t_190 t_1292) rfl rfl rfl (by decide +kernel) ⟨(Nat.le_of_ble_eq_true rfl), (Nat.le_of_ble_eq_true rfl)⟩) (pre3V g hK ma0_ ka0_ (by decide) (q := (RX0, TX0, 14)) rfl) rfl rfl hl.1 rfl (lv_room (Nat.le_of_ble_eq_true rfl)) dX0_readSize_8 ⟨(Nat.le_of_ble_eq_true rfl), (Nat.le_of_ble_eq_true rfl)⟩) g hK (by decide) (by decide) (fx' := [(0, 0, a0_, .ref q0_), (0, 1, a0_, .ref q1_), (0, 2, a0_, .ref q2_), (5, 1, q1_, .ref q3_)]) rfl (fun fr_8 H locs hp hMr_8 g => ?_)
  rcases hp with ⟨x_9, h_10, x_11, h_12, hF_13⟩ | ⟨x_14, h_15, hF_16⟩
  · have hG_17 := cOK.frame hMr_8 go_.2.2.2.1 mq2_ kq2_ (by decide) (by decide) hG_5
    have hG_18 := dOK.frame hMr_8 go_.2.2.2.1 mq2_ kq2_ (by decide) (by decide) hG_6
    have hG_19 := jS.frame hMr_8 go_.2.2.2.1 mq2_ kq2_ (by decide) (by decide) hG_7
    have g := g.more hF_13
    refine lv_aload_n hx hb dX0_readSize_11 rfl (lv_at hl 0 rfl) ?_
    refine g_getk (C := RX0) (T := TX0) (N := 14) hx hb hts (mc_ inX0) hown hK g rfl 0 (by decide) rfl (hts _ (List.mem_cons_of_mem _ t_373)) (fun _ h9 => h9) 3 rfl dX0_readSize_12 ?_
    have go_ := g
    refine g_calli (va_runV (As := []) (rest := []) ⟨hx, hb, hml, hown, hts⟩ (r_X8_place l dC dI L kd tys fr_8 H.size g.2.2.2.1 q0_ mq0_ kq0_) (cwV 0 hts (gV_ t_1220 t_1111 t_1112 t_184 t_1113) rfl rfl rfl (by decide +kernel) ⟨(Nat.le_of_ble_eq_true rfl), (Nat.le_of_ble_eq_true rfl)⟩) (pre3V g hK mq0_ kq0_ (by decide) (q := (RX8, TX8, 10)) rfl) rfl rfl hl.1 rfl (lv_room (Nat.le_of_ble_eq_true rfl)) dX0_readSize_15 ⟨(Nat.le_of_ble_eq_true rfl), (Nat.le_of_ble_eq_true rfl)⟩) g hK (by decide) (by decide) (fx' := [(8, 6, q0_, .int x_9), (0, 11, a0_, .int x_11), (8, 8, q0_, .int y0_), (0, 0, a0_, .ref q0_), (0, 1, a0_, .ref q1_), (0, 2, a0_, .ref q2_), (5, 1, q1_, .ref q3_)]) rfl (fun r_20 fr_20 H locs hp hMr_20 g => ?_)
    have hG_21 := cOK.frame hMr_20 go_.2.2.2.1 mq2_ kq2_ (by decide) (by decide) hG_17
    have hG_22 := dOK.frame hMr_20 go_.2.2.2.1 mq2_ kq2_ (by decide) (by decide) hG_18
    have hG_23 := jS.frame hMr_20 go_.2.2.2.1 mq2_ kq2_ (by decide) (by decide) hG_19
    refine lv_istore_n (lv' := [(1, .int r_20), (0, .ref a0_)]) hx hb dX0_readSize_18 rfl hl (by decide) rfl (fun ls hl => ?_)
    refine lv_aload_n hx hb dX0_readSize_19 rfl (lv_at hl 1 rfl) ?_
    refine g_getk (C := RX0) (T := TX0) (N := 14) hx hb hts (mc_ inX0) hown hK g rfl 1 (by decide) rfl (hts _ (List.mem_cons_of_mem _ t_374)) (fun _ h9 => h9) 4 rfl dX0_readSize_20 ?_
    refine lv_aload_n hx hb dX0_readSize_23 rfl (lv_at hl 1 rfl) ?_
    refine g_getk (C := RX0) (T := TX0) (N := 14) hx hb hts (mc_ inX0) hown hK g rfl 0 (by decide) rfl (hts _ (List.mem_cons_of_mem _ t_373)) (fun _ h9 => h9) 3 rfl dX0_readSize_24 ?_
    have go_ := g
    refine g_calll (va_runV (As := []) (rest := [.ref q1_]) ⟨hx, hb, hml, hown, hts⟩ (r_X8_value l dC dI L kd tys fr_20 H.size g.2.2.2.1 q0_ mq0_ kq0_) (cwV 0 hts (gV_ t_1238 t_1115 t_1116 t_184 t_1117) rfl rfl rfl (by decide +kernel) ⟨(Nat.le_of_ble_eq_true rfl), (Nat.le_of_ble_eq_true rfl)⟩) (pre3V g hK mq0_ kq0_ (by decide) (q := (RX8, TX8, 10)) rfl) rfl rfl hl.1 rfl (lv_room (Nat.le_of_ble_eq_true rfl)) dX0_readSize_27 ⟨(Nat.le_of_ble_eq_true rfl), (Nat.le_of_ble_eq_true rfl)⟩) g hK (by decide) (by decide) (fx' := [(8, 6, q0_, .int x_9), (0, 11, a0_, .int x_11), (8, 8, q0_, .int y0_), (0, 0, a0_, .ref q0_), (0, 1, a0_, .ref q1_), (0, 2, a0_, .ref q2_), (5, 1, q1_, .ref q3_)]) rfl (fun r_24 fr_24 H locs hp hMr_24 g => ?_)
    have hG_25 := cOK.frame hMr_24 go_.2.2.2.1 mq2_ kq2_ (by decide) (by decide) hG_21
    have hG_26 := dOK.frame hMr_24 go_.2.2.2.1 mq2_ kq2_ (by decide) (by decide) hG_22
    have hG_27 := jS.frame hMr_24 go_.2.2.2.1 mq2_ kq2_ (by decide) (by decide) hG_23
    have go_ := g
    refine g_calli (va_runV (As := [.long r_24]) (rest := []) ⟨hx, hb, hml, hown, hts⟩ (r_X5_placeNamed l dC dI L kd tys fr_24 H.size g.2.2.2.1 q1_ mq1_ kq1_ r_24 q3_ mq3_ kq3_ (g.fcts [6] rfl)) (cwV 1 hts (gV_ t_1251 t_1252 t_1253 t_189 t_1254) rfl rfl rfl (by decide +kernel) ⟨(Nat.le_of_ble_eq_true rfl), (Nat.le_of_ble_eq_true rfl)⟩) (pre3V g hK mq1_ kq1_ (by decide) (q := (RX5, TX5, 9)) rfl) rfl rfl hl.1 rfl (lv_room (Nat.le_of_ble_eq_true rfl)) dX0_readSize_30 ⟨(Nat.le_of_ble_eq_true rfl), (Nat.le_of_ble_eq_true rfl)⟩) g hK (by decide) (by decide) (fx' := [(8, 6, q0_, .int x_9), (0, 11, a0_, .int x_11), (8, 8, q0_, .int y0_), (0, 0, a0_, .ref q0_), (0, 1, a0_, .ref q1_), (0, 2, a0_, .ref q2_), (5, 1, q1_, .ref q3_)]) rfl (fun r_28 fr_28 H locs hp hMr_28 g => ?_)
    obtain ⟨h_29, -⟩ := hp
    have hG_30 := cOK.frame hMr_28 go_.2.2.2.1 mq2_ kq2_ (by decide) (by decide) hG_25
    have hG_31 := dOK.frame hMr_28 go_.2.2.2.1 mq2_ kq2_ (by decide) (by decide) hG_26
    have hG_32 := jS.frame hMr_28 go_.2.2.2.1 mq2_ kq2_ (by decide) (by decide) hG_27
    refine lv_istore_n (lv' := [(2, .int r_28), (1, .int r_20), (0, .ref a0_)]) hx hb dX0_readSize_33 rfl hl (by decide) rfl (fun ls hl => ?_)
    refine lv_iload_n hx hb dX0_readSize_34 rfl (lv_at hl 0 rfl) ?_
    refine lv_iconst (v := (-1)) hx hb dX0_readSize_35 (by decide) ?_
    have kb_m1 : bd (-1) (-1) ((-1) : Int32) := ⟨by decide, by decide⟩
    refine lv_icmp_ne (tgt := 49) hx hb dX0_readSize_36 (by decide) (fun c_33 => ?_) (fun c_33 => ?_)
    · have fc_33 := neq_f c_33
      have b_34 : bd 0 26 r_28 := neX fc_33 h_29 kb_m1 (by decide)
      refine lv_aload_n hx hb dX0_readSize_49 rfl (lv_at hl 2 rfl) ?_
      refine g_getk (C := RX0) (T := TX0) (N := 14) hx hb hts (mc_ inX0) hown hK g rfl 0 (by decide) rfl (hts _ (List.mem_cons_of_mem _ t_373)) (fun _ h9 => h9) 3 rfl dX0_readSize_50 ?_
      have go_ := g
      refine g_callv (va_runV (As := []) (rest := []) ⟨hx, hb, hml, hown, hts⟩ (r_X8_next l dC dI L kd tys fr_28 H.size g.2.2.2.1 q0_ mq0_ kq0_) (cwV 0 hts (gV_ t_1225 t_1103 t_1104 t_184 t_1105) rfl rfl rfl (by decide +kernel) ⟨(Nat.le_of_ble_eq_true rfl), (Nat.le_of_ble_eq_true rfl)⟩) (pre3V g hK mq0_ kq0_ (by decide) (q := (RX8, TX8, 10)) rfl) rfl rfl hl.1 rfl (lv_room (Nat.le_of_ble_eq_true rfl)) dX0_readSize_53 ⟨(Nat.le_of_ble_eq_true rfl), (Nat.le_of_ble_eq_true rfl)⟩) g hK (by decide) (by decide) (fx' := [(0, 11, a0_, .int x_11), (8, 8, q0_, .int y0_), (0, 0, a0_, .ref q0_), (0, 1, a0_, .ref q1_), (0, 2, a0_, .ref q2_), (5, 1, q1_, .ref q3_)]) rfl (fun fr_35 H locs hp hMr_35 g => ?_)
      obtain ⟨x_36, h_37, hF_38⟩ := hp
      have hG_39 := cOK.frame hMr_35 go_.2.2.2.1 mq2_ kq2_ (by decide) (by decide) hG_30
      have hG_40 := dOK.frame hMr_35 go_.2.2.2.1 mq2_ kq2_ (by decide) (by decide) hG_31
      have hG_41 := jS.frame hMr_35 go_.2.2.2.1 mq2_ kq2_ (by decide) (by decide) hG_32
      have g := g.more hF_38
      refine lv_aload_n hx hb dX0_readSize_56 rfl (lv_at hl 2 rfl) ?_
      refine g_getk (C := RX0) (T := TX0) (N := 14) hx hb hts (mc_ inX0) hown hK g rfl 1 (by decide) rfl (hts _ (List.mem_cons_of_mem _ t_374)) (fun _ h9 => h9) 4 rfl dX0_readSize_57 ?_
      refine g_getk (C := RX5) (T := TX5) (N := 9) hx hb hts (mc_ inX5) hown hK g rfl 1 (by decide) rfl (hts _ (List.mem_cons_of_mem _ t_332)) (fun _ h9 => h9) 6 rfl dX0_readSize_60 ?_
      refine lv_iload_n hx hb dX0_readSize_63 rfl (lv_at hl 0 rfl) ?_
      have go_ := g
      refine g_calli (va_runV (As := [.int r_28]) (rest := []) ⟨hx, hb, hml, hown, hts⟩ (r_X9_isRow l dC dI L kd tys fr_35 H.size g.2.2.2.1 q3_ mq3_ kq3_ r_28) (cwV 1 hts (gV_ t_1256 t_1257 t_1258 t_192 t_1259) rfl rfl rfl (by decide +kernel) ⟨(Nat.le_of_ble_eq_true rfl), (Nat.le_of_ble_eq_true rfl)⟩) (pre3V g hK mq3_ kq3_ (by decide) (q := (RX9, TX9, 13)) rfl) rfl rfl hl.1 rfl (lv_room (Nat.le_of_ble_eq_true rfl)) dX0_readSize_64 ⟨(Nat.le_of_ble_eq_true rfl), (Nat.le_of_ble_eq_true rfl)⟩) g hK (by decide) (by decide) (fx' := [(8, 6, q0_, .int x_36), (0, 11, a0_, .int x_11), (8, 8, q0_, .int y0_), (0, 0, a0_, .ref q0_), (0, 1, a0_, .ref q1_), (0, 2, a0_, .ref q2_), (5, 1, q1_, .ref q3_)]) rfl (fun r_42 fr_42 H locs hp hMr_42 g => ?_)
      rcases hp with ⟨h_43, -⟩ | ⟨h_44, h_45, x_46, h_47, hF_48⟩
      · have hG_49 := cOK.frame hMr_42 go_.2.2.2.1 mq2_ kq2_ (by decide) (by decide) hG_39
        have hG_50 := dOK.frame hMr_42 go_.2.2.2.1 mq2_ kq2_ (by decide) (by decide) hG_40
        have hG_51 := jS.frame hMr_42 go_.2.2.2.1 mq2_ kq2_ (by decide) (by decide) hG_41
        obtain rfl : r_42 = 0 := h_43
        refine lv_if_ne (tgt := 80) hx hb dX0_readSize_67 (by decide) (fun c_ => absurd c_ (by decide)) (fun c_ => ?_)
        refine lv_aload_n hx hb dX0_readSize_70 rfl (lv_at hl 2 rfl) ?_
        refine g_getk (C := RX0) (T := TX0) (N := 14) hx hb hts (mc_ inX0) hown hK g rfl 0 (by decide) rfl (hts _ (List.mem_cons_of_mem _ t_373)) (fun _ h9 => h9) 3 rfl dX0_readSize_71 ?_
        refine lv_iconst (v := 5) hx hb dX0_readSize_74 (by decide) ?_
        refine lv_iload_n hx hb dX0_readSize_75 rfl (lv_at hl 1 rfl) ?_
        have kb_5 : bd 5 5 (5 : Int32) := ⟨by decide, by decide⟩
        have go_ := g
        refine g_callv (va_runV (As := [.int 5, .int r_20]) (rest := []) ⟨hx, hb, hml, hown, hts⟩ (r_X8_fail l dC dI L kd tys fr_42 H.size g.2.2.2.1 q0_ mq0_ kq0_ 5 (bd_sub kb_5 (by decide)) r_20 y0_ by0_ (g.fcts [2] rfl)) (cwV 2 hts (gV_ t_1215 t_1107 t_1108 t_184 t_1109) rfl rfl rfl (by decide +kernel) ⟨(Nat.le_of_ble_eq_true rfl), (Nat.le_of_ble_eq_true rfl)⟩) (pre3V g hK mq0_ kq0_ (by decide) (q := (RX8, TX8, 10)) rfl) rfl rfl hl.1 rfl (lv_room (Nat.le_of_ble_eq_true rfl)) dX0_readSize_76 ⟨(Nat.le_of_ble_eq_true rfl), (Nat.le_of_ble_eq_true rfl)⟩) g hK (by decide) (by decide) (fx' := [(0, 11, a0_, .int x_11), (0, 0, a0_, .ref q0_), (0, 1, a0_, .ref q1_), (0, 2, a0_, .ref q2_), (5, 1, q1_, .ref q3_)]) rfl (fun fr_52 H locs hp hMr_52 g => ?_)
        obtain ⟨x_53, h_54, hF_55⟩ := hp
        have hG_56 := cOK.frame hMr_52 go_.2.2.2.1 mq2_ kq2_ (by decide) (by decide) hG_49
        have hG_57 := dOK.frame hMr_52 go_.2.2.2.1 mq2_ kq2_ (by decide) (by decide) hG_50
        have hG_58 := jS.frame hMr_52 go_.2.2.2.1 mq2_ kq2_ (by decide) (by decide) hG_51
        have g := g.more hF_55
        have kb_1201 : bd 1201 1201 (1201 : Int32) := ⟨by decide, by decide⟩
        subst hQ
        exact W.vret hx hb hr (fun t ht hW => ⟨⟨_, rfl, Or.inr (⟨hG_57, 1201, kb_1201, x_53, h_54, (g.fcts [0, 1] rfl)⟩), q3_of g hK ht hW⟩, g.2.2.1.F ht⟩) g.2.2.1.2.2 dX0_readSize_79
      · have hG_59 := cOK.frame hMr_42 go_.2.2.2.1 mq2_ kq2_ (by decide) (by decide) hG_39
        have hG_60 := dOK.frame hMr_42 go_.2.2.2.1 mq2_ kq2_ (by decide) (by decide) hG_40
        have hG_61 := jS.frame hMr_42 go_.2.2.2.1 mq2_ kq2_ (by decide) (by decide) hG_41
        obtain rfl : r_42 = 1 := h_44
        have b_62 : bd 0 9 r_28 := eqX rfl b_34 h_45 (by decide)
        have g := g.more hF_48
        refine lv_if_ne (tgt := 80) hx hb dX0_readSize_67 (by decide) (fun c_ => ?_) (fun c_ => absurd c_ (by decide))
        refine lv_aload_n hx hb dX0_readSize_80 rfl (lv_at hl 2 rfl) ?_
        refine g_getk (C := RX0) (T := TX0) (N := 14) hx hb hts (mc_ inX0) hown hK g rfl 0 (by decide) rfl (hts _ (List.mem_cons_of_mem _ t_373)) (fun _ h9 => h9) 4 rfl dX0_readSize_81 ?_
        refine lv_bipush (v := 41) hx hb dX0_readSize_84 (by decide) ?_
        have go_ := g
        refine g_callv (va_runV (As := [.int 41]) (rest := []) ⟨hx, hb, hml, hown, hts⟩ (r_X8_take l dC dI L kd tys fr_42 H.size g.2.2.2.1 q0_ mq0_ kq0_ 41 y0_ by0_ (g.fcts [3] rfl)) (cwV 1 hts (gV_ t_1284 t_1099 t_1100 t_184 t_1101) rfl rfl rfl (by decide +kernel) ⟨(Nat.le_of_ble_eq_true rfl), (Nat.le_of_ble_eq_true rfl)⟩) (pre3V g hK mq0_ kq0_ (by decide) (q := (RX8, TX8, 10)) rfl) rfl rfl hl.1 rfl (lv_room (Nat.le_of_ble_eq_true rfl)) dX0_readSize_86 ⟨(Nat.le_of_ble_eq_true rfl), (Nat.le_of_ble_eq_true rfl)⟩) g hK (by decide) (by decide) (fx' := [(9, 2, q3_, .int x_46), (0, 11, a0_, .int x_11), (0, 0, a0_, .ref q0_), (0, 1, a0_, .ref q1_), (0, 2, a0_, .ref q2_), (5, 1, q1_, .ref q3_)]) rfl (fun fr_63 H locs hp hMr_63 g => ?_)
        rcases hp with ⟨x_64, h_65, hF_66⟩ | ⟨x_67, h_68, hF_69⟩
        · have hG_70 := cOK.frame hMr_63 go_.2.2.2.1 mq2_ kq2_ (by decide) (by decide) hG_59
          have hG_71 := dOK.frame hMr_63 go_.2.2.2.1 mq2_ kq2_ (by decide) (by decide) hG_60
          have hG_72 := jS.frame hMr_63 go_.2.2.2.1 mq2_ kq2_ (by decide) (by decide) hG_61
          have g := g.more hF_66
          refine lv_aload_n hx hb dX0_readSize_89 rfl (lv_at hl 2 rfl) ?_
          refine g_getk (C := RX0) (T := TX0) (N := 14) hx hb hts (mc_ inX0) hown hK g rfl 2 (by decide) rfl (hts _ (List.mem_cons_of_mem _ t_375)) (fun _ h9 => h9) 6 rfl dX0_readSize_90 ?_
          refine lv_iconst (v := 1) hx hb dX0_readSize_93 (by decide) ?_
          refine lv_aload_n hx hb dX0_readSize_94 rfl (lv_at hl 2 rfl) ?_
          refine g_getk (C := RX0) (T := TX0) (N := 14) hx hb hts (mc_ inX0) hown hK g rfl 1 (by decide) rfl (hts _ (List.mem_cons_of_mem _ t_374)) (fun _ h9 => h9) 5 rfl dX0_readSize_95 ?_
          refine g_getk (C := RX5) (T := TX5) (N := 9) hx hb hts (mc_ inX5) hown hK g rfl 1 (by decide) rfl (hts _ (List.mem_cons_of_mem _ t_332)) (fun _ h9 => h9) 7 rfl dX0_readSize_98 ?_
          refine g_getr (K := 154) (C := RX9) (T := TX9) (N := 13) hx hb hts (mc_ inX9) hown hK g mq3_ kq3_ (by decide) rfl 5 (by decide) rfl (hts _ (List.mem_cons_of_mem _ t_491)) (fun _ h9 => h9) rfl dX0_readSize_101 (fun a_73 ma_73 ka_73 g => ?_)
          refine lv_iload_n hx hb dX0_readSize_104 rfl (lv_at hl 0 rfl) ?_
          refine g_iald hx hb hK g ma_73 ka_73 (by decide) rfl (in_bd b_62 (by decide)) dX0_readSize_105 (fun x_74 bx_74 cx_74 => ?_)
          obtain ⟨a_75, ma_75, ka_75, g⟩ := g_factr g mq2_ kq2_ (by decide) 4 rfl
          obtain ⟨a_76, ma_76, ka_76, g⟩ := g_factr g mq2_ kq2_ (by decide) 5 rfl
          obtain ⟨x_77, bx_77, g⟩ := g_facti g mq2_ kq2_ (by decide) 6 rfl
          have kb_1 : bd 1 1 (1 : Int32) := ⟨by decide, by decide⟩
          have go_ := g
          refine g_callv (va_runV (As := [.int 1, .int x_74]) (rest := []) ⟨hx, hb, hml, hown, hts⟩ (r_X7_emitN l dC dI L kd tys fr_63 H.size g.2.2.2.1 q2_ mq2_ kq2_ a_75 ma_75 ka_75 a_76 ma_76 ka_76 x_77 bx_77 T_ hG_71 (1 : Int32) x_74 (fun j9 => jOK fr_63 q2_ j9) hG_70 (fun _ h9 => h9) ⟨(fun h9 => ⟨(by have h9_0 := b_62; unfold bd at h9_0; have h9_1 := h_12; unfold bd at h9_1; have h9_2 := h_3; unfold bd at h9_2; have h9_3 := h_37; unfold bd at h9_3; have h9_4 := h_47; unfold bd at h9_4; have h9_5 := h_65; unfold bd at h9_5; have h9_6 := bx_74; unfold bd at h9_6; have h9_7 := bx_77; unfold bd at h9_7; have h9_8 := h_10; unfold bd at h9_8; have h9_9 := by0_; unfold bd at h9_9; have h8_0 := kb_1; unfold bd at h8_0; have h8_1 := kb_m1; unfold bd at h8_1; omega), (by have h9_0 := b_62; unfold bd at h9_0; have h9_1 := h_12; unfold bd at h9_1; have h9_2 := h_3; unfold bd at h9_2; have h9_3 := h_37; unfold bd at h9_3; have h9_4 := h_47; unfold bd at h9_4; have h9_5 := h_65; unfold bd at h9_5; have h9_6 := bx_74; unfold bd at h9_6; have h9_7 := bx_77; unfold bd at h9_7; have h9_8 := h_10; unfold bd at h9_8; have h9_9 := by0_; unfold bd at h9_9; have h8_0 := kb_1; unfold bd at h8_0; have h8_1 := kb_m1; unfold bd at h8_1; omega)⟩), (fun h9 => ⟨(by have h9_0 := b_62; unfold bd at h9_0; have h9_1 := h_12; unfold bd at h9_1; have h9_2 := h_3; unfold bd at h9_2; have h9_3 := h_37; unfold bd at h9_3; have h9_4 := h_47; unfold bd at h9_4; have h9_5 := h_65; unfold bd at h9_5; have h9_6 := bx_74; unfold bd at h9_6; have h9_7 := bx_77; unfold bd at h9_7; have h9_8 := h_10; unfold bd at h9_8; have h9_9 := by0_; unfold bd at h9_9; have h8_0 := kb_1; unfold bd at h8_0; have h8_1 := kb_m1; unfold bd at h8_1; omega), (by have h9_0 := b_62; unfold bd at h9_0; have h9_1 := h_12; unfold bd at h9_1; have h9_2 := h_3; unfold bd at h9_2; have h9_3 := h_37; unfold bd at h9_3; have h9_4 := h_47; unfold bd at h9_4; have h9_5 := h_65; unfold bd at h9_5; have h9_6 := bx_74; unfold bd at h9_6; have h9_7 := bx_77; unfold bd at h9_7; have h9_8 := h_10; unfold bd at h9_8; have h9_9 := by0_; unfold bd at h9_9; have h8_0 := kb_1; unfold bd at h8_0; have h8_1 := kb_m1; unfold bd at h8_1; omega)⟩), (fun h9 => ⟨(by have h9_0 := b_62; unfold bd at h9_0; have h9_1 := h_12; unfold bd at h9_1; have h9_2 := h_3; unfold bd at h9_2; have h9_3 := h_37; unfold bd at h9_3; have h9_4 := h_47; unfold bd at h9_4; have h9_5 := h_65; unfold bd at h9_5; have h9_6 := bx_74; unfold bd at h9_6; have h9_7 := bx_77; unfold bd at h9_7; have h9_8 := h_10; unfold bd at h9_8; have h9_9 := by0_; unfold bd at h9_9; have h8_0 := kb_1; unfold bd at h8_0; have h8_1 := kb_m1; unfold bd at h8_1; omega), (by have h9_0 := b_62; unfold bd at h9_0; have h9_1 := h_12; unfold bd at h9_1; have h9_2 := h_3; unfold bd at h9_2; have h9_3 := h_37; unfold bd at h9_3; have h9_4 := h_47; unfold bd at h9_4; have h9_5 := h_65; unfold bd at h9_5; have h9_6 := bx_74; unfold bd at h9_6; have h9_7 := bx_77; unfold bd at h9_7; have h9_8 := h_10; unfold bd at h9_8; have h9_9 := by0_; unfold bd at h9_9; have h8_0 := kb_1; unfold bd at h8_0; have h8_1 := kb_m1; unfold bd at h8_1; omega)⟩)⟩ (g.fcts [2, 1, 0] rfl)) (cwV 2 hts (gV_ t_1203 t_1204 t_1205 t_191 t_1206) rfl rfl rfl (by decide +kernel) ⟨(Nat.le_of_ble_eq_true rfl), (Nat.le_of_ble_eq_true rfl)⟩) (pre3V g hK mq2_ kq2_ (by decide) (q := (RX7, TX7, 19)) rfl) rfl rfl hl.1 rfl (lv_room (Nat.le_of_ble_eq_true rfl)) dX0_readSize_106 ⟨(Nat.le_of_ble_eq_true rfl), (Nat.le_of_ble_eq_true rfl)⟩) g hK (by decide) (by decide) (fx' := [(7, 5, q2_, .ref a_76), (7, 4, q2_, .ref a_75), (9, 5, q3_, .ref a_73), (8, 6, q0_, .int x_64), (8, 8, q0_, .int y0_), (9, 2, q3_, .int x_46), (0, 11, a0_, .int x_11), (0, 0, a0_, .ref q0_), (0, 1, a0_, .ref q1_), (0, 2, a0_, .ref q2_), (5, 1, q1_, .ref q3_)]) rfl (fun fr_78 H locs hp hMr_78 g => ?_)
          obtain ⟨hG_79, hG_80, hG_81, hx_82, x_83, h_84, hF_85⟩ := hp
          have g := g.more hF_85
          have hs_86 := jS.mv hG_72 hG_81
          refine lv_aload_n hx hb dX0_readSize_109 rfl (lv_at hl 2 rfl) ?_
          refine g_getk (C := RX0) (T := TX0) (N := 14) hx hb hts (mc_ inX0) hown hK g rfl 2 (by decide) rfl (hts _ (List.mem_cons_of_mem _ t_375)) (fun _ h9 => h9) 10 rfl dX0_readSize_110 ?_
          refine lv_dup hx hb dX0_readSize_113 rfl ?_
          refine g_geti (C := RX7) (T := TX7) (N := 19) hx hb hts (mc_ inX7) hown hK g mq2_ kq2_ (by decide) rfl 18 (by decide) rfl (hts _ (List.mem_cons_of_mem _ t_681)) (fun _ h9 => h9) rfl dX0_readSize_114 (fun x_87 bx_87 g => ?_)
          refine lv_iconst (v := 1) hx hb dX0_readSize_117 (by decide) ?_
          refine lv_iadd hx hb dX0_readSize_118 ?_
          refine lv_topi (fun y_88 ey_88 => ?_)
          have go_ := g
          refine g_put (C := RX7) (T := TX7) (N := 19) hx hb hts (mc_ inX7) tyX7 tyX7_ok nmX7 hown hK g mq2_ kq2_ (by decide) rfl 18 (by decide) (hts _ (List.mem_cons_of_mem _ t_681)) (fun _ h9 => h9) rfl rfl (okV_i (bdT y_88)) rfl rfl (by decide) (Or.inr (Or.inl (by decide))) (fx' := [(7, 6, q2_, .int x_83), (7, 5, q2_, .ref a_76), (7, 4, q2_, .ref a_75), (9, 5, q3_, .ref a_73), (8, 6, q0_, .int x_64), (8, 8, q0_, .int y0_), (9, 2, q3_, .int x_46), (0, 11, a0_, .int x_11), (0, 0, a0_, .ref q0_), (0, 1, a0_, .ref q1_), (0, 2, a0_, .ref q2_), (5, 1, q1_, .ref q3_)]) rfl dX0_readSize_119 (fun f H locs hM_89 g => ?_)
          have hG_90 := cOK.frame hM_89 go_.2.2.2.1 mq2_ kq2_ (by decide) (by decide) hG_80
          have hG_91 := dOK.frame hM_89 go_.2.2.2.1 mq2_ kq2_ (by decide) (by decide) hG_79
          have hG_92 := jS.frame hM_89 go_.2.2.2.1 mq2_ kq2_ (by decide) (by decide) hs_86
          refine lv_aload_n hx hb dX0_readSize_122 rfl (lv_at hl 2 rfl) ?_
          refine lv_iconst (v := 1) hx hb dX0_readSize_123 (by decide) ?_
          have go_ := g
          refine g_callv (va_runV (As := [.int 1]) (rest := []) ⟨hx, hb, hml, hown, hts⟩ (r_X0_addWhole l dC dI L kd tys f H.size g.2.2.2.1 a0_ ma0_ ka0_ 1) (cwV 1 hts (gV_ t_1211 t_1213 t_17 t_190 t_1214) rfl rfl rfl (by decide +kernel) ⟨(Nat.le_of_ble_eq_true rfl), (Nat.le_of_ble_eq_true rfl)⟩) (pre3V g hK ma0_ ka0_ (by decide) (q := (RX0, TX0, 14)) rfl) rfl rfl hl.1 rfl (lv_room (Nat.le_of_ble_eq_true rfl)) dX0_readSize_124 ⟨(Nat.le_of_ble_eq_true rfl), (Nat.le_of_ble_eq_true rfl)⟩) g hK (by decide) (by decide) (fx' := [(7, 18, q2_, .int y_88), (7, 6, q2_, .int x_83), (7, 5, q2_, .ref a_76), (7, 4, q2_, .ref a_75), (9, 5, q3_, .ref a_73), (8, 6, q0_, .int x_64), (8, 8, q0_, .int y0_), (9, 2, q3_, .int x_46), (0, 11, a0_, .int x_11), (0, 0, a0_, .ref q0_), (0, 1, a0_, .ref q1_), (0, 2, a0_, .ref q2_), (5, 1, q1_, .ref q3_)]) rfl (fun fr_93 H locs hp hMr_93 g => ?_)
          obtain ⟨x_94, h_95, hF_96⟩ := hp
          have hG_97 := cOK.frame hMr_93 go_.2.2.2.1 mq2_ kq2_ (by decide) (by decide) hG_90
          have hG_98 := dOK.frame hMr_93 go_.2.2.2.1 mq2_ kq2_ (by decide) (by decide) hG_91
          have hG_99 := jS.frame hMr_93 go_.2.2.2.1 mq2_ kq2_ (by decide) (by decide) hG_92
          have g := g.more hF_96
          subst hQ
          exact W.vret hx hb hr (fun t ht hW => ⟨⟨_, rfl, Or.inl ⟨hG_97, hG_98, hG_99, x_94, h_95, x_64, h_65, x_46, h_47, x_11, h_12, (g.fcts [0, 1, 7, 8, 9, 10] rfl)⟩, q3_of g hK ht hW⟩, g.2.2.1.F ht⟩) g.2.2.1.2.2 dX0_readSize_127
        · have hG_100 := cOK.frame hMr_63 go_.2.2.2.1 mq2_ kq2_ (by decide) (by decide) hG_59
          have hG_101 := dOK.frame hMr_63 go_.2.2.2.1 mq2_ kq2_ (by decide) (by decide) hG_60
          have hG_102 := jS.frame hMr_63 go_.2.2.2.1 mq2_ kq2_ (by decide) (by decide) hG_61
          have g := g.more hF_69
          refine lv_aload_n hx hb dX0_readSize_89 rfl (lv_at hl 2 rfl) ?_
          refine g_getk (C := RX0) (T := TX0) (N := 14) hx hb hts (mc_ inX0) hown hK g rfl 2 (by decide) rfl (hts _ (List.mem_cons_of_mem _ t_375)) (fun _ h9 => h9) 6 rfl dX0_readSize_90 ?_
          refine lv_iconst (v := 1) hx hb dX0_readSize_93 (by decide) ?_
          refine lv_aload_n hx hb dX0_readSize_94 rfl (lv_at hl 2 rfl) ?_
          refine g_getk (C := RX0) (T := TX0) (N := 14) hx hb hts (mc_ inX0) hown hK g rfl 1 (by decide) rfl (hts _ (List.mem_cons_of_mem _ t_374)) (fun _ h9 => h9) 5 rfl dX0_readSize_95 ?_
          refine g_getk (C := RX5) (T := TX5) (N := 9) hx hb hts (mc_ inX5) hown hK g rfl 1 (by decide) rfl (hts _ (List.mem_cons_of_mem _ t_332)) (fun _ h9 => h9) 7 rfl dX0_readSize_98 ?_
          refine g_getr (K := 154) (C := RX9) (T := TX9) (N := 13) hx hb hts (mc_ inX9) hown hK g mq3_ kq3_ (by decide) rfl 5 (by decide) rfl (hts _ (List.mem_cons_of_mem _ t_491)) (fun _ h9 => h9) rfl dX0_readSize_101 (fun a_103 ma_103 ka_103 g => ?_)
          refine lv_iload_n hx hb dX0_readSize_104 rfl (lv_at hl 0 rfl) ?_
          refine g_iald hx hb hK g ma_103 ka_103 (by decide) rfl (in_bd b_62 (by decide)) dX0_readSize_105 (fun x_104 bx_104 cx_104 => ?_)
          obtain ⟨a_105, ma_105, ka_105, g⟩ := g_factr g mq2_ kq2_ (by decide) 4 rfl
          obtain ⟨a_106, ma_106, ka_106, g⟩ := g_factr g mq2_ kq2_ (by decide) 5 rfl
          obtain ⟨x_107, bx_107, g⟩ := g_facti g mq2_ kq2_ (by decide) 6 rfl
          have go_ := g
          refine g_callv (va_runV (As := [.int 1, .int x_104]) (rest := []) ⟨hx, hb, hml, hown, hts⟩ (r_X7_emitF l dC dI L kd tys fr_63 H.size g.2.2.2.1 q2_ mq2_ kq2_ a_105 ma_105 ka_105 a_106 ma_106 ka_106 x_107 bx_107 T_ hG_101 (1 : Int32) x_104 (g.fcts [2, 1, 0] rfl)) (cwV 2 hts (gV_ t_1203 t_1204 t_1205 t_191 t_1206) rfl rfl rfl (by decide +kernel) ⟨(Nat.le_of_ble_eq_true rfl), (Nat.le_of_ble_eq_true rfl)⟩) (pre3V g hK mq2_ kq2_ (by decide) (q := (RX7, TX7, 19)) rfl) rfl rfl hl.1 rfl (lv_room (Nat.le_of_ble_eq_true rfl)) dX0_readSize_106 ⟨(Nat.le_of_ble_eq_true rfl), (Nat.le_of_ble_eq_true rfl)⟩) g hK (by decide) (by decide) (fx' := [(7, 5, q2_, .ref a_106), (7, 4, q2_, .ref a_105), (9, 5, q3_, .ref a_103), (8, 6, q0_, .int 1201), (8, 8, q0_, .int x_67), (9, 2, q3_, .int x_46), (0, 11, a0_, .int x_11), (0, 0, a0_, .ref q0_), (0, 1, a0_, .ref q1_), (0, 2, a0_, .ref q2_), (5, 1, q1_, .ref q3_)]) rfl (fun fr_108 H locs hp hMr_108 g => ?_)
          obtain ⟨hG_109, x_110, h_111, hF_112⟩ := hp
          have g := g.more hF_112
          refine lv_aload_n hx hb dX0_readSize_109 rfl (lv_at hl 2 rfl) ?_
          refine g_getk (C := RX0) (T := TX0) (N := 14) hx hb hts (mc_ inX0) hown hK g rfl 2 (by decide) rfl (hts _ (List.mem_cons_of_mem _ t_375)) (fun _ h9 => h9) 10 rfl dX0_readSize_110 ?_
          refine lv_dup hx hb dX0_readSize_113 rfl ?_
          refine g_geti (C := RX7) (T := TX7) (N := 19) hx hb hts (mc_ inX7) hown hK g mq2_ kq2_ (by decide) rfl 18 (by decide) rfl (hts _ (List.mem_cons_of_mem _ t_681)) (fun _ h9 => h9) rfl dX0_readSize_114 (fun x_113 bx_113 g => ?_)
          refine lv_iconst (v := 1) hx hb dX0_readSize_117 (by decide) ?_
          have kb_1 : bd 1 1 (1 : Int32) := ⟨by decide, by decide⟩
          refine lv_iadd hx hb dX0_readSize_118 ?_
          refine lv_topi (fun y_114 ey_114 => ?_)
          have go_ := g
          refine g_put (C := RX7) (T := TX7) (N := 19) hx hb hts (mc_ inX7) tyX7 tyX7_ok nmX7 hown hK g mq2_ kq2_ (by decide) rfl 18 (by decide) (hts _ (List.mem_cons_of_mem _ t_681)) (fun _ h9 => h9) rfl rfl (okV_i (bdT y_114)) rfl rfl (by decide) (Or.inr (Or.inl (by decide))) (fx' := [(7, 6, q2_, .int x_110), (7, 5, q2_, .ref a_106), (7, 4, q2_, .ref a_105), (9, 5, q3_, .ref a_103), (8, 6, q0_, .int 1201), (8, 8, q0_, .int x_67), (9, 2, q3_, .int x_46), (0, 11, a0_, .int x_11), (0, 0, a0_, .ref q0_), (0, 1, a0_, .ref q1_), (0, 2, a0_, .ref q2_), (5, 1, q1_, .ref q3_)]) rfl dX0_readSize_119 (fun f H locs hM_115 g => ?_)
          have hG_116 := dOK.frame hM_115 go_.2.2.2.1 mq2_ kq2_ (by decide) (by decide) hG_109
          refine lv_aload_n hx hb dX0_readSize_122 rfl (lv_at hl 2 rfl) ?_
          refine lv_iconst (v := 1) hx hb dX0_readSize_123 (by decide) ?_
          have go_ := g
          refine g_callv (va_runV (As := [.int 1]) (rest := []) ⟨hx, hb, hml, hown, hts⟩ (r_X0_addWhole l dC dI L kd tys f H.size g.2.2.2.1 a0_ ma0_ ka0_ 1) (cwV 1 hts (gV_ t_1211 t_1213 t_17 t_190 t_1214) rfl rfl rfl (by decide +kernel) ⟨(Nat.le_of_ble_eq_true rfl), (Nat.le_of_ble_eq_true rfl)⟩) (pre3V g hK ma0_ ka0_ (by decide) (q := (RX0, TX0, 14)) rfl) rfl rfl hl.1 rfl (lv_room (Nat.le_of_ble_eq_true rfl)) dX0_readSize_124 ⟨(Nat.le_of_ble_eq_true rfl), (Nat.le_of_ble_eq_true rfl)⟩) g hK (by decide) (by decide) (fx' := [(7, 18, q2_, .int y_114), (7, 6, q2_, .int x_110), (7, 5, q2_, .ref a_106), (7, 4, q2_, .ref a_105), (9, 5, q3_, .ref a_103), (8, 6, q0_, .int 1201), (8, 8, q0_, .int x_67), (9, 2, q3_, .int x_46), (0, 11, a0_, .int x_11), (0, 0, a0_, .ref q0_), (0, 1, a0_, .ref q1_), (0, 2, a0_, .ref q2_), (5, 1, q1_, .ref q3_)]) rfl (fun fr_117 H locs hp hMr_117 g => ?_)
          obtain ⟨x_118, h_119, hF_120⟩ := hp
          have hG_121 := dOK.frame hMr_117 go_.2.2.2.1 mq2_ kq2_ (by decide) (by decide) hG_116
          have g := g.more hF_120
          have kb_1201 : bd 1201 1201 (1201 : Int32) := ⟨by decide, by decide⟩
          subst hQ
          exact W.vret hx hb hr (fun t ht hW => ⟨⟨_, rfl, Or.inr (⟨hG_121, 1201, kb_1201, x_67, h_68, (g.fcts [7, 8] rfl)⟩), q3_of g hK ht hW⟩, g.2.2.1.F ht⟩) g.2.2.1.2.2 dX0_readSize_127
    · have fc_33 := eq_f c_33
      have b_122 : bd (-1) (-1) r_28 := eqX fc_33 h_29 kb_m1 (by decide)
      refine lv_aload_n hx hb dX0_readSize_39 rfl (lv_at hl 2 rfl) ?_
      refine g_getk (C := RX0) (T := TX0) (N := 14) hx hb hts (mc_ inX0) hown hK g rfl 0 (by decide) rfl (hts _ (List.mem_cons_of_mem _ t_373)) (fun _ h9 => h9) 3 rfl dX0_readSize_40 ?_
      refine lv_iconst (v := 2) hx hb dX0_readSize_43 (by decide) ?_
      refine lv_iload_n hx hb dX0_readSize_44 rfl (lv_at hl 1 rfl) ?_
      have kb_2 : bd 2 2 (2 : Int32) := ⟨by decide, by decide⟩
      have go_ := g
      refine g_callv (va_runV (As := [.int 2, .int r_20]) (rest := []) ⟨hx, hb, hml, hown, hts⟩ (r_X8_fail l dC dI L kd tys fr_28 H.size g.2.2.2.1 q0_ mq0_ kq0_ 2 (bd_sub kb_2 (by decide)) r_20 y0_ by0_ (g.fcts [2] rfl)) (cwV 2 hts (gV_ t_1215 t_1107 t_1108 t_184 t_1109) rfl rfl rfl (by decide +kernel) ⟨(Nat.le_of_ble_eq_true rfl), (Nat.le_of_ble_eq_true rfl)⟩) (pre3V g hK mq0_ kq0_ (by decide) (q := (RX8, TX8, 10)) rfl) rfl rfl hl.1 rfl (lv_room (Nat.le_of_ble_eq_true rfl)) dX0_readSize_45 ⟨(Nat.le_of_ble_eq_true rfl), (Nat.le_of_ble_eq_true rfl)⟩) g hK (by decide) (by decide) (fx' := [(0, 11, a0_, .int x_11), (0, 0, a0_, .ref q0_), (0, 1, a0_, .ref q1_), (0, 2, a0_, .ref q2_), (5, 1, q1_, .ref q3_)]) rfl (fun fr_123 H locs hp hMr_123 g => ?_)
      obtain ⟨x_124, h_125, hF_126⟩ := hp
      have hG_127 := cOK.frame hMr_123 go_.2.2.2.1 mq2_ kq2_ (by decide) (by decide) hG_30
      have hG_128 := dOK.frame hMr_123 go_.2.2.2.1 mq2_ kq2_ (by decide) (by decide) hG_31
      have hG_129 := jS.frame hMr_123 go_.2.2.2.1 mq2_ kq2_ (by decide) (by decide) hG_32
      have g := g.more hF_126
      have kb_1201 : bd 1201 1201 (1201 : Int32) := ⟨by decide, by decide⟩
      subst hQ
      exact W.vret hx hb hr (fun t ht hW => ⟨⟨_, rfl, Or.inr (⟨hG_128, 1201, kb_1201, x_124, h_125, (g.fcts [0, 1] rfl)⟩), q3_of g hK ht hW⟩, g.2.2.1.F ht⟩) g.2.2.1.2.2 dX0_readSize_48
  · have hG_130 := cOK.frame hMr_8 go_.2.2.2.1 mq2_ kq2_ (by decide) (by decide) hG_5
    have hG_131 := dOK.frame hMr_8 go_.2.2.2.1 mq2_ kq2_ (by decide) (by decide) hG_6
    have hG_132 := jS.frame hMr_8 go_.2.2.2.1 mq2_ kq2_ (by decide) (by decide) hG_7
    have g := g.more hF_16
    refine lv_aload_n hx hb dX0_readSize_11 rfl (lv_at hl 0 rfl) ?_
    refine g_getk (C := RX0) (T := TX0) (N := 14) hx hb hts (mc_ inX0) hown hK g rfl 0 (by decide) rfl (hts _ (List.mem_cons_of_mem _ t_373)) (fun _ h9 => h9) 2 rfl dX0_readSize_12 ?_
    have go_ := g
    refine g_calli (va_runV (As := []) (rest := []) ⟨hx, hb, hml, hown, hts⟩ (r_X8_place l dC dI L kd tys fr_8 H.size g.2.2.2.1 q0_ mq0_ kq0_) (cwV 0 hts (gV_ t_1220 t_1111 t_1112 t_184 t_1113) rfl rfl rfl (by decide +kernel) ⟨(Nat.le_of_ble_eq_true rfl), (Nat.le_of_ble_eq_true rfl)⟩) (pre3V g hK mq0_ kq0_ (by decide) (q := (RX8, TX8, 10)) rfl) rfl rfl hl.1 rfl (lv_room (Nat.le_of_ble_eq_true rfl)) dX0_readSize_15 ⟨(Nat.le_of_ble_eq_true rfl), (Nat.le_of_ble_eq_true rfl)⟩) g hK (by decide) (by decide) (fx' := [(8, 6, q0_, .int 1201), (8, 8, q0_, .int x_14), (0, 0, a0_, .ref q0_), (0, 1, a0_, .ref q1_), (0, 2, a0_, .ref q2_), (5, 1, q1_, .ref q3_)]) rfl (fun r_133 fr_133 H locs hp hMr_133 g => ?_)
    have hG_134 := cOK.frame hMr_133 go_.2.2.2.1 mq2_ kq2_ (by decide) (by decide) hG_130
    have hG_135 := dOK.frame hMr_133 go_.2.2.2.1 mq2_ kq2_ (by decide) (by decide) hG_131
    have hG_136 := jS.frame hMr_133 go_.2.2.2.1 mq2_ kq2_ (by decide) (by decide) hG_132
    refine lv_istore_n (lv' := [(1, .int r_133), (0, .ref a0_)]) hx hb dX0_readSize_18 rfl hl (by decide) rfl (fun ls hl => ?_)
    refine lv_aload_n hx hb dX0_readSize_19 rfl (lv_at hl 1 rfl) ?_
    refine g_getk (C := RX0) (T := TX0) (N := 14) hx hb hts (mc_ inX0) hown hK g rfl 1 (by decide) rfl (hts _ (List.mem_cons_of_mem _ t_374)) (fun _ h9 => h9) 3 rfl dX0_readSize_20 ?_
    refine lv_aload_n hx hb dX0_readSize_23 rfl (lv_at hl 1 rfl) ?_
    refine g_getk (C := RX0) (T := TX0) (N := 14) hx hb hts (mc_ inX0) hown hK g rfl 0 (by decide) rfl (hts _ (List.mem_cons_of_mem _ t_373)) (fun _ h9 => h9) 2 rfl dX0_readSize_24 ?_
    have go_ := g
    refine g_calll (va_runV (As := []) (rest := [.ref q1_]) ⟨hx, hb, hml, hown, hts⟩ (r_X8_value l dC dI L kd tys fr_133 H.size g.2.2.2.1 q0_ mq0_ kq0_) (cwV 0 hts (gV_ t_1238 t_1115 t_1116 t_184 t_1117) rfl rfl rfl (by decide +kernel) ⟨(Nat.le_of_ble_eq_true rfl), (Nat.le_of_ble_eq_true rfl)⟩) (pre3V g hK mq0_ kq0_ (by decide) (q := (RX8, TX8, 10)) rfl) rfl rfl hl.1 rfl (lv_room (Nat.le_of_ble_eq_true rfl)) dX0_readSize_27 ⟨(Nat.le_of_ble_eq_true rfl), (Nat.le_of_ble_eq_true rfl)⟩) g hK (by decide) (by decide) (fx' := [(8, 6, q0_, .int 1201), (8, 8, q0_, .int x_14), (0, 0, a0_, .ref q0_), (0, 1, a0_, .ref q1_), (0, 2, a0_, .ref q2_), (5, 1, q1_, .ref q3_)]) rfl (fun r_137 fr_137 H locs hp hMr_137 g => ?_)
    have hG_138 := cOK.frame hMr_137 go_.2.2.2.1 mq2_ kq2_ (by decide) (by decide) hG_134
    have hG_139 := dOK.frame hMr_137 go_.2.2.2.1 mq2_ kq2_ (by decide) (by decide) hG_135
    have hG_140 := jS.frame hMr_137 go_.2.2.2.1 mq2_ kq2_ (by decide) (by decide) hG_136
    have go_ := g
    refine g_calli (va_runV (As := [.long r_137]) (rest := []) ⟨hx, hb, hml, hown, hts⟩ (r_X5_placeNamed l dC dI L kd tys fr_137 H.size g.2.2.2.1 q1_ mq1_ kq1_ r_137 q3_ mq3_ kq3_ (g.fcts [5] rfl)) (cwV 1 hts (gV_ t_1251 t_1252 t_1253 t_189 t_1254) rfl rfl rfl (by decide +kernel) ⟨(Nat.le_of_ble_eq_true rfl), (Nat.le_of_ble_eq_true rfl)⟩) (pre3V g hK mq1_ kq1_ (by decide) (q := (RX5, TX5, 9)) rfl) rfl rfl hl.1 rfl (lv_room (Nat.le_of_ble_eq_true rfl)) dX0_readSize_30 ⟨(Nat.le_of_ble_eq_true rfl), (Nat.le_of_ble_eq_true rfl)⟩) g hK (by decide) (by decide) (fx' := [(8, 6, q0_, .int 1201), (8, 8, q0_, .int x_14), (0, 0, a0_, .ref q0_), (0, 1, a0_, .ref q1_), (0, 2, a0_, .ref q2_), (5, 1, q1_, .ref q3_)]) rfl (fun r_141 fr_141 H locs hp hMr_141 g => ?_)
    obtain ⟨h_142, -⟩ := hp
    have hG_143 := cOK.frame hMr_141 go_.2.2.2.1 mq2_ kq2_ (by decide) (by decide) hG_138
    have hG_144 := dOK.frame hMr_141 go_.2.2.2.1 mq2_ kq2_ (by decide) (by decide) hG_139
    have hG_145 := jS.frame hMr_141 go_.2.2.2.1 mq2_ kq2_ (by decide) (by decide) hG_140
    refine lv_istore_n (lv' := [(2, .int r_141), (1, .int r_133), (0, .ref a0_)]) hx hb dX0_readSize_33 rfl hl (by decide) rfl (fun ls hl => ?_)
    refine lv_iload_n hx hb dX0_readSize_34 rfl (lv_at hl 0 rfl) ?_
    refine lv_iconst (v := (-1)) hx hb dX0_readSize_35 (by decide) ?_
    have kb_m1 : bd (-1) (-1) ((-1) : Int32) := ⟨by decide, by decide⟩
    refine lv_icmp_ne (tgt := 49) hx hb dX0_readSize_36 (by decide) (fun c_146 => ?_) (fun c_146 => ?_)
    · have fc_146 := neq_f c_146
      have b_147 : bd 0 26 r_141 := neX fc_146 h_142 kb_m1 (by decide)
      refine lv_aload_n hx hb dX0_readSize_49 rfl (lv_at hl 2 rfl) ?_
      refine g_getk (C := RX0) (T := TX0) (N := 14) hx hb hts (mc_ inX0) hown hK g rfl 0 (by decide) rfl (hts _ (List.mem_cons_of_mem _ t_373)) (fun _ h9 => h9) 2 rfl dX0_readSize_50 ?_
      have kb_1201 : bd 1201 1201 (1201 : Int32) := ⟨by decide, by decide⟩
      have go_ := g
      refine g_callv (va_runV (As := []) (rest := []) ⟨hx, hb, hml, hown, hts⟩ (r_X8_next_2 l dC dI L kd tys fr_141 H.size g.2.2.2.1 q0_ mq0_ kq0_ 1201 kb_1201 (g.fcts [0] rfl)) (cwV 0 hts (gV_ t_1225 t_1103 t_1104 t_184 t_1105) rfl rfl rfl (by decide +kernel) ⟨(Nat.le_of_ble_eq_true rfl), (Nat.le_of_ble_eq_true rfl)⟩) (pre3V g hK mq0_ kq0_ (by decide) (q := (RX8, TX8, 10)) rfl) rfl rfl hl.1 rfl (lv_room (Nat.le_of_ble_eq_true rfl)) dX0_readSize_53 ⟨(Nat.le_of_ble_eq_true rfl), (Nat.le_of_ble_eq_true rfl)⟩) g hK (by decide) (by decide) (fx' := [(8, 6, q0_, .int 1201), (8, 8, q0_, .int x_14), (0, 0, a0_, .ref q0_), (0, 1, a0_, .ref q1_), (0, 2, a0_, .ref q2_), (5, 1, q1_, .ref q3_)]) rfl (fun fr_148 H locs hp hMr_148 g => ?_)
      have hG_149 := cOK.frame hMr_148 go_.2.2.2.1 mq2_ kq2_ (by decide) (by decide) hG_143
      have hG_150 := dOK.frame hMr_148 go_.2.2.2.1 mq2_ kq2_ (by decide) (by decide) hG_144
      have hG_151 := jS.frame hMr_148 go_.2.2.2.1 mq2_ kq2_ (by decide) (by decide) hG_145
      refine lv_aload_n hx hb dX0_readSize_56 rfl (lv_at hl 2 rfl) ?_
      refine g_getk (C := RX0) (T := TX0) (N := 14) hx hb hts (mc_ inX0) hown hK g rfl 1 (by decide) rfl (hts _ (List.mem_cons_of_mem _ t_374)) (fun _ h9 => h9) 3 rfl dX0_readSize_57 ?_
      refine g_getk (C := RX5) (T := TX5) (N := 9) hx hb hts (mc_ inX5) hown hK g rfl 1 (by decide) rfl (hts _ (List.mem_cons_of_mem _ t_332)) (fun _ h9 => h9) 5 rfl dX0_readSize_60 ?_
      refine lv_iload_n hx hb dX0_readSize_63 rfl (lv_at hl 0 rfl) ?_
      have go_ := g
      refine g_calli (va_runV (As := [.int r_141]) (rest := []) ⟨hx, hb, hml, hown, hts⟩ (r_X9_isRow l dC dI L kd tys fr_148 H.size g.2.2.2.1 q3_ mq3_ kq3_ r_141) (cwV 1 hts (gV_ t_1256 t_1257 t_1258 t_192 t_1259) rfl rfl rfl (by decide +kernel) ⟨(Nat.le_of_ble_eq_true rfl), (Nat.le_of_ble_eq_true rfl)⟩) (pre3V g hK mq3_ kq3_ (by decide) (q := (RX9, TX9, 13)) rfl) rfl rfl hl.1 rfl (lv_room (Nat.le_of_ble_eq_true rfl)) dX0_readSize_64 ⟨(Nat.le_of_ble_eq_true rfl), (Nat.le_of_ble_eq_true rfl)⟩) g hK (by decide) (by decide) (fx' := [(8, 6, q0_, .int 1201), (8, 8, q0_, .int x_14), (0, 0, a0_, .ref q0_), (0, 1, a0_, .ref q1_), (0, 2, a0_, .ref q2_), (5, 1, q1_, .ref q3_)]) rfl (fun r_152 fr_152 H locs hp hMr_152 g => ?_)
      rcases hp with ⟨h_153, -⟩ | ⟨h_154, h_155, x_156, h_157, hF_158⟩
      · have hG_159 := cOK.frame hMr_152 go_.2.2.2.1 mq2_ kq2_ (by decide) (by decide) hG_149
        have hG_160 := dOK.frame hMr_152 go_.2.2.2.1 mq2_ kq2_ (by decide) (by decide) hG_150
        have hG_161 := jS.frame hMr_152 go_.2.2.2.1 mq2_ kq2_ (by decide) (by decide) hG_151
        obtain rfl : r_152 = 0 := h_153
        refine lv_if_ne (tgt := 80) hx hb dX0_readSize_67 (by decide) (fun c_ => absurd c_ (by decide)) (fun c_ => ?_)
        refine lv_aload_n hx hb dX0_readSize_70 rfl (lv_at hl 2 rfl) ?_
        refine g_getk (C := RX0) (T := TX0) (N := 14) hx hb hts (mc_ inX0) hown hK g rfl 0 (by decide) rfl (hts _ (List.mem_cons_of_mem _ t_373)) (fun _ h9 => h9) 2 rfl dX0_readSize_71 ?_
        refine lv_iconst (v := 5) hx hb dX0_readSize_74 (by decide) ?_
        refine lv_iload_n hx hb dX0_readSize_75 rfl (lv_at hl 1 rfl) ?_
        have kb_5 : bd 5 5 (5 : Int32) := ⟨by decide, by decide⟩
        have go_ := g
        refine g_callv (va_runV (As := [.int 5, .int r_133]) (rest := []) ⟨hx, hb, hml, hown, hts⟩ (r_X8_fail_2 l dC dI L kd tys fr_152 H.size g.2.2.2.1 q0_ mq0_ kq0_ 5 (bd_sub kb_5 (by decide)) r_133 x_14 h_15 (g.fcts [1] rfl)) (cwV 2 hts (gV_ t_1215 t_1107 t_1108 t_184 t_1109) rfl rfl rfl (by decide +kernel) ⟨(Nat.le_of_ble_eq_true rfl), (Nat.le_of_ble_eq_true rfl)⟩) (pre3V g hK mq0_ kq0_ (by decide) (q := (RX8, TX8, 10)) rfl) rfl rfl hl.1 rfl (lv_room (Nat.le_of_ble_eq_true rfl)) dX0_readSize_76 ⟨(Nat.le_of_ble_eq_true rfl), (Nat.le_of_ble_eq_true rfl)⟩) g hK (by decide) (by decide) (fx' := [(8, 8, q0_, .int x_14), (0, 0, a0_, .ref q0_), (0, 1, a0_, .ref q1_), (0, 2, a0_, .ref q2_), (5, 1, q1_, .ref q3_)]) rfl (fun fr_162 H locs hp hMr_162 g => ?_)
        have hF_163 := hp
        have hG_164 := cOK.frame hMr_162 go_.2.2.2.1 mq2_ kq2_ (by decide) (by decide) hG_159
        have hG_165 := dOK.frame hMr_162 go_.2.2.2.1 mq2_ kq2_ (by decide) (by decide) hG_160
        have hG_166 := jS.frame hMr_162 go_.2.2.2.1 mq2_ kq2_ (by decide) (by decide) hG_161
        have g := g.more hF_163
        subst hQ
        exact W.vret hx hb hr (fun t ht hW => ⟨⟨_, rfl, Or.inr (⟨hG_165, 1201, kb_1201, x_14, h_15, (g.fcts [0, 1] rfl)⟩), q3_of g hK ht hW⟩, g.2.2.1.F ht⟩) g.2.2.1.2.2 dX0_readSize_79
      · have hG_167 := cOK.frame hMr_152 go_.2.2.2.1 mq2_ kq2_ (by decide) (by decide) hG_149
        have hG_168 := dOK.frame hMr_152 go_.2.2.2.1 mq2_ kq2_ (by decide) (by decide) hG_150
        have hG_169 := jS.frame hMr_152 go_.2.2.2.1 mq2_ kq2_ (by decide) (by decide) hG_151
        obtain rfl : r_152 = 1 := h_154
        have b_170 : bd 0 9 r_141 := eqX rfl b_147 h_155 (by decide)
        have g := g.more hF_158
        refine lv_if_ne (tgt := 80) hx hb dX0_readSize_67 (by decide) (fun c_ => ?_) (fun c_ => absurd c_ (by decide))
        refine lv_aload_n hx hb dX0_readSize_80 rfl (lv_at hl 2 rfl) ?_
        refine g_getk (C := RX0) (T := TX0) (N := 14) hx hb hts (mc_ inX0) hown hK g rfl 0 (by decide) rfl (hts _ (List.mem_cons_of_mem _ t_373)) (fun _ h9 => h9) 3 rfl dX0_readSize_81 ?_
        refine lv_bipush (v := 41) hx hb dX0_readSize_84 (by decide) ?_
        have go_ := g
        refine g_callv (va_runV (As := [.int 41]) (rest := []) ⟨hx, hb, hml, hown, hts⟩ (r_X8_take_2 l dC dI L kd tys fr_152 H.size g.2.2.2.1 q0_ mq0_ kq0_ 41 1201 kb_1201 x_14 h_15 (g.fcts [1, 2] rfl)) (cwV 1 hts (gV_ t_1284 t_1099 t_1100 t_184 t_1101) rfl rfl rfl (by decide +kernel) ⟨(Nat.le_of_ble_eq_true rfl), (Nat.le_of_ble_eq_true rfl)⟩) (pre3V g hK mq0_ kq0_ (by decide) (q := (RX8, TX8, 10)) rfl) rfl rfl hl.1 rfl (lv_room (Nat.le_of_ble_eq_true rfl)) dX0_readSize_86 ⟨(Nat.le_of_ble_eq_true rfl), (Nat.le_of_ble_eq_true rfl)⟩) g hK (by decide) (by decide) (fx' := [(9, 2, q3_, .int x_156), (8, 8, q0_, .int x_14), (0, 0, a0_, .ref q0_), (0, 1, a0_, .ref q1_), (0, 2, a0_, .ref q2_), (5, 1, q1_, .ref q3_)]) rfl (fun fr_171 H locs hp hMr_171 g => ?_)
        obtain ⟨x_172, h_173, hF_174⟩ := hp
        have hG_175 := cOK.frame hMr_171 go_.2.2.2.1 mq2_ kq2_ (by decide) (by decide) hG_167
        have hG_176 := dOK.frame hMr_171 go_.2.2.2.1 mq2_ kq2_ (by decide) (by decide) hG_168
        have hG_177 := jS.frame hMr_171 go_.2.2.2.1 mq2_ kq2_ (by decide) (by decide) hG_169
        have g := g.more hF_174
        refine lv_aload_n hx hb dX0_readSize_89 rfl (lv_at hl 2 rfl) ?_
        refine g_getk (C := RX0) (T := TX0) (N := 14) hx hb hts (mc_ inX0) hown hK g rfl 2 (by decide) rfl (hts _ (List.mem_cons_of_mem _ t_375)) (fun _ h9 => h9) 5 rfl dX0_readSize_90 ?_
        refine lv_iconst (v := 1) hx hb dX0_readSize_93 (by decide) ?_
        refine lv_aload_n hx hb dX0_readSize_94 rfl (lv_at hl 2 rfl) ?_
        refine g_getk (C := RX0) (T := TX0) (N := 14) hx hb hts (mc_ inX0) hown hK g rfl 1 (by decide) rfl (hts _ (List.mem_cons_of_mem _ t_374)) (fun _ h9 => h9) 4 rfl dX0_readSize_95 ?_
        refine g_getk (C := RX5) (T := TX5) (N := 9) hx hb hts (mc_ inX5) hown hK g rfl 1 (by decide) rfl (hts _ (List.mem_cons_of_mem _ t_332)) (fun _ h9 => h9) 6 rfl dX0_readSize_98 ?_
        refine g_getr (K := 154) (C := RX9) (T := TX9) (N := 13) hx hb hts (mc_ inX9) hown hK g mq3_ kq3_ (by decide) rfl 5 (by decide) rfl (hts _ (List.mem_cons_of_mem _ t_491)) (fun _ h9 => h9) rfl dX0_readSize_101 (fun a_178 ma_178 ka_178 g => ?_)
        refine lv_iload_n hx hb dX0_readSize_104 rfl (lv_at hl 0 rfl) ?_
        refine g_iald hx hb hK g ma_178 ka_178 (by decide) rfl (in_bd b_170 (by decide)) dX0_readSize_105 (fun x_179 bx_179 cx_179 => ?_)
        obtain ⟨a_180, ma_180, ka_180, g⟩ := g_factr g mq2_ kq2_ (by decide) 4 rfl
        obtain ⟨a_181, ma_181, ka_181, g⟩ := g_factr g mq2_ kq2_ (by decide) 5 rfl
        obtain ⟨x_182, bx_182, g⟩ := g_facti g mq2_ kq2_ (by decide) 6 rfl
        have go_ := g
        refine g_callv (va_runV (As := [.int 1, .int x_179]) (rest := []) ⟨hx, hb, hml, hown, hts⟩ (r_X7_emitF l dC dI L kd tys fr_171 H.size g.2.2.2.1 q2_ mq2_ kq2_ a_180 ma_180 ka_180 a_181 ma_181 ka_181 x_182 bx_182 T_ hG_176 (1 : Int32) x_179 (g.fcts [2, 1, 0] rfl)) (cwV 2 hts (gV_ t_1203 t_1204 t_1205 t_191 t_1206) rfl rfl rfl (by decide +kernel) ⟨(Nat.le_of_ble_eq_true rfl), (Nat.le_of_ble_eq_true rfl)⟩) (pre3V g hK mq2_ kq2_ (by decide) (q := (RX7, TX7, 19)) rfl) rfl rfl hl.1 rfl (lv_room (Nat.le_of_ble_eq_true rfl)) dX0_readSize_106 ⟨(Nat.le_of_ble_eq_true rfl), (Nat.le_of_ble_eq_true rfl)⟩) g hK (by decide) (by decide) (fx' := [(7, 5, q2_, .ref a_181), (7, 4, q2_, .ref a_180), (9, 5, q3_, .ref a_178), (8, 6, q0_, .int x_172), (9, 2, q3_, .int x_156), (8, 8, q0_, .int x_14), (0, 0, a0_, .ref q0_), (0, 1, a0_, .ref q1_), (0, 2, a0_, .ref q2_), (5, 1, q1_, .ref q3_)]) rfl (fun fr_183 H locs hp hMr_183 g => ?_)
        obtain ⟨hG_184, x_185, h_186, hF_187⟩ := hp
        have g := g.more hF_187
        refine lv_aload_n hx hb dX0_readSize_109 rfl (lv_at hl 2 rfl) ?_
        refine g_getk (C := RX0) (T := TX0) (N := 14) hx hb hts (mc_ inX0) hown hK g rfl 2 (by decide) rfl (hts _ (List.mem_cons_of_mem _ t_375)) (fun _ h9 => h9) 9 rfl dX0_readSize_110 ?_
        refine lv_dup hx hb dX0_readSize_113 rfl ?_
        refine g_geti (C := RX7) (T := TX7) (N := 19) hx hb hts (mc_ inX7) hown hK g mq2_ kq2_ (by decide) rfl 18 (by decide) rfl (hts _ (List.mem_cons_of_mem _ t_681)) (fun _ h9 => h9) rfl dX0_readSize_114 (fun x_188 bx_188 g => ?_)
        refine lv_iconst (v := 1) hx hb dX0_readSize_117 (by decide) ?_
        have kb_1 : bd 1 1 (1 : Int32) := ⟨by decide, by decide⟩
        refine lv_iadd hx hb dX0_readSize_118 ?_
        refine lv_topi (fun y_189 ey_189 => ?_)
        have go_ := g
        refine g_put (C := RX7) (T := TX7) (N := 19) hx hb hts (mc_ inX7) tyX7 tyX7_ok nmX7 hown hK g mq2_ kq2_ (by decide) rfl 18 (by decide) (hts _ (List.mem_cons_of_mem _ t_681)) (fun _ h9 => h9) rfl rfl (okV_i (bdT y_189)) rfl rfl (by decide) (Or.inr (Or.inl (by decide))) (fx' := [(7, 6, q2_, .int x_185), (7, 5, q2_, .ref a_181), (7, 4, q2_, .ref a_180), (9, 5, q3_, .ref a_178), (8, 6, q0_, .int x_172), (9, 2, q3_, .int x_156), (8, 8, q0_, .int x_14), (0, 0, a0_, .ref q0_), (0, 1, a0_, .ref q1_), (0, 2, a0_, .ref q2_), (5, 1, q1_, .ref q3_)]) rfl dX0_readSize_119 (fun f H locs hM_190 g => ?_)
        have hG_191 := dOK.frame hM_190 go_.2.2.2.1 mq2_ kq2_ (by decide) (by decide) hG_184
        refine lv_aload_n hx hb dX0_readSize_122 rfl (lv_at hl 2 rfl) ?_
        refine lv_iconst (v := 1) hx hb dX0_readSize_123 (by decide) ?_
        have go_ := g
        refine g_callv (va_runV (As := [.int 1]) (rest := []) ⟨hx, hb, hml, hown, hts⟩ (r_X0_addWhole l dC dI L kd tys f H.size g.2.2.2.1 a0_ ma0_ ka0_ 1) (cwV 1 hts (gV_ t_1211 t_1213 t_17 t_190 t_1214) rfl rfl rfl (by decide +kernel) ⟨(Nat.le_of_ble_eq_true rfl), (Nat.le_of_ble_eq_true rfl)⟩) (pre3V g hK ma0_ ka0_ (by decide) (q := (RX0, TX0, 14)) rfl) rfl rfl hl.1 rfl (lv_room (Nat.le_of_ble_eq_true rfl)) dX0_readSize_124 ⟨(Nat.le_of_ble_eq_true rfl), (Nat.le_of_ble_eq_true rfl)⟩) g hK (by decide) (by decide) (fx' := [(7, 18, q2_, .int y_189), (7, 6, q2_, .int x_185), (7, 5, q2_, .ref a_181), (7, 4, q2_, .ref a_180), (9, 5, q3_, .ref a_178), (8, 6, q0_, .int x_172), (9, 2, q3_, .int x_156), (8, 8, q0_, .int x_14), (0, 0, a0_, .ref q0_), (0, 1, a0_, .ref q1_), (0, 2, a0_, .ref q2_), (5, 1, q1_, .ref q3_)]) rfl (fun fr_192 H locs hp hMr_192 g => ?_)
        obtain ⟨x_193, h_194, hF_195⟩ := hp
        have hG_196 := dOK.frame hMr_192 go_.2.2.2.1 mq2_ kq2_ (by decide) (by decide) hG_191
        have g := g.more hF_195
        subst hQ
        exact W.vret hx hb hr (fun t ht hW => ⟨⟨_, rfl, Or.inr (⟨hG_196, x_172, h_173, x_14, h_15, (g.fcts [7, 9] rfl)⟩), q3_of g hK ht hW⟩, g.2.2.1.F ht⟩) g.2.2.1.2.2 dX0_readSize_127
    · have fc_146 := eq_f c_146
      have b_197 : bd (-1) (-1) r_141 := eqX fc_146 h_142 kb_m1 (by decide)
      refine lv_aload_n hx hb dX0_readSize_39 rfl (lv_at hl 2 rfl) ?_
      refine g_getk (C := RX0) (T := TX0) (N := 14) hx hb hts (mc_ inX0) hown hK g rfl 0 (by decide) rfl (hts _ (List.mem_cons_of_mem _ t_373)) (fun _ h9 => h9) 2 rfl dX0_readSize_40 ?_
      refine lv_iconst (v := 2) hx hb dX0_readSize_43 (by decide) ?_
      refine lv_iload_n hx hb dX0_readSize_44 rfl (lv_at hl 1 rfl) ?_
      have kb_2 : bd 2 2 (2 : Int32) := ⟨by decide, by decide⟩
      have go_ := g
      refine g_callv (va_runV (As := [.int 2, .int r_133]) (rest := []) ⟨hx, hb, hml, hown, hts⟩ (r_X8_fail_2 l dC dI L kd tys fr_141 H.size g.2.2.2.1 q0_ mq0_ kq0_ 2 (bd_sub kb_2 (by decide)) r_133 x_14 h_15 (g.fcts [1] rfl)) (cwV 2 hts (gV_ t_1215 t_1107 t_1108 t_184 t_1109) rfl rfl rfl (by decide +kernel) ⟨(Nat.le_of_ble_eq_true rfl), (Nat.le_of_ble_eq_true rfl)⟩) (pre3V g hK mq0_ kq0_ (by decide) (q := (RX8, TX8, 10)) rfl) rfl rfl hl.1 rfl (lv_room (Nat.le_of_ble_eq_true rfl)) dX0_readSize_45 ⟨(Nat.le_of_ble_eq_true rfl), (Nat.le_of_ble_eq_true rfl)⟩) g hK (by decide) (by decide) (fx' := [(8, 8, q0_, .int x_14), (0, 0, a0_, .ref q0_), (0, 1, a0_, .ref q1_), (0, 2, a0_, .ref q2_), (5, 1, q1_, .ref q3_)]) rfl (fun fr_198 H locs hp hMr_198 g => ?_)
      have hF_199 := hp
      have hG_200 := cOK.frame hMr_198 go_.2.2.2.1 mq2_ kq2_ (by decide) (by decide) hG_143
      have hG_201 := dOK.frame hMr_198 go_.2.2.2.1 mq2_ kq2_ (by decide) (by decide) hG_144
      have hG_202 := jS.frame hMr_198 go_.2.2.2.1 mq2_ kq2_ (by decide) (by decide) hG_145
      have g := g.more hF_199
      have kb_1201 : bd 1201 1201 (1201 : Int32) := ⟨by decide, by decide⟩
      subst hQ
      exact W.vret hx hb hr (fun t ht hW => ⟨⟨_, rfl, Or.inr (⟨hG_201, 1201, kb_1201, x_14, h_15, (g.fcts [0, 1] rfl)⟩), q3_of g hK ht hW⟩, g.2.2.1.F ht⟩) g.2.2.1.2.2 dX0_readSize_48
set_option maxHeartbeats 4000000 in
set_option maxRecDepth 100000 in
theorem r_X0_readNumber (l : Launch) (dC : Nat → ClassId) (dI : Nat → Nat → Nat) (L : List Nat) (kd : Nat → Nat) (tys : List (ClassId × FieldType)) (f0 : Nat → va_E) (sz : Nat) (hWT : WT L kd tys f0) (a0_ : Nat) (ma0_ : a0_ ∈ L) (ka0_ : kd a0_ = 0) (q0_ : Nat) (mq0_ : q0_ ∈ L) (kq0_ : kd q0_ = 8) (q1_ : Nat) (mq1_ : q1_ ∈ L) (kq1_ : kd q1_ = 7) (y0_ : Int32) (by0_ : bd 0 0 y0_) (T_ : Nat) (J_ : Int32 → Prop) (hGcq1_ : cOK f0 q1_) (hGdq1_ : dOK L kd f0 q1_ T_) (hGsq1_ : jS f0 q1_ J_) (hfx : Fs L kd f0 [(0, 0, a0_, .ref q0_), (0, 2, a0_, .ref q1_), (8, 8, q0_, .int y0_)]) : Met l yX0_readNumber (.code yX0_readNumber cX0_readNumber 1 none :: lw_g) ({ frames := 1, cells := 0, slots := 0, locals := 22 }) (va_Pc [.ref a0_] (P3 (dC, dI) L tys f0 sz)) (va_Qv (fun (f : Nat → va_E) => (cOK f q1_ ∧ dOK L kd f q1_ T_ ∧ jS f q1_ J_ ∧ ∃ z1_ : Int32, bd 1 300 z1_ ∧ ∃ z2_ : Int32, bd 1 1201 z2_ ∧ Fs L kd f [(0, 12, a0_, .int 0), (0, 10, a0_, .int z1_), (8, 6, q0_, .int z2_)])) (Q3 (dC, dI) L kd tys [(0, 10), (0, 12), (7, 6), (7, 18), (8, 6)] [115, 138, 139] f0 sz) (pA L sz)) 0 0 (pA L sz) := by
  refine Met.ofW (cc := cX0_readNumber) (maxL := 1) (ret := none) (by decide) rfl ?_
  intro p e s m args below meth c s₁ B hml hv
  obtain ⟨rfl, hsz, hP, hK, hD0⟩ := hv
  have hx := B.exec
  have hb := B.bytes
  have hr := B.returns
  have hts := atoms_spec (ws := (.code yX0_readNumber cX0_readNumber 1 none :: lw_g)) B.pre
  have hown : s.vm.findClass RX0 = some m.cls := findClass_of_methodNamed B.named
  have hlocks := B.notSynchronized
  subst hsz
  have g : G3 (dC, dI) L kd tys s f0 [(0, 10), (0, 12), (7, 6), (7, 18), (8, 6)] [115, 138, 139] f0 s.heap [] [(0, 0, a0_, .ref q0_), (0, 2, a0_, .ref q1_), (8, 8, q0_, .int y0_)] := G3.start hP hD0 hWT hfx
  have hl := lv_entry ([.ref a0_]) (n := 1) (Nat.le_of_ble_eq_true rfl)
  rw [lg_entry_eq]
  generalize (lg_sl ([.ref a0_]) ++ List.replicate (1 - (lg_sl ([.ref a0_])).length) Slot.unset).toArray = ls at hl ⊢
  have hl : lv_has ls 1 [(0, .ref a0_)] := hl
  refine W_q (fun Q hQ => ?_)
  refine lv_aload_n hx hb dX0_readNumber_0 rfl (lv_at hl 0 rfl) ?_
  refine g_getk (C := RX0) (T := TX0) (N := 14) hx hb hts (mc_ inX0) hown hK g rfl 2 (by decide) rfl (hts _ (List.mem_cons_of_mem _ t_375)) (fun _ h9 => h9) 1 rfl dX0_readNumber_1 ?_
  refine lv_iconst (v := 1) hx hb dX0_readNumber_4 (by decide) ?_
  refine lv_aload_n hx hb dX0_readNumber_5 rfl (lv_at hl 0 rfl) ?_
  refine g_getk (C := RX0) (T := TX0) (N := 14) hx hb hts (mc_ inX0) hown hK g rfl 0 (by decide) rfl (hts _ (List.mem_cons_of_mem _ t_373)) (fun _ h9 => h9) 0 rfl dX0_readNumber_6 ?_
  have go_ := g
  refine g_calll (va_runV (As := []) (rest := [.int 1, .ref q1_]) ⟨hx, hb, hml, hown, hts⟩ (r_X8_value l dC dI L kd tys f0 s.heap.size g.2.2.2.1 q0_ mq0_ kq0_) (cwV 0 hts (gV_ t_1238 t_1115 t_1116 t_184 t_1117) rfl rfl rfl (by decide +kernel) ⟨(Nat.le_of_ble_eq_true rfl), (Nat.le_of_ble_eq_true rfl)⟩) (pre3V g hK mq0_ kq0_ (by decide) (q := (RX8, TX8, 10)) rfl) rfl rfl hl.1 rfl (lv_room (Nat.le_of_ble_eq_true rfl)) dX0_readNumber_9 ⟨(Nat.le_of_ble_eq_true rfl), (Nat.le_of_ble_eq_true rfl)⟩) g hK (by decide) (by decide) (fx' := [(0, 0, a0_, .ref q0_), (0, 2, a0_, .ref q1_), (8, 8, q0_, .int y0_)]) rfl (fun r_1 fr_1 H locs hp hMr_1 g => ?_)
  have hG_2 := cOK.frame hMr_1 go_.2.2.2.1 mq1_ kq1_ (by decide) (by decide) hGcq1_
  have hG_3 := dOK.frame hMr_1 go_.2.2.2.1 mq1_ kq1_ (by decide) (by decide) hGdq1_
  have hG_4 := jS.frame hMr_1 go_.2.2.2.1 mq1_ kq1_ (by decide) (by decide) hGsq1_
  refine lv_l2i hx hb dX0_readNumber_12 rfl ?_
  refine lv_topi (fun y_5 ey_5 => ?_)
  obtain ⟨a_6, ma_6, ka_6, g⟩ := g_factr g mq1_ kq1_ (by decide) 4 rfl
  obtain ⟨a_7, ma_7, ka_7, g⟩ := g_factr g mq1_ kq1_ (by decide) 5 rfl
  obtain ⟨x_8, bx_8, g⟩ := g_facti g mq1_ kq1_ (by decide) 6 rfl
  have kb_1 : bd 1 1 (1 : Int32) := ⟨by decide, by decide⟩
  have go_ := g
  refine g_callv (va_runV (As := [.int 1, .int y_5]) (rest := []) ⟨hx, hb, hml, hown, hts⟩ (r_X7_emitN l dC dI L kd tys fr_1 H.size g.2.2.2.1 q1_ mq1_ kq1_ a_6 ma_6 ka_6 a_7 ma_7 ka_7 x_8 bx_8 T_ hG_3 (1 : Int32) y_5 (fun j9 => jOK fr_1 q1_ j9) hG_2 (fun _ h9 => h9) ⟨(fun h9 => ⟨(by have h9_0 := bx_8; unfold bd at h9_0; have h9_1 := by0_; unfold bd at h9_1; have h8_0 := kb_1; unfold bd at h8_0; omega), (by have h9_0 := bx_8; unfold bd at h9_0; have h9_1 := by0_; unfold bd at h9_1; have h8_0 := kb_1; unfold bd at h8_0; omega)⟩), (fun h9 => ⟨(by have h9_0 := bx_8; unfold bd at h9_0; have h9_1 := by0_; unfold bd at h9_1; have h8_0 := kb_1; unfold bd at h8_0; omega), (by have h9_0 := bx_8; unfold bd at h9_0; have h9_1 := by0_; unfold bd at h9_1; have h8_0 := kb_1; unfold bd at h8_0; omega)⟩), (fun h9 => ⟨(by have h9_0 := bx_8; unfold bd at h9_0; have h9_1 := by0_; unfold bd at h9_1; have h8_0 := kb_1; unfold bd at h8_0; omega), (by have h9_0 := bx_8; unfold bd at h9_0; have h9_1 := by0_; unfold bd at h9_1; have h8_0 := kb_1; unfold bd at h8_0; omega)⟩)⟩ (g.fcts [2, 1, 0] rfl)) (cwV 2 hts (gV_ t_1203 t_1204 t_1205 t_191 t_1206) rfl rfl rfl (by decide +kernel) ⟨(Nat.le_of_ble_eq_true rfl), (Nat.le_of_ble_eq_true rfl)⟩) (pre3V g hK mq1_ kq1_ (by decide) (q := (RX7, TX7, 19)) rfl) rfl rfl hl.1 rfl (lv_room (Nat.le_of_ble_eq_true rfl)) dX0_readNumber_13 ⟨(Nat.le_of_ble_eq_true rfl), (Nat.le_of_ble_eq_true rfl)⟩) g hK (by decide) (by decide) (fx' := [(7, 5, q1_, .ref a_7), (7, 4, q1_, .ref a_6), (0, 0, a0_, .ref q0_), (0, 2, a0_, .ref q1_), (8, 8, q0_, .int y0_)]) rfl (fun fr_9 H locs hp hMr_9 g => ?_)
  obtain ⟨hG_10, hG_11, hG_12, hx_13, x_14, h_15, hF_16⟩ := hp
  have g := g.more hF_16
  have hs_17 := jS.mv hG_4 hG_12
  refine lv_aload_n hx hb dX0_readNumber_16 rfl (lv_at hl 0 rfl) ?_
  refine g_getk (C := RX0) (T := TX0) (N := 14) hx hb hts (mc_ inX0) hown hK g rfl 2 (by decide) rfl (hts _ (List.mem_cons_of_mem _ t_375)) (fun _ h9 => h9) 4 rfl dX0_readNumber_17 ?_
  refine lv_dup hx hb dX0_readNumber_20 rfl ?_
  refine g_geti (C := RX7) (T := TX7) (N := 19) hx hb hts (mc_ inX7) hown hK g mq1_ kq1_ (by decide) rfl 18 (by decide) rfl (hts _ (List.mem_cons_of_mem _ t_681)) (fun _ h9 => h9) rfl dX0_readNumber_21 (fun x_18 bx_18 g => ?_)
  refine lv_iconst (v := 1) hx hb dX0_readNumber_24 (by decide) ?_
  refine lv_iadd hx hb dX0_readNumber_25 ?_
  refine lv_topi (fun y_19 ey_19 => ?_)
  have go_ := g
  refine g_put (C := RX7) (T := TX7) (N := 19) hx hb hts (mc_ inX7) tyX7 tyX7_ok nmX7 hown hK g mq1_ kq1_ (by decide) rfl 18 (by decide) (hts _ (List.mem_cons_of_mem _ t_681)) (fun _ h9 => h9) rfl rfl (okV_i (bdT y_19)) rfl rfl (by decide) (Or.inr (Or.inl (by decide))) (fx' := [(7, 6, q1_, .int x_14), (7, 5, q1_, .ref a_7), (7, 4, q1_, .ref a_6), (0, 0, a0_, .ref q0_), (0, 2, a0_, .ref q1_), (8, 8, q0_, .int y0_)]) rfl dX0_readNumber_26 (fun f H locs hM_20 g => ?_)
  have hG_21 := cOK.frame hM_20 go_.2.2.2.1 mq1_ kq1_ (by decide) (by decide) hG_11
  have hG_22 := dOK.frame hM_20 go_.2.2.2.1 mq1_ kq1_ (by decide) (by decide) hG_10
  have hG_23 := jS.frame hM_20 go_.2.2.2.1 mq1_ kq1_ (by decide) (by decide) hs_17
  refine lv_aload_n hx hb dX0_readNumber_29 rfl (lv_at hl 0 rfl) ?_
  refine g_getk (C := RX0) (T := TX0) (N := 14) hx hb hts (mc_ inX0) hown hK g rfl 0 (by decide) rfl (hts _ (List.mem_cons_of_mem _ t_373)) (fun _ h9 => h9) 4 rfl dX0_readNumber_30 ?_
  have go_ := g
  refine g_callv (va_runV (As := []) (rest := []) ⟨hx, hb, hml, hown, hts⟩ (r_X8_next l dC dI L kd tys f H.size g.2.2.2.1 q0_ mq0_ kq0_) (cwV 0 hts (gV_ t_1225 t_1103 t_1104 t_184 t_1105) rfl rfl rfl (by decide +kernel) ⟨(Nat.le_of_ble_eq_true rfl), (Nat.le_of_ble_eq_true rfl)⟩) (pre3V g hK mq0_ kq0_ (by decide) (q := (RX8, TX8, 10)) rfl) rfl rfl hl.1 rfl (lv_room (Nat.le_of_ble_eq_true rfl)) dX0_readNumber_33 ⟨(Nat.le_of_ble_eq_true rfl), (Nat.le_of_ble_eq_true rfl)⟩) g hK (by decide) (by decide) (fx' := [(7, 18, q1_, .int y_19), (7, 6, q1_, .int x_14), (7, 5, q1_, .ref a_7), (7, 4, q1_, .ref a_6), (0, 0, a0_, .ref q0_), (0, 2, a0_, .ref q1_), (8, 8, q0_, .int y0_)]) rfl (fun fr_24 H locs hp hMr_24 g => ?_)
  obtain ⟨x_25, h_26, hF_27⟩ := hp
  have hG_28 := cOK.frame hMr_24 go_.2.2.2.1 mq1_ kq1_ (by decide) (by decide) hG_21
  have hG_29 := dOK.frame hMr_24 go_.2.2.2.1 mq1_ kq1_ (by decide) (by decide) hG_22
  have hG_30 := jS.frame hMr_24 go_.2.2.2.1 mq1_ kq1_ (by decide) (by decide) hG_23
  have g := g.more hF_27
  refine lv_aload_n hx hb dX0_readNumber_36 rfl (lv_at hl 0 rfl) ?_
  refine lv_iconst (v := 1) hx hb dX0_readNumber_37 (by decide) ?_
  have go_ := g
  refine g_callv (va_runV (As := [.int 1]) (rest := []) ⟨hx, hb, hml, hown, hts⟩ (r_X0_addWhole l dC dI L kd tys fr_24 H.size g.2.2.2.1 a0_ ma0_ ka0_ 1) (cwV 1 hts (gV_ t_1211 t_1213 t_17 t_190 t_1214) rfl rfl rfl (by decide +kernel) ⟨(Nat.le_of_ble_eq_true rfl), (Nat.le_of_ble_eq_true rfl)⟩) (pre3V g hK ma0_ ka0_ (by decide) (q := (RX0, TX0, 14)) rfl) rfl rfl hl.1 rfl (lv_room (Nat.le_of_ble_eq_true rfl)) dX0_readNumber_38 ⟨(Nat.le_of_ble_eq_true rfl), (Nat.le_of_ble_eq_true rfl)⟩) g hK (by decide) (by decide) (fx' := [(8, 6, q0_, .int x_25), (7, 18, q1_, .int y_19), (7, 6, q1_, .int x_14), (7, 5, q1_, .ref a_7), (7, 4, q1_, .ref a_6), (0, 0, a0_, .ref q0_), (0, 2, a0_, .ref q1_), (8, 8, q0_, .int y0_)]) rfl (fun fr_31 H locs hp hMr_31 g => ?_)
  obtain ⟨x_32, h_33, hF_34⟩ := hp
  have hG_35 := cOK.frame hMr_31 go_.2.2.2.1 mq1_ kq1_ (by decide) (by decide) hG_28
  have hG_36 := dOK.frame hMr_31 go_.2.2.2.1 mq1_ kq1_ (by decide) (by decide) hG_29
  have hG_37 := jS.frame hMr_31 go_.2.2.2.1 mq1_ kq1_ (by decide) (by decide) hG_30
  have g := g.more hF_34
  subst hQ
  exact W.vret hx hb hr (fun t ht hW => ⟨⟨_, rfl, ⟨hG_35, hG_36, hG_37, x_32, h_33, x_25, h_26, (g.fcts [0, 1, 2] rfl)⟩, q3_of g hK ht hW⟩, g.2.2.1.F ht⟩) g.2.2.1.2.2 dX0_readNumber_41
set_option maxHeartbeats 4000000 in
set_option maxRecDepth 100000 in
theorem r_X8_atBracket (l : Launch) (dC : Nat → ClassId) (dI : Nat → Nat → Nat) (L : List Nat) (kd : Nat → Nat) (tys : List (ClassId × FieldType)) (f0 : Nat → va_E) (sz : Nat) (hWT : WT L kd tys f0) (a0_ : Nat) (ma0_ : a0_ ∈ L) (ka0_ : kd a0_ = 8) : Met l yX8_atBracket (.code yX8_atBracket cX8_atBracket 1 (some .boolean) :: lw_g) ({ frames := 0, cells := 0, slots := 0, locals := 0 }) (va_Pc [.ref a0_] (P3 (dC, dI) L tys f0 sz)) (va_Qi (fun (r : Int32) (f : Nat → va_E) => (bd 0 1 r ∧ True)) (Q3 (dC, dI) L kd tys [] [] f0 sz) (pA L sz)) 0 0 (pA L sz) := by
  refine Met.ofW (cc := cX8_atBracket) (maxL := 1) (ret := (some .boolean)) (by decide) rfl ?_
  intro p e s m args below meth c s₁ B hml hv
  obtain ⟨rfl, hsz, hP, hK, hD0⟩ := hv
  have hx := B.exec
  have hb := B.bytes
  have hr := B.returns
  have hts := atoms_spec (ws := (.code yX8_atBracket cX8_atBracket 1 (some .boolean) :: lw_g)) B.pre
  have hown : s.vm.findClass RX8 = some m.cls := findClass_of_methodNamed B.named
  have hlocks := B.notSynchronized
  subst hsz
  have g : G3 (dC, dI) L kd tys s f0 [] [] f0 s.heap [] [] := G3.start hP hD0 hWT Fs.nil
  have hl := lv_entry ([.ref a0_]) (n := 1) (Nat.le_of_ble_eq_true rfl)
  rw [lg_entry_eq]
  generalize (lg_sl ([.ref a0_]) ++ List.replicate (1 - (lg_sl ([.ref a0_])).length) Slot.unset).toArray = ls at hl ⊢
  have hl : lv_has ls 1 [(0, .ref a0_)] := hl
  refine W_q (fun Q hQ => ?_)
  refine lv_aload_n hx hb dX8_atBracket_0 rfl (lv_at hl 0 rfl) ?_
  refine g_geti (C := RX8) (T := TX8) (N := 10) hx hb hts (mc_ inX8) hown hK g ma0_ ka0_ (by decide) rfl 6 (by decide) rfl (hts _ (List.mem_cons_of_mem _ t_291)) (fun _ h9 => h9) rfl dX8_atBracket_1 (fun x_1 bx_1 g => ?_)
  refine lv_sipush (v := 1200) hx hb dX8_atBracket_4 (by decide) ?_
  have kb_1200 : bd 1200 1200 (1200 : Int32) := ⟨by decide, by decide⟩
  refine lv_icmp_le (tgt := 17) hx hb dX8_atBracket_7 (by decide) (fun c_2 => ?_) (fun c_2 => ?_)
  · have fc_2 := le_f c_2
    have b_3 : bd 0 1200 x_1 := leL fc_2 bx_1 kb_1200 (by decide)
    refine lv_aload_n hx hb dX8_atBracket_17 rfl (lv_at hl 0 rfl) ?_
    refine g_getr (K := 148) (C := RX8) (T := TX8) (N := 10) hx hb hts (mc_ inX8) hown hK g ma0_ ka0_ (by decide) rfl 0 (by decide) rfl (hts _ (List.mem_cons_of_mem _ t_285)) (fun _ h9 => h9) rfl dX8_atBracket_18 (fun a_4 ma_4 ka_4 g => ?_)
    refine lv_aload_n hx hb dX8_atBracket_21 rfl (lv_at hl 0 rfl) ?_
    refine g_getk (C := RX8) (T := TX8) (N := 10) hx hb hts (mc_ inX8) hown hK g rfl 6 (by decide) rfl (hts _ (List.mem_cons_of_mem _ t_291)) (fun _ h9 => h9) 1 rfl dX8_atBracket_22 ?_
    refine g_kald hx hb hK g ma_4 ka_4 (by decide) rfl (in_bd b_3 (by decide)) dX8_atBracket_25 (fun x_5 bx_5 cx_5 zx_5 => ?_)
    refine lv_bipush (v := 40) hx hb dX8_atBracket_26 (by decide) ?_
    have kb_40 : bd 40 40 (40 : Int32) := ⟨by decide, by decide⟩
    refine lv_icmp_ne (tgt := 35) hx hb dX8_atBracket_28 (by decide) (fun c_6 => ?_) (fun c_6 => ?_)
    · have fc_6 := neq_f c_6
      refine lv_iconst (v := 0) hx hb dX8_atBracket_35 (by decide) ?_
      have kb_0 : bd 0 0 (0 : Int32) := ⟨by decide, by decide⟩
      subst hQ
      exact W.zret (v := 0) hx hb hr (nar_z (bd_sub kb_0 (by decide) : bd 0 1 _).1 (bd_sub kb_0 (by decide) : bd 0 1 _).2) (fun t ht hW => ⟨⟨_, _, rfl, ⟨(bd_sub kb_0 (by decide)), trivial⟩, q3_of g hK ht hW⟩, g.2.2.1.F ht⟩) g.2.2.1.2.2 dX8_atBracket_36
    · have fc_6 := eq_f c_6
      have b_7 : bd 40 40 x_5 := eqX fc_6 (bdT x_5) kb_40 (by decide)
      refine lv_iconst (v := 1) hx hb dX8_atBracket_31 (by decide) ?_
      refine lv_goto (tgt := 36) hx hb dX8_atBracket_32 (by decide) ?_
      have kb_1 : bd 1 1 (1 : Int32) := ⟨by decide, by decide⟩
      subst hQ
      exact W.zret (v := 1) hx hb hr (nar_z (bd_sub kb_1 (by decide) : bd 0 1 _).1 (bd_sub kb_1 (by decide) : bd 0 1 _).2) (fun t ht hW => ⟨⟨_, _, rfl, ⟨(bd_sub kb_1 (by decide)), trivial⟩, q3_of g hK ht hW⟩, g.2.2.1.F ht⟩) g.2.2.1.2.2 dX8_atBracket_36
  · have fc_2 := nle_f c_2
    have b_8 : bd 1201 1201 x_1 := ltR fc_2 kb_1200 bx_1 (by decide)
    refine lv_aload_n hx hb dX8_atBracket_10 rfl (lv_at hl 0 rfl) ?_
    refine g_geti (C := RX8) (T := TX8) (N := 10) hx hb hts (mc_ inX8) hown hK g ma0_ ka0_ (by decide) rfl 7 (by decide) rfl (hts _ (List.mem_cons_of_mem _ t_292)) (fun _ h9 => h9) rfl dX8_atBracket_11 (fun x_9 bx_9 g => ?_)
    refine lv_goto (tgt := 36) hx hb dX8_atBracket_14 (by decide) ?_
    subst hQ
    exact W.zret (v := x_9) hx hb hr (nar_z bx_9.1 bx_9.2) (fun t ht hW => ⟨⟨_, _, rfl, ⟨bx_9, trivial⟩, q3_of g hK ht hW⟩, g.2.2.1.F ht⟩) g.2.2.1.2.2 dX8_atBracket_36
set_option maxHeartbeats 4000000 in
set_option maxRecDepth 100000 in
theorem r_X0_levelOf (l : Launch) (dC : Nat → ClassId) (dI : Nat → Nat → Nat) (L : List Nat) (kd : Nat → Nat) (tys : List (ClassId × FieldType)) (f0 : Nat → va_E) (sz : Nat) (hWT : WT L kd tys f0) (x0_ : Int32) : Met l yX0_levelOf (.code yX0_levelOf cX0_levelOf 1 (some .int) :: lw_g) ({ frames := 0, cells := 0, slots := 0, locals := 0 }) (va_Pc [.int x0_] (P3 (dC, dI) L tys f0 sz)) (va_Qi (fun (r : Int32) (f : Nat → va_E) => (r = 0 ∧ True) ∨ (bd 1 5 r ∧ bd 37 206 x0_ ∧ True)) (Q3 (dC, dI) L kd tys [] [] f0 sz) (pA L sz)) 0 0 (pA L sz) := by
  refine Met.ofW (cc := cX0_levelOf) (maxL := 1) (ret := (some .int)) (by decide) rfl ?_
  intro p e s m args below meth c s₁ B hml hv
  obtain ⟨rfl, hsz, hP, hK, hD0⟩ := hv
  have hx := B.exec
  have hb := B.bytes
  have hr := B.returns
  have hts := atoms_spec (ws := (.code yX0_levelOf cX0_levelOf 1 (some .int) :: lw_g)) B.pre
  have hown : s.vm.findClass RX0 = some m.cls := findClass_of_methodNamed B.named
  have hlocks := B.notSynchronized
  subst hsz
  have g : G3 (dC, dI) L kd tys s f0 [] [] f0 s.heap [] [] := G3.start hP hD0 hWT Fs.nil
  have hl := lv_entry ([.int x0_]) (n := 1) (Nat.le_of_ble_eq_true rfl)
  rw [lg_entry_eq]
  generalize (lg_sl ([.int x0_]) ++ List.replicate (1 - (lg_sl ([.int x0_])).length) Slot.unset).toArray = ls at hl ⊢
  have hl : lv_has ls 1 [(0, .int x0_)] := hl
  refine W_q (fun Q hQ => ?_)
  refine lv_iload_n hx hb dX0_levelOf_0 rfl (lv_at hl 0 rfl) ?_
  by_cases e_1 : x0_ = 37
  · refine lv_topi (fun z_2 ez_2 => ?_)
    obtain rfl : z_2 = 37 := ez_2.trans e_1
    have kb_37 : bd 37 37 (37 : Int32) := ⟨by decide, by decide⟩
    have b_3 : bd 37 37 x0_ := eqX (eq_f e_1) (bdT x0_) kb_37 (by decide)
    refine lv_lookup (off := 125) (tgt := 126) hx hb dX0_levelOf_1 (by decide) (by decide) (by decide) ?_
    refine lv_iconst (v := 5) hx hb dX0_levelOf_126 (by decide) ?_
    have kb_5 : bd 5 5 (5 : Int32) := ⟨by decide, by decide⟩
    subst hQ
    exact W.iret (v := 5) hx hb hr (fun t ht hW => ⟨⟨_, _, rfl, Or.inr (⟨(bd_sub kb_5 (by decide)), (bd_sub b_3 (by decide)), trivial⟩), q3_of g hK ht hW⟩, g.2.2.1.F ht⟩) g.2.2.1.2.2 dX0_levelOf_127
  by_cases e_4 : x0_ = 42
  · refine lv_topi (fun z_5 ez_5 => ?_)
    obtain rfl : z_5 = 42 := ez_5.trans e_4
    have kb_42 : bd 42 42 (42 : Int32) := ⟨by decide, by decide⟩
    have b_6 : bd 42 42 x0_ := eqX (eq_f e_4) (bdT x0_) kb_42 (by decide)
    refine lv_lookup (off := 125) (tgt := 126) hx hb dX0_levelOf_1 (by decide) (by decide) (by decide) ?_
    refine lv_iconst (v := 5) hx hb dX0_levelOf_126 (by decide) ?_
    have kb_5 : bd 5 5 (5 : Int32) := ⟨by decide, by decide⟩
    subst hQ
    exact W.iret (v := 5) hx hb hr (fun t ht hW => ⟨⟨_, _, rfl, Or.inr (⟨(bd_sub kb_5 (by decide)), (bd_sub b_6 (by decide)), trivial⟩), q3_of g hK ht hW⟩, g.2.2.1.F ht⟩) g.2.2.1.2.2 dX0_levelOf_127
  by_cases e_7 : x0_ = 43
  · refine lv_topi (fun z_8 ez_8 => ?_)
    obtain rfl : z_8 = 43 := ez_8.trans e_7
    have kb_43 : bd 43 43 (43 : Int32) := ⟨by decide, by decide⟩
    have b_9 : bd 43 43 x0_ := eqX (eq_f e_7) (bdT x0_) kb_43 (by decide)
    refine lv_lookup (off := 123) (tgt := 124) hx hb dX0_levelOf_1 (by decide) (by decide) (by decide) ?_
    refine lv_iconst (v := 4) hx hb dX0_levelOf_124 (by decide) ?_
    have kb_4 : bd 4 4 (4 : Int32) := ⟨by decide, by decide⟩
    subst hQ
    exact W.iret (v := 4) hx hb hr (fun t ht hW => ⟨⟨_, _, rfl, Or.inr (⟨(bd_sub kb_4 (by decide)), (bd_sub b_9 (by decide)), trivial⟩), q3_of g hK ht hW⟩, g.2.2.1.F ht⟩) g.2.2.1.2.2 dX0_levelOf_125
  by_cases e_10 : x0_ = 45
  · refine lv_topi (fun z_11 ez_11 => ?_)
    obtain rfl : z_11 = 45 := ez_11.trans e_10
    have kb_45 : bd 45 45 (45 : Int32) := ⟨by decide, by decide⟩
    have b_12 : bd 45 45 x0_ := eqX (eq_f e_10) (bdT x0_) kb_45 (by decide)
    refine lv_lookup (off := 123) (tgt := 124) hx hb dX0_levelOf_1 (by decide) (by decide) (by decide) ?_
    refine lv_iconst (v := 4) hx hb dX0_levelOf_124 (by decide) ?_
    have kb_4 : bd 4 4 (4 : Int32) := ⟨by decide, by decide⟩
    subst hQ
    exact W.iret (v := 4) hx hb hr (fun t ht hW => ⟨⟨_, _, rfl, Or.inr (⟨(bd_sub kb_4 (by decide)), (bd_sub b_12 (by decide)), trivial⟩), q3_of g hK ht hW⟩, g.2.2.1.F ht⟩) g.2.2.1.2.2 dX0_levelOf_125
  by_cases e_13 : x0_ = 47
  · refine lv_topi (fun z_14 ez_14 => ?_)
    obtain rfl : z_14 = 47 := ez_14.trans e_13
    have kb_47 : bd 47 47 (47 : Int32) := ⟨by decide, by decide⟩
    have b_15 : bd 47 47 x0_ := eqX (eq_f e_13) (bdT x0_) kb_47 (by decide)
    refine lv_lookup (off := 125) (tgt := 126) hx hb dX0_levelOf_1 (by decide) (by decide) (by decide) ?_
    refine lv_iconst (v := 5) hx hb dX0_levelOf_126 (by decide) ?_
    have kb_5 : bd 5 5 (5 : Int32) := ⟨by decide, by decide⟩
    subst hQ
    exact W.iret (v := 5) hx hb hr (fun t ht hW => ⟨⟨_, _, rfl, Or.inr (⟨(bd_sub kb_5 (by decide)), (bd_sub b_15 (by decide)), trivial⟩), q3_of g hK ht hW⟩, g.2.2.1.F ht⟩) g.2.2.1.2.2 dX0_levelOf_127
  by_cases e_16 : x0_ = 60
  · refine lv_topi (fun z_17 ez_17 => ?_)
    obtain rfl : z_17 = 60 := ez_17.trans e_16
    have kb_60 : bd 60 60 (60 : Int32) := ⟨by decide, by decide⟩
    have b_18 : bd 60 60 x0_ := eqX (eq_f e_16) (bdT x0_) kb_60 (by decide)
    refine lv_lookup (off := 121) (tgt := 122) hx hb dX0_levelOf_1 (by decide) (by decide) (by decide) ?_
    refine lv_iconst (v := 3) hx hb dX0_levelOf_122 (by decide) ?_
    have kb_3 : bd 3 3 (3 : Int32) := ⟨by decide, by decide⟩
    subst hQ
    exact W.iret (v := 3) hx hb hr (fun t ht hW => ⟨⟨_, _, rfl, Or.inr (⟨(bd_sub kb_3 (by decide)), (bd_sub b_18 (by decide)), trivial⟩), q3_of g hK ht hW⟩, g.2.2.1.F ht⟩) g.2.2.1.2.2 dX0_levelOf_123
  by_cases e_19 : x0_ = 62
  · refine lv_topi (fun z_20 ez_20 => ?_)
    obtain rfl : z_20 = 62 := ez_20.trans e_19
    have kb_62 : bd 62 62 (62 : Int32) := ⟨by decide, by decide⟩
    have b_21 : bd 62 62 x0_ := eqX (eq_f e_19) (bdT x0_) kb_62 (by decide)
    refine lv_lookup (off := 121) (tgt := 122) hx hb dX0_levelOf_1 (by decide) (by decide) (by decide) ?_
    refine lv_iconst (v := 3) hx hb dX0_levelOf_122 (by decide) ?_
    have kb_3 : bd 3 3 (3 : Int32) := ⟨by decide, by decide⟩
    subst hQ
    exact W.iret (v := 3) hx hb hr (fun t ht hW => ⟨⟨_, _, rfl, Or.inr (⟨(bd_sub kb_3 (by decide)), (bd_sub b_21 (by decide)), trivial⟩), q3_of g hK ht hW⟩, g.2.2.1.F ht⟩) g.2.2.1.2.2 dX0_levelOf_123
  by_cases e_22 : x0_ = 201
  · refine lv_topi (fun z_23 ez_23 => ?_)
    obtain rfl : z_23 = 201 := ez_23.trans e_22
    have kb_201 : bd 201 201 (201 : Int32) := ⟨by decide, by decide⟩
    have b_24 : bd 201 201 x0_ := eqX (eq_f e_22) (bdT x0_) kb_201 (by decide)
    refine lv_lookup (off := 119) (tgt := 120) hx hb dX0_levelOf_1 (by decide) (by decide) (by decide) ?_
    refine lv_iconst (v := 3) hx hb dX0_levelOf_120 (by decide) ?_
    have kb_3 : bd 3 3 (3 : Int32) := ⟨by decide, by decide⟩
    subst hQ
    exact W.iret (v := 3) hx hb hr (fun t ht hW => ⟨⟨_, _, rfl, Or.inr (⟨(bd_sub kb_3 (by decide)), (bd_sub b_24 (by decide)), trivial⟩), q3_of g hK ht hW⟩, g.2.2.1.F ht⟩) g.2.2.1.2.2 dX0_levelOf_121
  by_cases e_25 : x0_ = 202
  · refine lv_topi (fun z_26 ez_26 => ?_)
    obtain rfl : z_26 = 202 := ez_26.trans e_25
    have kb_202 : bd 202 202 (202 : Int32) := ⟨by decide, by decide⟩
    have b_27 : bd 202 202 x0_ := eqX (eq_f e_25) (bdT x0_) kb_202 (by decide)
    refine lv_lookup (off := 119) (tgt := 120) hx hb dX0_levelOf_1 (by decide) (by decide) (by decide) ?_
    refine lv_iconst (v := 3) hx hb dX0_levelOf_120 (by decide) ?_
    have kb_3 : bd 3 3 (3 : Int32) := ⟨by decide, by decide⟩
    subst hQ
    exact W.iret (v := 3) hx hb hr (fun t ht hW => ⟨⟨_, _, rfl, Or.inr (⟨(bd_sub kb_3 (by decide)), (bd_sub b_27 (by decide)), trivial⟩), q3_of g hK ht hW⟩, g.2.2.1.F ht⟩) g.2.2.1.2.2 dX0_levelOf_121
  by_cases e_28 : x0_ = 203
  · refine lv_topi (fun z_29 ez_29 => ?_)
    obtain rfl : z_29 = 203 := ez_29.trans e_28
    have kb_203 : bd 203 203 (203 : Int32) := ⟨by decide, by decide⟩
    have b_30 : bd 203 203 x0_ := eqX (eq_f e_28) (bdT x0_) kb_203 (by decide)
    refine lv_lookup (off := 121) (tgt := 122) hx hb dX0_levelOf_1 (by decide) (by decide) (by decide) ?_
    refine lv_iconst (v := 3) hx hb dX0_levelOf_122 (by decide) ?_
    have kb_3 : bd 3 3 (3 : Int32) := ⟨by decide, by decide⟩
    subst hQ
    exact W.iret (v := 3) hx hb hr (fun t ht hW => ⟨⟨_, _, rfl, Or.inr (⟨(bd_sub kb_3 (by decide)), (bd_sub b_30 (by decide)), trivial⟩), q3_of g hK ht hW⟩, g.2.2.1.F ht⟩) g.2.2.1.2.2 dX0_levelOf_123
  by_cases e_31 : x0_ = 204
  · refine lv_topi (fun z_32 ez_32 => ?_)
    obtain rfl : z_32 = 204 := ez_32.trans e_31
    have kb_204 : bd 204 204 (204 : Int32) := ⟨by decide, by decide⟩
    have b_33 : bd 204 204 x0_ := eqX (eq_f e_31) (bdT x0_) kb_204 (by decide)
    refine lv_lookup (off := 121) (tgt := 122) hx hb dX0_levelOf_1 (by decide) (by decide) (by decide) ?_
    refine lv_iconst (v := 3) hx hb dX0_levelOf_122 (by decide) ?_
    have kb_3 : bd 3 3 (3 : Int32) := ⟨by decide, by decide⟩
    subst hQ
    exact W.iret (v := 3) hx hb hr (fun t ht hW => ⟨⟨_, _, rfl, Or.inr (⟨(bd_sub kb_3 (by decide)), (bd_sub b_33 (by decide)), trivial⟩), q3_of g hK ht hW⟩, g.2.2.1.F ht⟩) g.2.2.1.2.2 dX0_levelOf_123
  by_cases e_34 : x0_ = 205
  · refine lv_topi (fun z_35 ez_35 => ?_)
    obtain rfl : z_35 = 205 := ez_35.trans e_34
    have kb_205 : bd 205 205 (205 : Int32) := ⟨by decide, by decide⟩
    have b_36 : bd 205 205 x0_ := eqX (eq_f e_34) (bdT x0_) kb_205 (by decide)
    refine lv_lookup (off := 117) (tgt := 118) hx hb dX0_levelOf_1 (by decide) (by decide) (by decide) ?_
    refine lv_iconst (v := 2) hx hb dX0_levelOf_118 (by decide) ?_
    have kb_2 : bd 2 2 (2 : Int32) := ⟨by decide, by decide⟩
    subst hQ
    exact W.iret (v := 2) hx hb hr (fun t ht hW => ⟨⟨_, _, rfl, Or.inr (⟨(bd_sub kb_2 (by decide)), (bd_sub b_36 (by decide)), trivial⟩), q3_of g hK ht hW⟩, g.2.2.1.F ht⟩) g.2.2.1.2.2 dX0_levelOf_119
  by_cases e_37 : x0_ = 206
  · refine lv_topi (fun z_38 ez_38 => ?_)
    obtain rfl : z_38 = 206 := ez_38.trans e_37
    have kb_206 : bd 206 206 (206 : Int32) := ⟨by decide, by decide⟩
    have b_39 : bd 206 206 x0_ := eqX (eq_f e_37) (bdT x0_) kb_206 (by decide)
    refine lv_lookup (off := 115) (tgt := 116) hx hb dX0_levelOf_1 (by decide) (by decide) (by decide) ?_
    refine lv_iconst (v := 1) hx hb dX0_levelOf_116 (by decide) ?_
    have kb_1 : bd 1 1 (1 : Int32) := ⟨by decide, by decide⟩
    subst hQ
    exact W.iret (v := 1) hx hb hr (fun t ht hW => ⟨⟨_, _, rfl, Or.inr (⟨(bd_sub kb_1 (by decide)), (bd_sub b_39 (by decide)), trivial⟩), q3_of g hK ht hW⟩, g.2.2.1.F ht⟩) g.2.2.1.2.2 dX0_levelOf_117
  refine lv_lookup (off := 127) (tgt := 128) hx hb dX0_levelOf_1 (by decide) (by have a0 : x0_.toInt ≠ 37 := fun h => e_1 (Int32.toInt_inj.mp (h.trans (by decide))); have a1 : x0_.toInt ≠ 42 := fun h => e_4 (Int32.toInt_inj.mp (h.trans (by decide))); have a2 : x0_.toInt ≠ 43 := fun h => e_7 (Int32.toInt_inj.mp (h.trans (by decide))); have a3 : x0_.toInt ≠ 45 := fun h => e_10 (Int32.toInt_inj.mp (h.trans (by decide))); have a4 : x0_.toInt ≠ 47 := fun h => e_13 (Int32.toInt_inj.mp (h.trans (by decide))); have a5 : x0_.toInt ≠ 60 := fun h => e_16 (Int32.toInt_inj.mp (h.trans (by decide))); have a6 : x0_.toInt ≠ 62 := fun h => e_19 (Int32.toInt_inj.mp (h.trans (by decide))); have a7 : x0_.toInt ≠ 201 := fun h => e_22 (Int32.toInt_inj.mp (h.trans (by decide))); have a8 : x0_.toInt ≠ 202 := fun h => e_25 (Int32.toInt_inj.mp (h.trans (by decide))); have a9 : x0_.toInt ≠ 203 := fun h => e_28 (Int32.toInt_inj.mp (h.trans (by decide))); have a10 : x0_.toInt ≠ 204 := fun h => e_31 (Int32.toInt_inj.mp (h.trans (by decide))); have a11 : x0_.toInt ≠ 205 := fun h => e_34 (Int32.toInt_inj.mp (h.trans (by decide))); have a12 : x0_.toInt ≠ 206 := fun h => e_37 (Int32.toInt_inj.mp (h.trans (by decide))); simp [Op.lookupswitch.offset, a0, a1, a2, a3, a4, a5, a6, a7, a8, a9, a10, a11, a12, Ne.symm]) (by decide) ?_
  refine lv_iconst (v := 0) hx hb dX0_levelOf_128 (by decide) ?_
  subst hQ
  exact W.iret (v := 0) hx hb hr (fun t ht hW => ⟨⟨_, _, rfl, Or.inl ⟨rfl, trivial⟩, q3_of g hK ht hW⟩, g.2.2.1.F ht⟩) g.2.2.1.2.2 dX0_levelOf_129
set_option maxHeartbeats 4000000 in
set_option maxRecDepth 100000 in
theorem r_X0_takeHeight (l : Launch) (dC : Nat → ClassId) (dI : Nat → Nat → Nat) (L : List Nat) (kd : Nat → Nat) (tys : List (ClassId × FieldType)) (f0 : Nat → va_E) (sz : Nat) (hWT : WT L kd tys f0) (a0_ : Nat) (ma0_ : a0_ ∈ L) (ka0_ : kd a0_ = 0) : Met l yX0_takeHeight (.code yX0_takeHeight cX0_takeHeight 1 (some .int) :: lw_g) ({ frames := 0, cells := 0, slots := 0, locals := 0 }) (va_Pc [.ref a0_] (P3 (dC, dI) L tys f0 sz)) (va_Qi (fun (r : Int32) (f : Nat → va_E) => (∃ z0_ : Int32, bd 0 299 z0_ ∧ Fs L kd f [(0, 10, a0_, .int z0_)])) (Q3 (dC, dI) L kd tys [(0, 10)] [] f0 sz) (pA L sz)) 0 0 (pA L sz) := by
  refine Met.ofW (cc := cX0_takeHeight) (maxL := 1) (ret := (some .int)) (by decide) rfl ?_
  intro p e s m args below meth c s₁ B hml hv
  obtain ⟨rfl, hsz, hP, hK, hD0⟩ := hv
  have hx := B.exec
  have hb := B.bytes
  have hr := B.returns
  have hts := atoms_spec (ws := (.code yX0_takeHeight cX0_takeHeight 1 (some .int) :: lw_g)) B.pre
  have hown : s.vm.findClass RX0 = some m.cls := findClass_of_methodNamed B.named
  have hlocks := B.notSynchronized
  subst hsz
  have g : G3 (dC, dI) L kd tys s f0 [(0, 10)] [] f0 s.heap [] [] := G3.start hP hD0 hWT Fs.nil
  have hl := lv_entry ([.ref a0_]) (n := 1) (Nat.le_of_ble_eq_true rfl)
  rw [lg_entry_eq]
  generalize (lg_sl ([.ref a0_]) ++ List.replicate (1 - (lg_sl ([.ref a0_])).length) Slot.unset).toArray = ls at hl ⊢
  have hl : lv_has ls 1 [(0, .ref a0_)] := hl
  refine W_q (fun Q hQ => ?_)
  refine lv_aload_n hx hb dX0_takeHeight_0 rfl (lv_at hl 0 rfl) ?_
  refine g_geti (C := RX0) (T := TX0) (N := 14) hx hb hts (mc_ inX0) hown hK g ma0_ ka0_ (by decide) rfl 10 (by decide) rfl (hts _ (List.mem_cons_of_mem _ t_383)) (fun _ h9 => h9) rfl dX0_takeHeight_1 (fun x_1 bx_1 g => ?_)
  have kb_0 : bd 0 0 (0 : Int32) := ⟨by decide, by decide⟩
  refine lv_if_le (tgt := 17) hx hb dX0_takeHeight_4 (by decide) (fun c_2 => ?_) (fun c_2 => ?_)
  · have fc_2 := le_f c_2
    have b_3 : bd 0 0 x_1 := leL fc_2 bx_1 kb_0 (by decide)
    refine lv_aload_n hx hb dX0_takeHeight_17 rfl (lv_at hl 0 rfl) ?_
    refine g_getr (K := 115) (C := RX0) (T := TX0) (N := 14) hx hb hts (mc_ inX0) hown hK g ma0_ ka0_ (by decide) rfl 9 (by decide) rfl (hts _ (List.mem_cons_of_mem _ t_382)) (fun _ h9 => h9) rfl dX0_takeHeight_18 (fun a_4 ma_4 ka_4 g => ?_)
    refine lv_aload_n hx hb dX0_takeHeight_21 rfl (lv_at hl 0 rfl) ?_
    refine g_getk (C := RX0) (T := TX0) (N := 14) hx hb hts (mc_ inX0) hown hK g rfl 10 (by decide) rfl (hts _ (List.mem_cons_of_mem _ t_383)) (fun _ h9 => h9) 1 rfl dX0_takeHeight_22 ?_
    refine g_iald hx hb hK g ma_4 ka_4 (by decide) rfl (in_bd b_3 (by decide)) dX0_takeHeight_25 (fun x_5 bx_5 cx_5 => ?_)
    subst hQ
    exact W.iret (v := x_5) hx hb hr (fun t ht hW => ⟨⟨_, _, rfl, ⟨x_1, (bd_sub b_3 (by decide)), (g.fcts [1] rfl)⟩, q3_of g hK ht hW⟩, g.2.2.1.F ht⟩) g.2.2.1.2.2 dX0_takeHeight_26
  · have fc_2 := nle_f c_2
    have b_6 : bd 1 300 x_1 := ltR fc_2 kb_0 bx_1 (by decide)
    refine lv_aload_n hx hb dX0_takeHeight_7 rfl (lv_at hl 0 rfl) ?_
    refine lv_dup hx hb dX0_takeHeight_8 rfl ?_
    refine g_getk (C := RX0) (T := TX0) (N := 14) hx hb hts (mc_ inX0) hown hK g rfl 10 (by decide) rfl (hts _ (List.mem_cons_of_mem _ t_383)) (fun _ h9 => h9) 0 rfl dX0_takeHeight_9 ?_
    refine lv_iconst (v := 1) hx hb dX0_takeHeight_12 (by decide) ?_
    have kb_1 : bd 1 1 (1 : Int32) := ⟨by decide, by decide⟩
    refine lv_isub hx hb dX0_takeHeight_13 ?_
    refine lv_topi (fun y_7 ey_7 => ?_)
    have ty_7 := sub_bd ey_7 b_6 kb_1 (by decide)
    have b_8 : bd 0 299 y_7 := sub_rg ty_7 b_6 kb_1 (by decide)
    refine g_put (C := RX0) (T := TX0) (N := 14) hx hb hts (mc_ inX0) tyX0 tyX0_ok nmX0 hown hK g ma0_ ka0_ (by decide) rfl 10 (by decide) (hts _ (List.mem_cons_of_mem _ t_383)) (fun _ h9 => h9) rfl rfl (okV_i (bd_sub b_8 (by decide))) rfl rfl (by decide) (Or.inr (Or.inl (by decide))) (fx' := []) rfl dX0_takeHeight_14 (fun f H locs hM_9 g => ?_)
    refine lv_aload_n hx hb dX0_takeHeight_17 rfl (lv_at hl 0 rfl) ?_
    refine g_getr (K := 115) (C := RX0) (T := TX0) (N := 14) hx hb hts (mc_ inX0) hown hK g ma0_ ka0_ (by decide) rfl 9 (by decide) rfl (hts _ (List.mem_cons_of_mem _ t_382)) (fun _ h9 => h9) rfl dX0_takeHeight_18 (fun a_10 ma_10 ka_10 g => ?_)
    refine lv_aload_n hx hb dX0_takeHeight_21 rfl (lv_at hl 0 rfl) ?_
    refine g_getk (C := RX0) (T := TX0) (N := 14) hx hb hts (mc_ inX0) hown hK g rfl 10 (by decide) rfl (hts _ (List.mem_cons_of_mem _ t_383)) (fun _ h9 => h9) 1 rfl dX0_takeHeight_22 ?_
    refine g_iald hx hb hK g ma_10 ka_10 (by decide) rfl (in_bd b_8 (by decide)) dX0_takeHeight_25 (fun x_11 bx_11 cx_11 => ?_)
    subst hQ
    exact W.iret (v := x_11) hx hb hr (fun t ht hW => ⟨⟨_, _, rfl, ⟨y_7, b_8, (g.fcts [1] rfl)⟩, q3_of g hK ht hW⟩, g.2.2.1.F ht⟩) g.2.2.1.2.2 dX0_takeHeight_26
set_option maxHeartbeats 4000000 in
set_option maxRecDepth 100000 in
theorem r_X7_leadHereN (l : Launch) (dC : Nat → ClassId) (dI : Nat → Nat → Nat) (L : List Nat) (kd : Nat → Nat) (tys : List (ClassId × FieldType)) (f0 : Nat → va_E) (sz : Nat) (hWT : WT L kd tys f0) (a0_ : Nat) (ma0_ : a0_ ∈ L) (ka0_ : kd a0_ = 7) (o_ : Nat) (mo_ : o_ ∈ L) (ko_ : kd o_ = 138) (b_ : Nat) (mb_ : b_ ∈ L) (kb_ : kd b_ = 139) (n_ : Int32) (bn_ : bd 0 2000 n_) (T_ : Nat) (hd : dOK L kd f0 a0_ T_) (x1_ : Int32) (J_ : Int32 → Prop) (hc : cOK f0 a0_) (hs : jS f0 a0_ J_) (hJ : jOK f0 a0_ x1_) (hfx : Fs L kd f0 [(7, 4, a0_, .ref o_), (7, 5, a0_, .ref b_), (7, 6, a0_, .int n_)]) : Met l yX7_leadHere (.code yX7_leadHere cX7_leadHere 2 none :: lw_g) ({ frames := 0, cells := 0, slots := 0, locals := 0 }) (va_Pc [.ref a0_, .int x1_] (P3 (dC, dI) L tys f0 sz)) (va_Qv (fun (f : Nat → va_E) => (dOK L kd f a0_ T_ ∧ cOK f a0_ ∧ jS f a0_ J_ ∧ ∃ z0_ : Int32, bd 0 2000 z0_ ∧ Fs L kd f [(7, 6, a0_, .int z0_)])) (Q3 (dC, dI) L kd tys [] [139] f0 sz) (pA L sz)) 0 0 (pA L sz) := by
  refine Met.ofW (cc := cX7_leadHere) (maxL := 2) (ret := none) (by decide) rfl ?_
  intro p e s m args below meth c s₁ B hml hv
  obtain ⟨rfl, hsz, hP, hK, hD0⟩ := hv
  have hx := B.exec
  have hb := B.bytes
  have hr := B.returns
  have hts := atoms_spec (ws := (.code yX7_leadHere cX7_leadHere 2 none :: lw_g)) B.pre
  have hown : s.vm.findClass RX7 = some m.cls := findClass_of_methodNamed B.named
  have hlocks := B.notSynchronized
  subst hsz
  have g : G3 (dC, dI) L kd tys s f0 [] [139] f0 s.heap [] [(7, 4, a0_, .ref o_), (7, 5, a0_, .ref b_), (7, 6, a0_, .int n_)] := G3.start hP hD0 hWT hfx
  have hl := lv_entry ([.ref a0_, .int x1_]) (n := 2) (Nat.le_of_ble_eq_true rfl)
  rw [lg_entry_eq]
  generalize (lg_sl ([.ref a0_, .int x1_]) ++ List.replicate (2 - (lg_sl ([.ref a0_, .int x1_])).length) Slot.unset).toArray = ls at hl ⊢
  have hl : lv_has ls 2 [(0, .ref a0_), (1, .int x1_)] := hl
  refine W_q (fun Q hQ => ?_)
  have e4 : fV f0 a0_ 4 = .ref o_ := (fx_at g (i := 0) rfl).2.2.2
  have e5 : fV f0 a0_ 5 = .ref b_ := (fx_at g (i := 1) rfl).2.2.2
  have e6 : fV f0 a0_ 6 = .int n_ := (fx_at g (i := 2) rfl).2.2.2
  have ho7 : o_ ≠ b_ ∧ a0_ ≠ o_ ∧ a0_ ≠ b_ := ⟨fun z => by have h9 := ko_; rw [z] at h9; omega, fun z => by have h9 := ka0_; rw [z] at h9; omega, fun z => by have h9 := ka0_; rw [z] at h9; omega⟩
  refine lv_iload_n hx hb dX7_leadHere_0 rfl (lv_at hl 1 rfl) ?_
  have kb_0 : bd 0 0 (0 : Int32) := ⟨by decide, by decide⟩
  refine lv_if_lt (tgt := 22) hx hb dX7_leadHere_1 (by decide) (fun c_1 => ?_) (fun c_1 => ?_)
  · have fc_1 := lt_f c_1
    have b_2 : bd (-2147483648) (-1) x1_ := ltL fc_1 (bdT x1_) kb_0 (by decide)
    subst hQ
    exact W.vret hx hb hr (fun t ht hW => ⟨⟨_, rfl, ⟨hd, hc, hs, n_, bn_, (g.fcts [2] rfl)⟩, q3_of g hK ht hW⟩, g.2.2.1.F ht⟩) g.2.2.1.2.2 dX7_leadHere_22
  · have fc_1 := nlt_f c_1
    have b_3 : bd 0 2147483647 x1_ := leR fc_1 kb_0 (bdT x1_) (by decide)
    refine lv_iload_n hx hb dX7_leadHere_4 rfl (lv_at hl 1 rfl) ?_
    refine lv_aload_n hx hb dX7_leadHere_5 rfl (lv_at hl 0 rfl) ?_
    refine g_getk (C := RX7) (T := TX7) (N := 19) hx hb hts (mc_ inX7) hown hK g rfl 6 (by decide) rfl (hts _ (List.mem_cons_of_mem _ t_644)) (fun _ h9 => h9) 2 rfl dX7_leadHere_6 ?_
    refine lv_icmp_ge (tgt := 22) hx hb dX7_leadHere_9 (by decide) (fun c_4 => ?_) (fun c_4 => ?_)
    · have fc_4 := le_f c_4
      subst hQ
      exact W.vret hx hb hr (fun t ht hW => ⟨⟨_, rfl, ⟨hd, hc, hs, n_, bn_, (g.fcts [2] rfl)⟩, q3_of g hK ht hW⟩, g.2.2.1.F ht⟩) g.2.2.1.2.2 dX7_leadHere_22
    · have fc_4 := nle_f c_4
      have b_5 : bd 0 1999 x1_ := ltL fc_4 b_3 bn_ (by decide)
      have b_6 : bd 1 2000 n_ := ltR fc_4 b_3 bn_ (by decide)
      refine lv_aload_n hx hb dX7_leadHere_12 rfl (lv_at hl 0 rfl) ?_
      refine g_getk (C := RX7) (T := TX7) (N := 19) hx hb hts (mc_ inX7) hown hK g rfl 5 (by decide) rfl (hts _ (List.mem_cons_of_mem _ t_642)) (fun _ h9 => h9) 1 rfl dX7_leadHere_13 ?_
      refine lv_iload_n hx hb dX7_leadHere_16 rfl (lv_at hl 1 rfl) ?_
      refine lv_aload_n hx hb dX7_leadHere_17 rfl (lv_at hl 0 rfl) ?_
      refine g_getk (C := RX7) (T := TX7) (N := 19) hx hb hts (mc_ inX7) hown hK g rfl 6 (by decide) rfl (hts _ (List.mem_cons_of_mem _ t_644)) (fun _ h9 => h9) 2 rfl dX7_leadHere_18 ?_
      have go_ := g
      refine g_iastX hx hb hK g mb_ kb_ (by decide) rfl (in_bd b_5 (by decide)) (bd_sub b_6 (by decide)) (by decide) dX7_leadHere_21 (fun f H locs hM_7 u_9 g => ?_)
      have hG_8 := jS.frame hM_7 go_.2.2.2.1 ma0_ ka0_ (by decide) (by decide) hs
      have hd_10 := lead_d hd hWT ka0_ e4 e5 ko_ kb_ u_9
      have hc_11 := lead_c hc e4 e5 e6 ⟨(by have h9_0 := b_6; unfold bd at h9_0; have h9_1 := b_5; unfold bd at h9_1; have h8_0 := kb_0; unfold bd at h8_0; omega), (by have h9_0 := b_6; unfold bd at h9_0; have h9_1 := b_5; unfold bd at h9_1; have h8_0 := kb_0; unfold bd at h8_0; omega), (by have h9_0 := b_6; unfold bd at h9_0; have h9_1 := b_5; unfold bd at h9_1; have h8_0 := kb_0; unfold bd at h8_0; omega)⟩ ho7.1 ho7.2.2 u_9 hJ
      have hs_12 : jS f a0_ J_ := fun j9 h9 => hc_11.2 j9 (hs j9 h9)
      subst hQ
      exact W.vret hx hb hr (fun t ht hW => ⟨⟨_, rfl, ⟨hd_10, hc_11.1, hs_12, n_, (bd_sub b_6 (by decide)), (g.fcts [2] rfl)⟩, q3_of g hK ht hW⟩, g.2.2.1.F ht⟩) g.2.2.1.2.2 dX7_leadHere_22
set_option maxHeartbeats 4000000 in
set_option maxRecDepth 100000 in
theorem r_X7_leadHereF (l : Launch) (dC : Nat → ClassId) (dI : Nat → Nat → Nat) (L : List Nat) (kd : Nat → Nat) (tys : List (ClassId × FieldType)) (f0 : Nat → va_E) (sz : Nat) (hWT : WT L kd tys f0) (a0_ : Nat) (ma0_ : a0_ ∈ L) (ka0_ : kd a0_ = 7) (o_ : Nat) (mo_ : o_ ∈ L) (ko_ : kd o_ = 138) (b_ : Nat) (mb_ : b_ ∈ L) (kb_ : kd b_ = 139) (n_ : Int32) (bn_ : bd 0 2000 n_) (T_ : Nat) (hd : dOK L kd f0 a0_ T_) (x1_ : Int32) (hfx : Fs L kd f0 [(7, 4, a0_, .ref o_), (7, 5, a0_, .ref b_), (7, 6, a0_, .int n_)]) : Met l yX7_leadHere (.code yX7_leadHere cX7_leadHere 2 none :: lw_g) ({ frames := 0, cells := 0, slots := 0, locals := 0 }) (va_Pc [.ref a0_, .int x1_] (P3 (dC, dI) L tys f0 sz)) (va_Qv (fun (f : Nat → va_E) => (dOK L kd f a0_ T_ ∧ ∃ z0_ : Int32, bd 0 2000 z0_ ∧ Fs L kd f [(7, 6, a0_, .int z0_)])) (Q3 (dC, dI) L kd tys [] [139] f0 sz) (pA L sz)) 0 0 (pA L sz) := by
  refine Met.ofW (cc := cX7_leadHere) (maxL := 2) (ret := none) (by decide) rfl ?_
  intro p e s m args below meth c s₁ B hml hv
  obtain ⟨rfl, hsz, hP, hK, hD0⟩ := hv
  have hx := B.exec
  have hb := B.bytes
  have hr := B.returns
  have hts := atoms_spec (ws := (.code yX7_leadHere cX7_leadHere 2 none :: lw_g)) B.pre
  have hown : s.vm.findClass RX7 = some m.cls := findClass_of_methodNamed B.named
  have hlocks := B.notSynchronized
  subst hsz
  have g : G3 (dC, dI) L kd tys s f0 [] [139] f0 s.heap [] [(7, 4, a0_, .ref o_), (7, 5, a0_, .ref b_), (7, 6, a0_, .int n_)] := G3.start hP hD0 hWT hfx
  have hl := lv_entry ([.ref a0_, .int x1_]) (n := 2) (Nat.le_of_ble_eq_true rfl)
  rw [lg_entry_eq]
  generalize (lg_sl ([.ref a0_, .int x1_]) ++ List.replicate (2 - (lg_sl ([.ref a0_, .int x1_])).length) Slot.unset).toArray = ls at hl ⊢
  have hl : lv_has ls 2 [(0, .ref a0_), (1, .int x1_)] := hl
  refine W_q (fun Q hQ => ?_)
  have e4 : fV f0 a0_ 4 = .ref o_ := (fx_at g (i := 0) rfl).2.2.2
  have e5 : fV f0 a0_ 5 = .ref b_ := (fx_at g (i := 1) rfl).2.2.2
  have e6 : fV f0 a0_ 6 = .int n_ := (fx_at g (i := 2) rfl).2.2.2
  have ho7 : o_ ≠ b_ ∧ a0_ ≠ o_ ∧ a0_ ≠ b_ := ⟨fun z => by have h9 := ko_; rw [z] at h9; omega, fun z => by have h9 := ka0_; rw [z] at h9; omega, fun z => by have h9 := ka0_; rw [z] at h9; omega⟩
  refine lv_iload_n hx hb dX7_leadHere_0 rfl (lv_at hl 1 rfl) ?_
  have kb_0 : bd 0 0 (0 : Int32) := ⟨by decide, by decide⟩
  refine lv_if_lt (tgt := 22) hx hb dX7_leadHere_1 (by decide) (fun c_1 => ?_) (fun c_1 => ?_)
  · have fc_1 := lt_f c_1
    have b_2 : bd (-2147483648) (-1) x1_ := ltL fc_1 (bdT x1_) kb_0 (by decide)
    subst hQ
    exact W.vret hx hb hr (fun t ht hW => ⟨⟨_, rfl, ⟨hd, n_, bn_, (g.fcts [2] rfl)⟩, q3_of g hK ht hW⟩, g.2.2.1.F ht⟩) g.2.2.1.2.2 dX7_leadHere_22
  · have fc_1 := nlt_f c_1
    have b_3 : bd 0 2147483647 x1_ := leR fc_1 kb_0 (bdT x1_) (by decide)
    refine lv_iload_n hx hb dX7_leadHere_4 rfl (lv_at hl 1 rfl) ?_
    refine lv_aload_n hx hb dX7_leadHere_5 rfl (lv_at hl 0 rfl) ?_
    refine g_getk (C := RX7) (T := TX7) (N := 19) hx hb hts (mc_ inX7) hown hK g rfl 6 (by decide) rfl (hts _ (List.mem_cons_of_mem _ t_644)) (fun _ h9 => h9) 2 rfl dX7_leadHere_6 ?_
    refine lv_icmp_ge (tgt := 22) hx hb dX7_leadHere_9 (by decide) (fun c_4 => ?_) (fun c_4 => ?_)
    · have fc_4 := le_f c_4
      subst hQ
      exact W.vret hx hb hr (fun t ht hW => ⟨⟨_, rfl, ⟨hd, n_, bn_, (g.fcts [2] rfl)⟩, q3_of g hK ht hW⟩, g.2.2.1.F ht⟩) g.2.2.1.2.2 dX7_leadHere_22
    · have fc_4 := nle_f c_4
      have b_5 : bd 0 1999 x1_ := ltL fc_4 b_3 bn_ (by decide)
      have b_6 : bd 1 2000 n_ := ltR fc_4 b_3 bn_ (by decide)
      refine lv_aload_n hx hb dX7_leadHere_12 rfl (lv_at hl 0 rfl) ?_
      refine g_getk (C := RX7) (T := TX7) (N := 19) hx hb hts (mc_ inX7) hown hK g rfl 5 (by decide) rfl (hts _ (List.mem_cons_of_mem _ t_642)) (fun _ h9 => h9) 1 rfl dX7_leadHere_13 ?_
      refine lv_iload_n hx hb dX7_leadHere_16 rfl (lv_at hl 1 rfl) ?_
      refine lv_aload_n hx hb dX7_leadHere_17 rfl (lv_at hl 0 rfl) ?_
      refine g_getk (C := RX7) (T := TX7) (N := 19) hx hb hts (mc_ inX7) hown hK g rfl 6 (by decide) rfl (hts _ (List.mem_cons_of_mem _ t_644)) (fun _ h9 => h9) 2 rfl dX7_leadHere_18 ?_
      have go_ := g
      refine g_iastX hx hb hK g mb_ kb_ (by decide) rfl (in_bd b_5 (by decide)) (bd_sub b_6 (by decide)) (by decide) dX7_leadHere_21 (fun f H locs hM_7 u_8 g => ?_)
      have hd_9 := lead_d hd hWT ka0_ e4 e5 ko_ kb_ u_8
      subst hQ
      exact W.vret hx hb hr (fun t ht hW => ⟨⟨_, rfl, ⟨hd_9, n_, (bd_sub b_6 (by decide)), (g.fcts [2] rfl)⟩, q3_of g hK ht hW⟩, g.2.2.1.F ht⟩) g.2.2.1.2.2 dX7_leadHere_22
