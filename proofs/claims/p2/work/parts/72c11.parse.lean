set_option maxHeartbeats 4000000 in
set_option maxRecDepth 100000 in
theorem r_X0_openIndex_2 (l : Launch) (dC : Nat → ClassId) (dI : Nat → Nat → Nat) (L : List Nat) (kd : Nat → Nat) (tys : List (ClassId × FieldType)) (f0 : Nat → va_E) (sz : Nat) (hWT : WT L kd tys f0) (a0_ : Nat) (ma0_ : a0_ ∈ L) (ka0_ : kd a0_ = 0) (x1_ : Int32) (bx1_ : bd 5 5 x1_) (x2_ : Int32) (x3_ : Int32) (bx3_ : bd 0 9 x3_) (q0_ : Nat) (mq0_ : q0_ ∈ L) (kq0_ : kd q0_ = 8) (q1_ : Nat) (mq1_ : q1_ ∈ L) (kq1_ : kd q1_ = 5) (q2_ : Nat) (mq2_ : q2_ ∈ L) (kq2_ : kd q2_ = 9) (y0_ : Int32) (by0_ : bd (-2147483647) 40 y0_) (y1_ : Int32) (by1_ : bd 1 10 y1_) (y2_ : Int32) (by2_ : bd 0 0 y2_) (hGea0_ : eOK f0 a0_) (hfx : Fs L kd f0 [(0, 0, a0_, .ref q0_), (0, 1, a0_, .ref q1_), (5, 1, q1_, .ref q2_), (0, 11, a0_, .int y0_), (9, 2, q2_, .int y1_), (8, 8, q0_, .int y2_)]) : Met l yX0_openIndex (.code yX0_openIndex cX0_openIndex 4 none :: lw_g) ({ frames := 1, cells := 0, slots := 0, locals := 23 }) (va_Pc [.ref a0_, .int x1_, .int x2_, .int x3_] (P3 (dC, dI) L tys f0 sz)) (va_Qv (fun (f : Nat → va_E) => (eOK f a0_ ∧ bd (-2147483647) 39 y0_ ∧ ∃ z0_ : Int32, bd 1 1201 z0_ ∧ ∃ z1_ : Int32, bd (-2147483646) 40 z1_ ∧ ∃ z2_ : Int32, bd 1 300 z2_ ∧ Fs L kd f [(8, 6, q0_, .int z0_), (0, 11, a0_, .int z1_), (0, 8, a0_, .int z2_), (8, 8, q0_, .int y2_)]) ∨ (eOK f a0_ ∧ bd 40 40 y0_ ∧ ∃ z0_ : Int32, bd 41 41 z0_ ∧ ∃ z1_ : Int32, bd 1 300 z1_ ∧ ∃ z3_ : Int32, bd 1 7 z3_ ∧ Fs L kd f [(0, 11, a0_, .int z0_), (0, 8, a0_, .int z1_), (8, 6, q0_, .int 1201), (8, 8, q0_, .int z3_)])) (Q3 (dC, dI) L kd tys [(0, 8), (0, 11), (8, 6), (8, 8), (8, 9)] [110, 111, 112, 113, 114] f0 sz) (pA L sz)) 0 0 (pA L sz) := by
  refine Met.ofW (cc := cX0_openIndex) (maxL := 4) (ret := none) (by decide) rfl ?_
  intro p e s m args below meth c s₁ B hml hv
  obtain ⟨rfl, hsz, hP, hK, hD0⟩ := hv
  have hx := B.exec
  have hb := B.bytes
  have hr := B.returns
  have hts := atoms_spec (ws := (.code yX0_openIndex cX0_openIndex 4 none :: lw_g)) B.pre
  have hown : s.vm.findClass RX0 = some m.cls := findClass_of_methodNamed B.named
  have hlocks := B.notSynchronized
  subst hsz
  have g : G3 (dC, dI) L kd tys s f0 [(0, 8), (0, 11), (8, 6), (8, 8), (8, 9)] [110, 111, 112, 113, 114] f0 s.heap [] [(0, 0, a0_, .ref q0_), (0, 1, a0_, .ref q1_), (5, 1, q1_, .ref q2_), (0, 11, a0_, .int y0_), (9, 2, q2_, .int y1_), (8, 8, q0_, .int y2_)] := G3.start hP hD0 hWT hfx
  have hl := lv_entry ([.ref a0_, .int x1_, .int x2_, .int x3_]) (n := 4) (Nat.le_of_ble_eq_true rfl)
  rw [lg_entry_eq]
  generalize (lg_sl ([.ref a0_, .int x1_, .int x2_, .int x3_]) ++ List.replicate (4 - (lg_sl ([.ref a0_, .int x1_, .int x2_, .int x3_])).length) Slot.unset).toArray = ls at hl ⊢
  have hl : lv_has ls 4 [(0, .ref a0_), (1, .int x1_), (2, .int x2_), (3, .int x3_)] := hl
  refine W_q (fun Q hQ => ?_)
  refine lv_aload_n hx hb dX0_openIndex_0 rfl (lv_at hl 0 rfl) ?_
  refine g_getk (C := RX0) (T := TX0) (N := 14) hx hb hts (mc_ inX0) hown hK g rfl 11 (by decide) rfl (hts _ (List.mem_cons_of_mem _ t_384)) (fun _ h9 => h9) 3 rfl dX0_openIndex_1 ?_
  refine lv_bipush (v := 40) hx hb dX0_openIndex_4 (by decide) ?_
  have kb_40 : bd 40 40 (40 : Int32) := ⟨by decide, by decide⟩
  refine lv_icmp_lt (tgt := 24) hx hb dX0_openIndex_6 (by decide) (fun c_1 => ?_) (fun c_1 => ?_)
  · have fc_1 := lt_f c_1
    have b_2 : bd (-2147483647) 39 y0_ := ltL fc_1 by0_ kb_40 (by decide)
    refine lv_aload_n hx hb dX0_openIndex_24 rfl (lv_at hl 0 rfl) ?_
    refine lv_iload_n hx hb dX0_openIndex_25 rfl (lv_at hl 1 rfl) ?_
    refine lv_iload_n hx hb dX0_openIndex_26 rfl (lv_at hl 2 rfl) ?_
    refine lv_aload_n hx hb dX0_openIndex_27 rfl (lv_at hl 0 rfl) ?_
    refine g_getk (C := RX0) (T := TX0) (N := 14) hx hb hts (mc_ inX0) hown hK g rfl 1 (by decide) rfl (hts _ (List.mem_cons_of_mem _ t_374)) (fun _ h9 => h9) 1 rfl dX0_openIndex_28 ?_
    refine g_getk (C := RX5) (T := TX5) (N := 9) hx hb hts (mc_ inX5) hown hK g rfl 1 (by decide) rfl (hts _ (List.mem_cons_of_mem _ t_332)) (fun _ h9 => h9) 2 rfl dX0_openIndex_31 ?_
    refine lv_iload_n hx hb dX0_openIndex_34 rfl (lv_at hl 3 rfl) ?_
    have go_ := g
    refine g_calli (va_runV (As := [.int x3_]) (rest := [.int x2_, .int x1_, .ref a0_]) ⟨hx, hb, hml, hown, hts⟩ (r_X9_spanOf l dC dI L kd tys f0 s.heap.size g.2.2.2.1 q2_ mq2_ kq2_ x3_) (cwV 1 hts (gV_ t_1264 t_1265 t_1266 t_192 t_1267) rfl rfl rfl (by decide +kernel) ⟨(Nat.le_of_ble_eq_true rfl), (Nat.le_of_ble_eq_true rfl)⟩) (pre3V g hK mq2_ kq2_ (by decide) (q := (RX9, TX9, 13)) rfl) rfl rfl hl.1 rfl (lv_room (Nat.le_of_ble_eq_true rfl)) dX0_openIndex_35 ⟨(Nat.le_of_ble_eq_true rfl), (Nat.le_of_ble_eq_true rfl)⟩) g hK (by decide) (by decide) (fx' := [(0, 0, a0_, .ref q0_), (0, 1, a0_, .ref q1_), (5, 1, q1_, .ref q2_), (0, 11, a0_, .int y0_), (9, 2, q2_, .int y1_), (8, 8, q0_, .int y2_)]) rfl (fun r_3 fr_3 H locs hp hMr_3 g => ?_)
    obtain ⟨h_4, -⟩ := hp
    have hG_5 := eOK.frame hMr_3 go_.2.2.2.1 ma0_ ka0_ (by decide) (by decide) hGea0_
    obtain ⟨a_6, ma_6, ka_6, g⟩ := g_factr (K := 110) g ma0_ ka0_ (by decide) 3 rfl
    obtain ⟨a_7, ma_7, ka_7, g⟩ := g_factr (K := 112) g ma0_ ka0_ (by decide) 5 rfl
    have go_ := g
    refine g_callv (va_runV (As := [.int x1_, .int x2_, .int r_3]) (rest := []) ⟨hx, hb, hml, hown, hts⟩ (r_X0_push_2 l dC dI L kd tys fr_3 H.size g.2.2.2.1 a0_ ma0_ ka0_ x1_ x2_ r_3 a_6 ma_6 ka_6 a_7 ma_7 ka_7 hG_5 (erel_bd bx1_ h_4 (by decide)) (g.fcts [1, 0] rfl)) (cwV 3 hts (gV_ t_1221 t_1223 t_19 t_190 t_1224) rfl rfl rfl (by decide +kernel) ⟨(Nat.le_of_ble_eq_true rfl), (Nat.le_of_ble_eq_true rfl)⟩) (pre3V g hK ma0_ ka0_ (by decide) (q := (RX0, TX0, 14)) rfl) rfl rfl hl.1 rfl (lv_room (Nat.le_of_ble_eq_true rfl)) dX0_openIndex_38 ⟨(Nat.le_of_ble_eq_true rfl), (Nat.le_of_ble_eq_true rfl)⟩) g hK (by decide) (by decide) (fx' := [(0, 5, a0_, .ref a_7), (0, 3, a0_, .ref a_6), (0, 0, a0_, .ref q0_), (0, 1, a0_, .ref q1_), (5, 1, q1_, .ref q2_), (0, 11, a0_, .int y0_), (9, 2, q2_, .int y1_), (8, 8, q0_, .int y2_)]) rfl (fun fr_8 H locs hp hMr_8 g => ?_)
    obtain ⟨hG_9, x_10, h_11, hF_12⟩ := hp
    have g := g.more hF_12
    refine lv_aload_n hx hb dX0_openIndex_41 rfl (lv_at hl 0 rfl) ?_
    refine lv_dup hx hb dX0_openIndex_42 rfl ?_
    refine g_getk (C := RX0) (T := TX0) (N := 14) hx hb hts (mc_ inX0) hown hK g rfl 11 (by decide) rfl (hts _ (List.mem_cons_of_mem _ t_384)) (fun _ h9 => h9) 6 rfl dX0_openIndex_43 ?_
    refine lv_iconst (v := 1) hx hb dX0_openIndex_46 (by decide) ?_
    have kb_1 : bd 1 1 (1 : Int32) := ⟨by decide, by decide⟩
    refine lv_iadd hx hb dX0_openIndex_47 ?_
    refine lv_topi (fun y_13 ey_13 => ?_)
    have ty_13 := add_bd ey_13 b_2 kb_1 (by decide)
    have b_14 : bd (-2147483646) 40 y_13 := add_rg ty_13 b_2 kb_1 (by decide)
    have go_ := g
    refine g_put (C := RX0) (T := TX0) (N := 14) hx hb hts (mc_ inX0) tyX0 tyX0_ok nmX0 hown hK g ma0_ ka0_ (by decide) rfl 11 (by decide) (hts _ (List.mem_cons_of_mem _ t_384)) (fun _ h9 => h9) rfl rfl (okV_i (bd_sub b_14 (by decide))) rfl rfl (by decide) (Or.inr (Or.inl (by decide))) (fx' := [(0, 8, a0_, .int x_10), (0, 5, a0_, .ref a_7), (0, 3, a0_, .ref a_6), (0, 0, a0_, .ref q0_), (0, 1, a0_, .ref q1_), (5, 1, q1_, .ref q2_), (9, 2, q2_, .int y1_), (8, 8, q0_, .int y2_)]) rfl dX0_openIndex_48 (fun f H locs hM_15 g => ?_)
    have hG_16 := eOK.frame hM_15 go_.2.2.2.1 ma0_ ka0_ (by decide) (by decide) hG_9
    refine lv_aload_n hx hb dX0_openIndex_51 rfl (lv_at hl 0 rfl) ?_
    refine g_getk (C := RX0) (T := TX0) (N := 14) hx hb hts (mc_ inX0) hown hK g rfl 0 (by decide) rfl (hts _ (List.mem_cons_of_mem _ t_373)) (fun _ h9 => h9) 4 rfl dX0_openIndex_52 ?_
    have go_ := g
    refine g_callv (va_runV (As := []) (rest := []) ⟨hx, hb, hml, hown, hts⟩ (r_X8_next l dC dI L kd tys f H.size g.2.2.2.1 q0_ mq0_ kq0_) (cwV 0 hts (gV_ t_1225 t_1103 t_1104 t_184 t_1105) rfl rfl rfl (by decide +kernel) ⟨(Nat.le_of_ble_eq_true rfl), (Nat.le_of_ble_eq_true rfl)⟩) (pre3V g hK mq0_ kq0_ (by decide) (q := (RX8, TX8, 10)) rfl) rfl rfl hl.1 rfl (lv_room (Nat.le_of_ble_eq_true rfl)) dX0_openIndex_55 ⟨(Nat.le_of_ble_eq_true rfl), (Nat.le_of_ble_eq_true rfl)⟩) g hK (by decide) (by decide) (fx' := [(0, 11, a0_, .int y_13), (0, 8, a0_, .int x_10), (0, 5, a0_, .ref a_7), (0, 3, a0_, .ref a_6), (0, 0, a0_, .ref q0_), (0, 1, a0_, .ref q1_), (5, 1, q1_, .ref q2_), (9, 2, q2_, .int y1_), (8, 8, q0_, .int y2_)]) rfl (fun fr_17 H locs hp hMr_17 g => ?_)
    obtain ⟨x_18, h_19, hF_20⟩ := hp
    have hG_21 := eOK.frame hMr_17 go_.2.2.2.1 ma0_ ka0_ (by decide) (by decide) hG_16
    have g := g.more hF_20
    subst hQ
    exact W.vret hx hb hr (fun t ht hW => ⟨⟨_, rfl, Or.inl ⟨hG_21, b_2, x_18, h_19, y_13, b_14, x_10, h_11, (g.fcts [0, 1, 2, 9] rfl)⟩, q3_of g hK ht hW⟩, g.2.2.1.F ht⟩) g.2.2.1.2.2 dX0_openIndex_58
  · have fc_1 := nlt_f c_1
    have b_22 : bd 40 40 y0_ := leR fc_1 kb_40 by0_ (by decide)
    refine lv_aload_n hx hb dX0_openIndex_9 rfl (lv_at hl 0 rfl) ?_
    refine g_getk (C := RX0) (T := TX0) (N := 14) hx hb hts (mc_ inX0) hown hK g rfl 0 (by decide) rfl (hts _ (List.mem_cons_of_mem _ t_373)) (fun _ h9 => h9) 0 rfl dX0_openIndex_10 ?_
    refine lv_iconst (v := 4) hx hb dX0_openIndex_13 (by decide) ?_
    refine lv_aload_n hx hb dX0_openIndex_14 rfl (lv_at hl 0 rfl) ?_
    refine g_getk (C := RX0) (T := TX0) (N := 14) hx hb hts (mc_ inX0) hown hK g rfl 0 (by decide) rfl (hts _ (List.mem_cons_of_mem _ t_373)) (fun _ h9 => h9) 0 rfl dX0_openIndex_15 ?_
    have go_ := g
    refine g_calli (va_runV (As := []) (rest := [.int 4, .ref q0_]) ⟨hx, hb, hml, hown, hts⟩ (r_X8_place l dC dI L kd tys f0 s.heap.size g.2.2.2.1 q0_ mq0_ kq0_) (cwV 0 hts (gV_ t_1220 t_1111 t_1112 t_184 t_1113) rfl rfl rfl (by decide +kernel) ⟨(Nat.le_of_ble_eq_true rfl), (Nat.le_of_ble_eq_true rfl)⟩) (pre3V g hK mq0_ kq0_ (by decide) (q := (RX8, TX8, 10)) rfl) rfl rfl hl.1 rfl (lv_room (Nat.le_of_ble_eq_true rfl)) dX0_openIndex_18 ⟨(Nat.le_of_ble_eq_true rfl), (Nat.le_of_ble_eq_true rfl)⟩) g hK (by decide) (by decide) (fx' := [(0, 0, a0_, .ref q0_), (0, 1, a0_, .ref q1_), (5, 1, q1_, .ref q2_), (0, 11, a0_, .int y0_), (9, 2, q2_, .int y1_), (8, 8, q0_, .int y2_)]) rfl (fun r_23 fr_23 H locs hp hMr_23 g => ?_)
    have hG_24 := eOK.frame hMr_23 go_.2.2.2.1 ma0_ ka0_ (by decide) (by decide) hGea0_
    have kb_4 : bd 4 4 (4 : Int32) := ⟨by decide, by decide⟩
    have go_ := g
    refine g_callv (va_runV (As := [.int 4, .int r_23]) (rest := []) ⟨hx, hb, hml, hown, hts⟩ (r_X8_fail l dC dI L kd tys fr_23 H.size g.2.2.2.1 q0_ mq0_ kq0_ 4 (bd_sub kb_4 (by decide)) r_23 y2_ by2_ (g.fcts [5] rfl)) (cwV 2 hts (gV_ t_1215 t_1107 t_1108 t_184 t_1109) rfl rfl rfl (by decide +kernel) ⟨(Nat.le_of_ble_eq_true rfl), (Nat.le_of_ble_eq_true rfl)⟩) (pre3V g hK mq0_ kq0_ (by decide) (q := (RX8, TX8, 10)) rfl) rfl rfl hl.1 rfl (lv_room (Nat.le_of_ble_eq_true rfl)) dX0_openIndex_21 ⟨(Nat.le_of_ble_eq_true rfl), (Nat.le_of_ble_eq_true rfl)⟩) g hK (by decide) (by decide) (fx' := [(0, 0, a0_, .ref q0_), (0, 1, a0_, .ref q1_), (5, 1, q1_, .ref q2_), (0, 11, a0_, .int y0_), (9, 2, q2_, .int y1_)]) rfl (fun fr_25 H locs hp hMr_25 g => ?_)
    obtain ⟨x_26, h_27, hF_28⟩ := hp
    have hG_29 := eOK.frame hMr_25 go_.2.2.2.1 ma0_ ka0_ (by decide) (by decide) hG_24
    have g := g.more hF_28
    refine lv_aload_n hx hb dX0_openIndex_24 rfl (lv_at hl 0 rfl) ?_
    refine lv_iload_n hx hb dX0_openIndex_25 rfl (lv_at hl 1 rfl) ?_
    refine lv_iload_n hx hb dX0_openIndex_26 rfl (lv_at hl 2 rfl) ?_
    refine lv_aload_n hx hb dX0_openIndex_27 rfl (lv_at hl 0 rfl) ?_
    refine g_getk (C := RX0) (T := TX0) (N := 14) hx hb hts (mc_ inX0) hown hK g rfl 1 (by decide) rfl (hts _ (List.mem_cons_of_mem _ t_374)) (fun _ h9 => h9) 3 rfl dX0_openIndex_28 ?_
    refine g_getk (C := RX5) (T := TX5) (N := 9) hx hb hts (mc_ inX5) hown hK g rfl 1 (by decide) rfl (hts _ (List.mem_cons_of_mem _ t_332)) (fun _ h9 => h9) 4 rfl dX0_openIndex_31 ?_
    refine lv_iload_n hx hb dX0_openIndex_34 rfl (lv_at hl 3 rfl) ?_
    have go_ := g
    refine g_calli (va_runV (As := [.int x3_]) (rest := [.int x2_, .int x1_, .ref a0_]) ⟨hx, hb, hml, hown, hts⟩ (r_X9_spanOf l dC dI L kd tys fr_25 H.size g.2.2.2.1 q2_ mq2_ kq2_ x3_) (cwV 1 hts (gV_ t_1264 t_1265 t_1266 t_192 t_1267) rfl rfl rfl (by decide +kernel) ⟨(Nat.le_of_ble_eq_true rfl), (Nat.le_of_ble_eq_true rfl)⟩) (pre3V g hK mq2_ kq2_ (by decide) (q := (RX9, TX9, 13)) rfl) rfl rfl hl.1 rfl (lv_room (Nat.le_of_ble_eq_true rfl)) dX0_openIndex_35 ⟨(Nat.le_of_ble_eq_true rfl), (Nat.le_of_ble_eq_true rfl)⟩) g hK (by decide) (by decide) (fx' := [(8, 6, q0_, .int 1201), (8, 8, q0_, .int x_26), (0, 0, a0_, .ref q0_), (0, 1, a0_, .ref q1_), (5, 1, q1_, .ref q2_), (0, 11, a0_, .int y0_), (9, 2, q2_, .int y1_)]) rfl (fun r_30 fr_30 H locs hp hMr_30 g => ?_)
    obtain ⟨h_31, -⟩ := hp
    have hG_32 := eOK.frame hMr_30 go_.2.2.2.1 ma0_ ka0_ (by decide) (by decide) hG_29
    obtain ⟨a_33, ma_33, ka_33, g⟩ := g_factr (K := 110) g ma0_ ka0_ (by decide) 3 rfl
    obtain ⟨a_34, ma_34, ka_34, g⟩ := g_factr (K := 112) g ma0_ ka0_ (by decide) 5 rfl
    have go_ := g
    refine g_callv (va_runV (As := [.int x1_, .int x2_, .int r_30]) (rest := []) ⟨hx, hb, hml, hown, hts⟩ (r_X0_push_2 l dC dI L kd tys fr_30 H.size g.2.2.2.1 a0_ ma0_ ka0_ x1_ x2_ r_30 a_33 ma_33 ka_33 a_34 ma_34 ka_34 hG_32 (erel_bd bx1_ h_31 (by decide)) (g.fcts [1, 0] rfl)) (cwV 3 hts (gV_ t_1221 t_1223 t_19 t_190 t_1224) rfl rfl rfl (by decide +kernel) ⟨(Nat.le_of_ble_eq_true rfl), (Nat.le_of_ble_eq_true rfl)⟩) (pre3V g hK ma0_ ka0_ (by decide) (q := (RX0, TX0, 14)) rfl) rfl rfl hl.1 rfl (lv_room (Nat.le_of_ble_eq_true rfl)) dX0_openIndex_38 ⟨(Nat.le_of_ble_eq_true rfl), (Nat.le_of_ble_eq_true rfl)⟩) g hK (by decide) (by decide) (fx' := [(0, 5, a0_, .ref a_34), (0, 3, a0_, .ref a_33), (8, 6, q0_, .int 1201), (8, 8, q0_, .int x_26), (0, 0, a0_, .ref q0_), (0, 1, a0_, .ref q1_), (5, 1, q1_, .ref q2_), (0, 11, a0_, .int y0_), (9, 2, q2_, .int y1_)]) rfl (fun fr_35 H locs hp hMr_35 g => ?_)
    obtain ⟨hG_36, x_37, h_38, hF_39⟩ := hp
    have g := g.more hF_39
    refine lv_aload_n hx hb dX0_openIndex_41 rfl (lv_at hl 0 rfl) ?_
    refine lv_dup hx hb dX0_openIndex_42 rfl ?_
    refine g_getk (C := RX0) (T := TX0) (N := 14) hx hb hts (mc_ inX0) hown hK g rfl 11 (by decide) rfl (hts _ (List.mem_cons_of_mem _ t_384)) (fun _ h9 => h9) 8 rfl dX0_openIndex_43 ?_
    refine lv_iconst (v := 1) hx hb dX0_openIndex_46 (by decide) ?_
    have kb_1 : bd 1 1 (1 : Int32) := ⟨by decide, by decide⟩
    refine lv_iadd hx hb dX0_openIndex_47 ?_
    refine lv_topi (fun y_40 ey_40 => ?_)
    have ty_40 := add_bd ey_40 b_22 kb_1 (by decide)
    have b_41 : bd 41 41 y_40 := add_rg ty_40 b_22 kb_1 (by decide)
    have go_ := g
    refine g_put (C := RX0) (T := TX0) (N := 14) hx hb hts (mc_ inX0) tyX0 tyX0_ok nmX0 hown hK g ma0_ ka0_ (by decide) rfl 11 (by decide) (hts _ (List.mem_cons_of_mem _ t_384)) (fun _ h9 => h9) rfl rfl (okV_i (bd_sub b_41 (by decide))) rfl rfl (by decide) (Or.inr (Or.inl (by decide))) (fx' := [(0, 8, a0_, .int x_37), (0, 5, a0_, .ref a_34), (0, 3, a0_, .ref a_33), (8, 6, q0_, .int 1201), (8, 8, q0_, .int x_26), (0, 0, a0_, .ref q0_), (0, 1, a0_, .ref q1_), (5, 1, q1_, .ref q2_), (9, 2, q2_, .int y1_)]) rfl dX0_openIndex_48 (fun f H locs hM_42 g => ?_)
    have hG_43 := eOK.frame hM_42 go_.2.2.2.1 ma0_ ka0_ (by decide) (by decide) hG_36
    refine lv_aload_n hx hb dX0_openIndex_51 rfl (lv_at hl 0 rfl) ?_
    refine g_getk (C := RX0) (T := TX0) (N := 14) hx hb hts (mc_ inX0) hown hK g rfl 0 (by decide) rfl (hts _ (List.mem_cons_of_mem _ t_373)) (fun _ h9 => h9) 6 rfl dX0_openIndex_52 ?_
    have kb_1201 : bd 1201 1201 (1201 : Int32) := ⟨by decide, by decide⟩
    have go_ := g
    refine g_callv (va_runV (As := []) (rest := []) ⟨hx, hb, hml, hown, hts⟩ (r_X8_next_2 l dC dI L kd tys f H.size g.2.2.2.1 q0_ mq0_ kq0_ 1201 kb_1201 (g.fcts [4] rfl)) (cwV 0 hts (gV_ t_1225 t_1103 t_1104 t_184 t_1105) rfl rfl rfl (by decide +kernel) ⟨(Nat.le_of_ble_eq_true rfl), (Nat.le_of_ble_eq_true rfl)⟩) (pre3V g hK mq0_ kq0_ (by decide) (q := (RX8, TX8, 10)) rfl) rfl rfl hl.1 rfl (lv_room (Nat.le_of_ble_eq_true rfl)) dX0_openIndex_55 ⟨(Nat.le_of_ble_eq_true rfl), (Nat.le_of_ble_eq_true rfl)⟩) g hK (by decide) (by decide) (fx' := [(0, 11, a0_, .int y_40), (0, 8, a0_, .int x_37), (0, 5, a0_, .ref a_34), (0, 3, a0_, .ref a_33), (8, 6, q0_, .int 1201), (8, 8, q0_, .int x_26), (0, 0, a0_, .ref q0_), (0, 1, a0_, .ref q1_), (5, 1, q1_, .ref q2_), (9, 2, q2_, .int y1_)]) rfl (fun fr_44 H locs hp hMr_44 g => ?_)
    have hG_45 := eOK.frame hMr_44 go_.2.2.2.1 ma0_ ka0_ (by decide) (by decide) hG_43
    subst hQ
    exact W.vret hx hb hr (fun t ht hW => ⟨⟨_, rfl, Or.inr (⟨hG_45, b_22, y_40, b_41, x_37, h_38, x_26, h_27, (g.fcts [0, 1, 4, 5] rfl)⟩), q3_of g hK ht hW⟩, g.2.2.1.F ht⟩) g.2.2.1.2.2 dX0_openIndex_58
set_option maxHeartbeats 4000000 in
set_option maxRecDepth 100000 in
theorem r_X0_readOld_2 (l : Launch) (dC : Nat → ClassId) (dI : Nat → Nat → Nat) (L : List Nat) (kd : Nat → Nat) (tys : List (ClassId × FieldType)) (f0 : Nat → va_E) (sz : Nat) (hWT : WT L kd tys f0) (a0_ : Nat) (ma0_ : a0_ ∈ L) (ka0_ : kd a0_ = 0) (q0_ : Nat) (mq0_ : q0_ ∈ L) (kq0_ : kd q0_ = 8) (q1_ : Nat) (mq1_ : q1_ ∈ L) (kq1_ : kd q1_ = 5) (q2_ : Nat) (mq2_ : q2_ ∈ L) (kq2_ : kd q2_ = 7) (q3_ : Nat) (mq3_ : q3_ ∈ L) (kq3_ : kd q3_ = 9) (y0_ : Int32) (by0_ : bd 0 0 y0_) (hGea0_ : eOK f0 a0_) (hfx : Fs L kd f0 [(0, 0, a0_, .ref q0_), (0, 1, a0_, .ref q1_), (0, 2, a0_, .ref q2_), (5, 1, q1_, .ref q3_), (8, 8, q0_, .int y0_)]) : Met l yX0_readOld (.code yX0_readOld cX0_readOld 5 none :: lw_g) ({ frames := 2, cells := 0, slots := 0, locals := 46 }) (va_Pc [.ref a0_] (P3 (dC, dI) L tys f0 sz)) (va_Qv (fun (f : Nat → va_E) => (eOK f a0_ ∧ ∃ z0_ : Int32, bd 1 1201 z0_ ∧ ∃ z2_ : Int32, bd (-2147483648) 40 z2_ ∧ Fs L kd f [(8, 6, q0_, .int z0_), (8, 8, q0_, .int y0_), (0, 11, a0_, .int z2_)]) ∨ (eOK f a0_ ∧ ∃ z0_ : Int32, bd 1201 1201 z0_ ∧ ∃ z1_ : Int32, bd 1 7 z1_ ∧ Fs L kd f [(8, 6, q0_, .int z0_), (8, 8, q0_, .int z1_)])) (Q3 (dC, dI) L kd tys [(0, 8), (0, 10), (0, 11), (0, 12), (7, 6), (7, 18), (8, 6), (8, 8), (8, 9)] [110, 111, 112, 113, 114, 115, 138, 139] f0 sz) (pA L sz)) 0 0 (pA L sz) := by
  refine Met.ofW (cc := cX0_readOld) (maxL := 5) (ret := none) (by decide) rfl ?_
  intro p e s m args below meth c s₁ B hml hv
  obtain ⟨rfl, hsz, hP, hK, hD0⟩ := hv
  have hx := B.exec
  have hb := B.bytes
  have hr := B.returns
  have hts := atoms_spec (ws := (.code yX0_readOld cX0_readOld 5 none :: lw_g)) B.pre
  have hown : s.vm.findClass RX0 = some m.cls := findClass_of_methodNamed B.named
  have hlocks := B.notSynchronized
  subst hsz
  have g : G3 (dC, dI) L kd tys s f0 [(0, 8), (0, 10), (0, 11), (0, 12), (7, 6), (7, 18), (8, 6), (8, 8), (8, 9)] [110, 111, 112, 113, 114, 115, 138, 139] f0 s.heap [] [(0, 0, a0_, .ref q0_), (0, 1, a0_, .ref q1_), (0, 2, a0_, .ref q2_), (5, 1, q1_, .ref q3_), (8, 8, q0_, .int y0_)] := G3.start hP hD0 hWT hfx
  have hl := lv_entry ([.ref a0_]) (n := 5) (Nat.le_of_ble_eq_true rfl)
  rw [lg_entry_eq]
  generalize (lg_sl ([.ref a0_]) ++ List.replicate (5 - (lg_sl ([.ref a0_])).length) Slot.unset).toArray = ls at hl ⊢
  have hl : lv_has ls 5 [(0, .ref a0_)] := hl
  refine W_q (fun Q hQ => ?_)
  refine lv_aload_n hx hb dX0_readOld_0 rfl (lv_at hl 0 rfl) ?_
  refine g_getk (C := RX0) (T := TX0) (N := 14) hx hb hts (mc_ inX0) hown hK g rfl 0 (by decide) rfl (hts _ (List.mem_cons_of_mem _ t_373)) (fun _ h9 => h9) 0 rfl dX0_readOld_1 ?_
  have go_ := g
  refine g_calli (va_runV (As := []) (rest := []) ⟨hx, hb, hml, hown, hts⟩ (r_X8_place l dC dI L kd tys f0 s.heap.size g.2.2.2.1 q0_ mq0_ kq0_) (cwV 0 hts (gV_ t_1220 t_1111 t_1112 t_184 t_1113) rfl rfl rfl (by decide +kernel) ⟨(Nat.le_of_ble_eq_true rfl), (Nat.le_of_ble_eq_true rfl)⟩) (pre3V g hK mq0_ kq0_ (by decide) (q := (RX8, TX8, 10)) rfl) rfl rfl hl.1 rfl (lv_room (Nat.le_of_ble_eq_true rfl)) dX0_readOld_4 ⟨(Nat.le_of_ble_eq_true rfl), (Nat.le_of_ble_eq_true rfl)⟩) g hK (by decide) (by decide) (fx' := [(0, 0, a0_, .ref q0_), (0, 1, a0_, .ref q1_), (0, 2, a0_, .ref q2_), (5, 1, q1_, .ref q3_), (8, 8, q0_, .int y0_)]) rfl (fun r_1 fr_1 H locs hp hMr_1 g => ?_)
  have hG_2 := eOK.frame hMr_1 go_.2.2.2.1 ma0_ ka0_ (by decide) (by decide) hGea0_
  refine lv_istore_n (lv' := [(1, .int r_1), (0, .ref a0_)]) hx hb dX0_readOld_7 rfl hl (by decide) rfl (fun ls hl => ?_)
  refine lv_aload_n hx hb dX0_readOld_8 rfl (lv_at hl 1 rfl) ?_
  refine g_getk (C := RX0) (T := TX0) (N := 14) hx hb hts (mc_ inX0) hown hK g rfl 0 (by decide) rfl (hts _ (List.mem_cons_of_mem _ t_373)) (fun _ h9 => h9) 0 rfl dX0_readOld_9 ?_
  have go_ := g
  refine g_callv (va_runV (As := []) (rest := []) ⟨hx, hb, hml, hown, hts⟩ (r_X8_next l dC dI L kd tys fr_1 H.size g.2.2.2.1 q0_ mq0_ kq0_) (cwV 0 hts (gV_ t_1225 t_1103 t_1104 t_184 t_1105) rfl rfl rfl (by decide +kernel) ⟨(Nat.le_of_ble_eq_true rfl), (Nat.le_of_ble_eq_true rfl)⟩) (pre3V g hK mq0_ kq0_ (by decide) (q := (RX8, TX8, 10)) rfl) rfl rfl hl.1 rfl (lv_room (Nat.le_of_ble_eq_true rfl)) dX0_readOld_12 ⟨(Nat.le_of_ble_eq_true rfl), (Nat.le_of_ble_eq_true rfl)⟩) g hK (by decide) (by decide) (fx' := [(0, 0, a0_, .ref q0_), (0, 1, a0_, .ref q1_), (0, 2, a0_, .ref q2_), (5, 1, q1_, .ref q3_), (8, 8, q0_, .int y0_)]) rfl (fun fr_3 H locs hp hMr_3 g => ?_)
  obtain ⟨x_4, h_5, hF_6⟩ := hp
  have hG_7 := eOK.frame hMr_3 go_.2.2.2.1 ma0_ ka0_ (by decide) (by decide) hG_2
  have g := g.more hF_6
  refine lv_aload_n hx hb dX0_readOld_15 rfl (lv_at hl 1 rfl) ?_
  have go_ := g
  refine g_callv (va_runV (As := []) (rest := []) ⟨hx, hb, hml, hown, hts⟩ (r_X0_takeBracket l dC dI L kd tys fr_3 H.size g.2.2.2.1 a0_ ma0_ ka0_ q0_ mq0_ kq0_ y0_ by0_ (g.fcts [1, 5] rfl)) (cwV 0 hts (gV_ t_1289 t_1291 t_29 t_190 t_1292) rfl rfl rfl (by decide +kernel) ⟨(Nat.le_of_ble_eq_true rfl), (Nat.le_of_ble_eq_true rfl)⟩) (pre3V g hK ma0_ ka0_ (by decide) (q := (RX0, TX0, 14)) rfl) rfl rfl hl.1 rfl (lv_room (Nat.le_of_ble_eq_true rfl)) dX0_readOld_16 ⟨(Nat.le_of_ble_eq_true rfl), (Nat.le_of_ble_eq_true rfl)⟩) g hK (by decide) (by decide) (fx' := [(0, 0, a0_, .ref q0_), (0, 1, a0_, .ref q1_), (0, 2, a0_, .ref q2_), (5, 1, q1_, .ref q3_)]) rfl (fun fr_8 H locs hp hMr_8 g => ?_)
  rcases hp with ⟨x_9, h_10, x_11, h_12, hF_13⟩ | ⟨x_14, h_15, hF_16⟩
  · have hG_17 := eOK.frame hMr_8 go_.2.2.2.1 ma0_ ka0_ (by decide) (by decide) hG_7
    have g := g.more hF_13
    refine lv_aload_n hx hb dX0_readOld_19 rfl (lv_at hl 1 rfl) ?_
    refine g_getk (C := RX0) (T := TX0) (N := 14) hx hb hts (mc_ inX0) hown hK g rfl 0 (by decide) rfl (hts _ (List.mem_cons_of_mem _ t_373)) (fun _ h9 => h9) 3 rfl dX0_readOld_20 ?_
    have go_ := g
    refine g_calli (va_runV (As := []) (rest := []) ⟨hx, hb, hml, hown, hts⟩ (r_X8_place l dC dI L kd tys fr_8 H.size g.2.2.2.1 q0_ mq0_ kq0_) (cwV 0 hts (gV_ t_1220 t_1111 t_1112 t_184 t_1113) rfl rfl rfl (by decide +kernel) ⟨(Nat.le_of_ble_eq_true rfl), (Nat.le_of_ble_eq_true rfl)⟩) (pre3V g hK mq0_ kq0_ (by decide) (q := (RX8, TX8, 10)) rfl) rfl rfl hl.1 rfl (lv_room (Nat.le_of_ble_eq_true rfl)) dX0_readOld_23 ⟨(Nat.le_of_ble_eq_true rfl), (Nat.le_of_ble_eq_true rfl)⟩) g hK (by decide) (by decide) (fx' := [(8, 6, q0_, .int x_9), (0, 11, a0_, .int x_11), (8, 8, q0_, .int y0_), (0, 0, a0_, .ref q0_), (0, 1, a0_, .ref q1_), (0, 2, a0_, .ref q2_), (5, 1, q1_, .ref q3_)]) rfl (fun r_18 fr_18 H locs hp hMr_18 g => ?_)
    have hG_19 := eOK.frame hMr_18 go_.2.2.2.1 ma0_ ka0_ (by decide) (by decide) hG_17
    refine lv_istore_n (lv' := [(2, .int r_18), (1, .int r_1), (0, .ref a0_)]) hx hb dX0_readOld_26 rfl hl (by decide) rfl (fun ls hl => ?_)
    refine lv_aload_n hx hb dX0_readOld_27 rfl (lv_at hl 2 rfl) ?_
    refine g_getk (C := RX0) (T := TX0) (N := 14) hx hb hts (mc_ inX0) hown hK g rfl 1 (by decide) rfl (hts _ (List.mem_cons_of_mem _ t_374)) (fun _ h9 => h9) 4 rfl dX0_readOld_28 ?_
    refine lv_aload_n hx hb dX0_readOld_31 rfl (lv_at hl 2 rfl) ?_
    refine g_getk (C := RX0) (T := TX0) (N := 14) hx hb hts (mc_ inX0) hown hK g rfl 0 (by decide) rfl (hts _ (List.mem_cons_of_mem _ t_373)) (fun _ h9 => h9) 3 rfl dX0_readOld_32 ?_
    have go_ := g
    refine g_calll (va_runV (As := []) (rest := [.ref q1_]) ⟨hx, hb, hml, hown, hts⟩ (r_X8_value l dC dI L kd tys fr_18 H.size g.2.2.2.1 q0_ mq0_ kq0_) (cwV 0 hts (gV_ t_1238 t_1115 t_1116 t_184 t_1117) rfl rfl rfl (by decide +kernel) ⟨(Nat.le_of_ble_eq_true rfl), (Nat.le_of_ble_eq_true rfl)⟩) (pre3V g hK mq0_ kq0_ (by decide) (q := (RX8, TX8, 10)) rfl) rfl rfl hl.1 rfl (lv_room (Nat.le_of_ble_eq_true rfl)) dX0_readOld_35 ⟨(Nat.le_of_ble_eq_true rfl), (Nat.le_of_ble_eq_true rfl)⟩) g hK (by decide) (by decide) (fx' := [(8, 6, q0_, .int x_9), (0, 11, a0_, .int x_11), (8, 8, q0_, .int y0_), (0, 0, a0_, .ref q0_), (0, 1, a0_, .ref q1_), (0, 2, a0_, .ref q2_), (5, 1, q1_, .ref q3_)]) rfl (fun r_20 fr_20 H locs hp hMr_20 g => ?_)
    have hG_21 := eOK.frame hMr_20 go_.2.2.2.1 ma0_ ka0_ (by decide) (by decide) hG_19
    have go_ := g
    refine g_calli (va_runV (As := [.long r_20]) (rest := []) ⟨hx, hb, hml, hown, hts⟩ (r_X5_placeNamed l dC dI L kd tys fr_20 H.size g.2.2.2.1 q1_ mq1_ kq1_ r_20 q3_ mq3_ kq3_ (g.fcts [6] rfl)) (cwV 1 hts (gV_ t_1251 t_1252 t_1253 t_189 t_1254) rfl rfl rfl (by decide +kernel) ⟨(Nat.le_of_ble_eq_true rfl), (Nat.le_of_ble_eq_true rfl)⟩) (pre3V g hK mq1_ kq1_ (by decide) (q := (RX5, TX5, 9)) rfl) rfl rfl hl.1 rfl (lv_room (Nat.le_of_ble_eq_true rfl)) dX0_readOld_38 ⟨(Nat.le_of_ble_eq_true rfl), (Nat.le_of_ble_eq_true rfl)⟩) g hK (by decide) (by decide) (fx' := [(8, 6, q0_, .int x_9), (0, 11, a0_, .int x_11), (8, 8, q0_, .int y0_), (0, 0, a0_, .ref q0_), (0, 1, a0_, .ref q1_), (0, 2, a0_, .ref q2_), (5, 1, q1_, .ref q3_)]) rfl (fun r_22 fr_22 H locs hp hMr_22 g => ?_)
    obtain ⟨h_23, -⟩ := hp
    have hG_24 := eOK.frame hMr_22 go_.2.2.2.1 ma0_ ka0_ (by decide) (by decide) hG_21
    refine lv_istore_n (lv' := [(3, .int r_22), (2, .int r_18), (1, .int r_1), (0, .ref a0_)]) hx hb dX0_readOld_41 rfl hl (by decide) rfl (fun ls hl => ?_)
    refine lv_aload_n hx hb dX0_readOld_42 rfl (lv_at hl 3 rfl) ?_
    refine g_getk (C := RX0) (T := TX0) (N := 14) hx hb hts (mc_ inX0) hown hK g rfl 0 (by decide) rfl (hts _ (List.mem_cons_of_mem _ t_373)) (fun _ h9 => h9) 3 rfl dX0_readOld_43 ?_
    have go_ := g
    refine g_callv (va_runV (As := []) (rest := []) ⟨hx, hb, hml, hown, hts⟩ (r_X8_next l dC dI L kd tys fr_22 H.size g.2.2.2.1 q0_ mq0_ kq0_) (cwV 0 hts (gV_ t_1225 t_1103 t_1104 t_184 t_1105) rfl rfl rfl (by decide +kernel) ⟨(Nat.le_of_ble_eq_true rfl), (Nat.le_of_ble_eq_true rfl)⟩) (pre3V g hK mq0_ kq0_ (by decide) (q := (RX8, TX8, 10)) rfl) rfl rfl hl.1 rfl (lv_room (Nat.le_of_ble_eq_true rfl)) dX0_readOld_46 ⟨(Nat.le_of_ble_eq_true rfl), (Nat.le_of_ble_eq_true rfl)⟩) g hK (by decide) (by decide) (fx' := [(0, 11, a0_, .int x_11), (8, 8, q0_, .int y0_), (0, 0, a0_, .ref q0_), (0, 1, a0_, .ref q1_), (0, 2, a0_, .ref q2_), (5, 1, q1_, .ref q3_)]) rfl (fun fr_25 H locs hp hMr_25 g => ?_)
    obtain ⟨x_26, h_27, hF_28⟩ := hp
    have hG_29 := eOK.frame hMr_25 go_.2.2.2.1 ma0_ ka0_ (by decide) (by decide) hG_24
    have g := g.more hF_28
    refine lv_iload_n hx hb dX0_readOld_49 rfl (lv_at hl 0 rfl) ?_
    refine lv_iconst (v := (-1)) hx hb dX0_readOld_50 (by decide) ?_
    have kb_m1 : bd (-1) (-1) ((-1) : Int32) := ⟨by decide, by decide⟩
    refine lv_icmp_ne (tgt := 64) hx hb dX0_readOld_51 (by decide) (fun c_30 => ?_) (fun c_30 => ?_)
    · have fc_30 := neq_f c_30
      have b_31 : bd 0 26 r_22 := neX fc_30 h_23 kb_m1 (by decide)
      refine lv_aload_n hx hb dX0_readOld_64 rfl (lv_at hl 3 rfl) ?_
      refine g_getk (C := RX0) (T := TX0) (N := 14) hx hb hts (mc_ inX0) hown hK g rfl 1 (by decide) rfl (hts _ (List.mem_cons_of_mem _ t_374)) (fun _ h9 => h9) 4 rfl dX0_readOld_65 ?_
      refine g_getk (C := RX5) (T := TX5) (N := 9) hx hb hts (mc_ inX5) hown hK g rfl 1 (by decide) rfl (hts _ (List.mem_cons_of_mem _ t_332)) (fun _ h9 => h9) 6 rfl dX0_readOld_68 ?_
      refine lv_iload_n hx hb dX0_readOld_71 rfl (lv_at hl 0 rfl) ?_
      have go_ := g
      refine g_calli (va_runV (As := [.int r_22]) (rest := []) ⟨hx, hb, hml, hown, hts⟩ (r_X9_isRow l dC dI L kd tys fr_25 H.size g.2.2.2.1 q3_ mq3_ kq3_ r_22) (cwV 1 hts (gV_ t_1256 t_1257 t_1258 t_192 t_1259) rfl rfl rfl (by decide +kernel) ⟨(Nat.le_of_ble_eq_true rfl), (Nat.le_of_ble_eq_true rfl)⟩) (pre3V g hK mq3_ kq3_ (by decide) (q := (RX9, TX9, 13)) rfl) rfl rfl hl.1 rfl (lv_room (Nat.le_of_ble_eq_true rfl)) dX0_readOld_72 ⟨(Nat.le_of_ble_eq_true rfl), (Nat.le_of_ble_eq_true rfl)⟩) g hK (by decide) (by decide) (fx' := [(8, 6, q0_, .int x_26), (0, 11, a0_, .int x_11), (8, 8, q0_, .int y0_), (0, 0, a0_, .ref q0_), (0, 1, a0_, .ref q1_), (0, 2, a0_, .ref q2_), (5, 1, q1_, .ref q3_)]) rfl (fun r_32 fr_32 H locs hp hMr_32 g => ?_)
      rcases hp with ⟨h_33, -⟩ | ⟨h_34, h_35, x_36, h_37, hF_38⟩
      · have hG_39 := eOK.frame hMr_32 go_.2.2.2.1 ma0_ ka0_ (by decide) (by decide) hG_29
        obtain rfl : r_32 = 0 := h_33
        refine lv_istore (lv' := [(4, .int 0), (3, .int r_22), (2, .int r_18), (1, .int r_1), (0, .ref a0_)]) hx hb dX0_readOld_75 hl (by decide) rfl (fun ls hl => ?_)
        refine lv_iload_n hx hb dX0_readOld_77 rfl (lv_at hl 1 rfl) ?_
        refine lv_bipush (v := 16) hx hb dX0_readOld_78 (by decide) ?_
        have kb_16 : bd 16 16 (16 : Int32) := ⟨by decide, by decide⟩
        refine lv_icmp_ge (tgt := 105) hx hb dX0_readOld_80 (by decide) (fun c_40 => ?_) (fun c_40 => ?_)
        · have fc_40 := le_f c_40
          have b_41 : bd 16 26 r_22 := leR fc_40 kb_16 b_31 (by decide)
          refine lv_aload_n hx hb dX0_readOld_105 rfl (lv_at hl 4 rfl) ?_
          refine g_getk (C := RX0) (T := TX0) (N := 14) hx hb hts (mc_ inX0) hown hK g rfl 0 (by decide) rfl (hts _ (List.mem_cons_of_mem _ t_373)) (fun _ h9 => h9) 3 rfl dX0_readOld_106 ?_
          refine lv_iconst (v := 5) hx hb dX0_readOld_109 (by decide) ?_
          refine lv_iload_n hx hb dX0_readOld_110 rfl (lv_at hl 2 rfl) ?_
          have kb_5 : bd 5 5 (5 : Int32) := ⟨by decide, by decide⟩
          have go_ := g
          refine g_callv (va_runV (As := [.int 5, .int r_18]) (rest := []) ⟨hx, hb, hml, hown, hts⟩ (r_X8_fail l dC dI L kd tys fr_32 H.size g.2.2.2.1 q0_ mq0_ kq0_ 5 (bd_sub kb_5 (by decide)) r_18 y0_ by0_ (g.fcts [2] rfl)) (cwV 2 hts (gV_ t_1215 t_1107 t_1108 t_184 t_1109) rfl rfl rfl (by decide +kernel) ⟨(Nat.le_of_ble_eq_true rfl), (Nat.le_of_ble_eq_true rfl)⟩) (pre3V g hK mq0_ kq0_ (by decide) (q := (RX8, TX8, 10)) rfl) rfl rfl hl.1 rfl (lv_room (Nat.le_of_ble_eq_true rfl)) dX0_readOld_111 ⟨(Nat.le_of_ble_eq_true rfl), (Nat.le_of_ble_eq_true rfl)⟩) g hK (by decide) (by decide) (fx' := [(0, 11, a0_, .int x_11), (0, 0, a0_, .ref q0_), (0, 1, a0_, .ref q1_), (0, 2, a0_, .ref q2_), (5, 1, q1_, .ref q3_)]) rfl (fun fr_42 H locs hp hMr_42 g => ?_)
          obtain ⟨x_43, h_44, hF_45⟩ := hp
          have hG_46 := eOK.frame hMr_42 go_.2.2.2.1 ma0_ ka0_ (by decide) (by decide) hG_39
          have g := g.more hF_45
          have kb_1201 : bd 1201 1201 (1201 : Int32) := ⟨by decide, by decide⟩
          subst hQ
          exact W.vret hx hb hr (fun t ht hW => ⟨⟨_, rfl, Or.inr (⟨hG_46, 1201, kb_1201, x_43, h_44, (g.fcts [0, 1] rfl)⟩), q3_of g hK ht hW⟩, g.2.2.1.F ht⟩) g.2.2.1.2.2 dX0_readOld_114
        · have fc_40 := nle_f c_40
          have b_47 : bd 0 15 r_22 := ltL fc_40 b_31 kb_16 (by decide)
          refine lv_iload hx hb dX0_readOld_83 (lv_at hl 0 rfl) ?_
          refine lv_aload_n hx hb dX0_readOld_85 rfl (lv_at hl 4 rfl) ?_
          refine g_getk (C := RX0) (T := TX0) (N := 14) hx hb hts (mc_ inX0) hown hK g rfl 0 (by decide) rfl (hts _ (List.mem_cons_of_mem _ t_373)) (fun _ h9 => h9) 3 rfl dX0_readOld_86 ?_
          have go_ := g
          refine g_calli (va_runV (As := []) (rest := [.int 0]) ⟨hx, hb, hml, hown, hts⟩ (r_X8_kind l dC dI L kd tys fr_32 H.size g.2.2.2.1 q0_ mq0_ kq0_) (cwV 0 hts (gV_ t_1186 t_1119 t_1120 t_184 t_1121) rfl rfl rfl (by decide +kernel) ⟨(Nat.le_of_ble_eq_true rfl), (Nat.le_of_ble_eq_true rfl)⟩) (pre3V g hK mq0_ kq0_ (by decide) (q := (RX8, TX8, 10)) rfl) rfl rfl hl.1 rfl (lv_room (Nat.le_of_ble_eq_true rfl)) dX0_readOld_89 ⟨(Nat.le_of_ble_eq_true rfl), (Nat.le_of_ble_eq_true rfl)⟩) g hK (by decide) (by decide) (fx' := [(8, 6, q0_, .int x_26), (0, 11, a0_, .int x_11), (8, 8, q0_, .int y0_), (0, 0, a0_, .ref q0_), (0, 1, a0_, .ref q1_), (0, 2, a0_, .ref q2_), (5, 1, q1_, .ref q3_)]) rfl (fun r_48 fr_48 H locs hp hMr_48 g => ?_)
          have hG_49 := eOK.frame hMr_48 go_.2.2.2.1 ma0_ ka0_ (by decide) (by decide) hG_39
          refine lv_bipush (v := 91) hx hb dX0_readOld_92 (by decide) ?_
          have kb_91 : bd 91 91 (91 : Int32) := ⟨by decide, by decide⟩
          refine lv_icmp_ne (tgt := 101) hx hb dX0_readOld_94 (by decide) (fun c_50 => ?_) (fun c_50 => ?_)
          · have fc_50 := neq_f c_50
            refine lv_iconst (v := 0) hx hb dX0_readOld_101 (by decide) ?_
            refine lv_icmp_eq (tgt := 115) hx hb dX0_readOld_102 (by decide) (fun c_ => ?_) (fun c_ => absurd (by decide) c_)
            refine lv_aload_n hx hb dX0_readOld_115 rfl (lv_at hl 4 rfl) ?_
            refine g_getk (C := RX0) (T := TX0) (N := 14) hx hb hts (mc_ inX0) hown hK g rfl 2 (by decide) rfl (hts _ (List.mem_cons_of_mem _ t_375)) (fun _ h9 => h9) 5 rfl dX0_readOld_116 ?_
            refine lv_dup hx hb dX0_readOld_119 rfl ?_
            refine g_geti (C := RX7) (T := TX7) (N := 19) hx hb hts (mc_ inX7) hown hK g mq2_ kq2_ (by decide) rfl 18 (by decide) rfl (hts _ (List.mem_cons_of_mem _ t_681)) (fun _ h9 => h9) rfl dX0_readOld_120 (fun x_51 bx_51 g => ?_)
            refine lv_iconst (v := 2) hx hb dX0_readOld_123 (by decide) ?_
            have kb_2 : bd 2 2 (2 : Int32) := ⟨by decide, by decide⟩
            refine lv_iadd hx hb dX0_readOld_124 ?_
            refine lv_topi (fun y_52 ey_52 => ?_)
            have go_ := g
            refine g_put (C := RX7) (T := TX7) (N := 19) hx hb hts (mc_ inX7) tyX7 tyX7_ok nmX7 hown hK g mq2_ kq2_ (by decide) rfl 18 (by decide) (hts _ (List.mem_cons_of_mem _ t_681)) (fun _ h9 => h9) rfl rfl (okV_i (bdT y_52)) rfl rfl (by decide) (Or.inr (Or.inl (by decide))) (fx' := [(8, 6, q0_, .int x_26), (0, 11, a0_, .int x_11), (8, 8, q0_, .int y0_), (0, 0, a0_, .ref q0_), (0, 1, a0_, .ref q1_), (0, 2, a0_, .ref q2_), (5, 1, q1_, .ref q3_)]) rfl dX0_readOld_125 (fun f H locs hM_53 g => ?_)
            have hG_54 := eOK.frame hM_53 go_.2.2.2.1 ma0_ ka0_ (by decide) (by decide) hG_49
            refine lv_iload hx hb dX0_readOld_128 (lv_at hl 0 rfl) ?_
            refine lv_if_eq (tgt := 167) hx hb dX0_readOld_130 (by decide) (fun c_ => ?_) (fun c_ => absurd (by decide) c_)
            refine lv_aload_n hx hb dX0_readOld_167 rfl (lv_at hl 4 rfl) ?_
            refine g_getk (C := RX0) (T := TX0) (N := 14) hx hb hts (mc_ inX0) hown hK g rfl 0 (by decide) rfl (hts _ (List.mem_cons_of_mem _ t_373)) (fun _ h9 => h9) 4 rfl dX0_readOld_168 ?_
            refine lv_bipush (v := 41) hx hb dX0_readOld_171 (by decide) ?_
            have go_ := g
            refine g_callv (va_runV (As := [.int 41]) (rest := []) ⟨hx, hb, hml, hown, hts⟩ (r_X8_take l dC dI L kd tys f H.size g.2.2.2.1 q0_ mq0_ kq0_ 41 y0_ by0_ (g.fcts [3] rfl)) (cwV 1 hts (gV_ t_1284 t_1099 t_1100 t_184 t_1101) rfl rfl rfl (by decide +kernel) ⟨(Nat.le_of_ble_eq_true rfl), (Nat.le_of_ble_eq_true rfl)⟩) (pre3V g hK mq0_ kq0_ (by decide) (q := (RX8, TX8, 10)) rfl) rfl rfl hl.1 rfl (lv_room (Nat.le_of_ble_eq_true rfl)) dX0_readOld_173 ⟨(Nat.le_of_ble_eq_true rfl), (Nat.le_of_ble_eq_true rfl)⟩) g hK (by decide) (by decide) (fx' := [(7, 18, q2_, .int y_52), (0, 11, a0_, .int x_11), (0, 0, a0_, .ref q0_), (0, 1, a0_, .ref q1_), (0, 2, a0_, .ref q2_), (5, 1, q1_, .ref q3_)]) rfl (fun fr_55 H locs hp hMr_55 g => ?_)
            rcases hp with ⟨x_56, h_57, hF_58⟩ | ⟨x_59, h_60, hF_61⟩
            · have hG_62 := eOK.frame hMr_55 go_.2.2.2.1 ma0_ ka0_ (by decide) (by decide) hG_54
              have g := g.more hF_58
              refine lv_aload_n hx hb dX0_readOld_176 rfl (lv_at hl 4 rfl) ?_
              refine g_getk (C := RX0) (T := TX0) (N := 14) hx hb hts (mc_ inX0) hown hK g rfl 2 (by decide) rfl (hts _ (List.mem_cons_of_mem _ t_375)) (fun _ h9 => h9) 6 rfl dX0_readOld_177 ?_
              refine lv_iconst (v := 4) hx hb dX0_readOld_180 (by decide) ?_
              refine lv_aload_n hx hb dX0_readOld_181 rfl (lv_at hl 4 rfl) ?_
              refine g_getk (C := RX0) (T := TX0) (N := 14) hx hb hts (mc_ inX0) hown hK g rfl 1 (by decide) rfl (hts _ (List.mem_cons_of_mem _ t_374)) (fun _ h9 => h9) 5 rfl dX0_readOld_182 ?_
              refine g_getk (C := RX5) (T := TX5) (N := 9) hx hb hts (mc_ inX5) hown hK g rfl 1 (by decide) rfl (hts _ (List.mem_cons_of_mem _ t_332)) (fun _ h9 => h9) 7 rfl dX0_readOld_185 ?_
              refine lv_iload_n hx hb dX0_readOld_188 rfl (lv_at hl 1 rfl) ?_
              have go_ := g
              refine g_calli (va_runV (As := [.int r_22]) (rest := [.int 4, .ref q2_]) ⟨hx, hb, hml, hown, hts⟩ (r_X9_spanOf l dC dI L kd tys fr_55 H.size g.2.2.2.1 q3_ mq3_ kq3_ r_22) (cwV 1 hts (gV_ t_1264 t_1265 t_1266 t_192 t_1267) rfl rfl rfl (by decide +kernel) ⟨(Nat.le_of_ble_eq_true rfl), (Nat.le_of_ble_eq_true rfl)⟩) (pre3V g hK mq3_ kq3_ (by decide) (q := (RX9, TX9, 13)) rfl) rfl rfl hl.1 rfl (lv_room (Nat.le_of_ble_eq_true rfl)) dX0_readOld_189 ⟨(Nat.le_of_ble_eq_true rfl), (Nat.le_of_ble_eq_true rfl)⟩) g hK (by decide) (by decide) (fx' := [(8, 6, q0_, .int x_56), (8, 8, q0_, .int y0_), (7, 18, q2_, .int y_52), (0, 11, a0_, .int x_11), (0, 0, a0_, .ref q0_), (0, 1, a0_, .ref q1_), (0, 2, a0_, .ref q2_), (5, 1, q1_, .ref q3_)]) rfl (fun r_63 fr_63 H locs hp hMr_63 g => ?_)
              obtain ⟨h_64, -⟩ := hp
              have hG_65 := eOK.frame hMr_63 go_.2.2.2.1 ma0_ ka0_ (by decide) (by decide) hG_62
              have go_ := g
              refine g_callv (va_runV (As := [.int 4, .int r_63]) (rest := []) ⟨hx, hb, hml, hown, hts⟩ (r_X7_emit l dC dI L kd tys fr_63 H.size g.2.2.2.1 q2_ mq2_ kq2_ 4 r_63) (cwV 2 hts (gV_ t_1203 t_1204 t_1205 t_191 t_1206) rfl rfl rfl (by decide +kernel) ⟨(Nat.le_of_ble_eq_true rfl), (Nat.le_of_ble_eq_true rfl)⟩) (pre3V g hK mq2_ kq2_ (by decide) (q := (RX7, TX7, 19)) rfl) rfl rfl hl.1 rfl (lv_room (Nat.le_of_ble_eq_true rfl)) dX0_readOld_192 ⟨(Nat.le_of_ble_eq_true rfl), (Nat.le_of_ble_eq_true rfl)⟩) g hK (by decide) (by decide) (fx' := [(8, 6, q0_, .int x_56), (8, 8, q0_, .int y0_), (7, 18, q2_, .int y_52), (0, 11, a0_, .int x_11), (0, 0, a0_, .ref q0_), (0, 1, a0_, .ref q1_), (0, 2, a0_, .ref q2_), (5, 1, q1_, .ref q3_)]) rfl (fun fr_66 H locs hp hMr_66 g => ?_)
              obtain ⟨x_67, h_68, hF_69⟩ := hp
              have hG_70 := eOK.frame hMr_66 go_.2.2.2.1 ma0_ ka0_ (by decide) (by decide) hG_65
              have g := g.more hF_69
              refine lv_aload_n hx hb dX0_readOld_195 rfl (lv_at hl 4 rfl) ?_
              refine lv_iconst (v := 2) hx hb dX0_readOld_196 (by decide) ?_
              have go_ := g
              refine g_callv (va_runV (As := [.int 2]) (rest := []) ⟨hx, hb, hml, hown, hts⟩ (r_X0_addWhole l dC dI L kd tys fr_66 H.size g.2.2.2.1 a0_ ma0_ ka0_ 2) (cwV 1 hts (gV_ t_1211 t_1213 t_17 t_190 t_1214) rfl rfl rfl (by decide +kernel) ⟨(Nat.le_of_ble_eq_true rfl), (Nat.le_of_ble_eq_true rfl)⟩) (pre3V g hK ma0_ ka0_ (by decide) (q := (RX0, TX0, 14)) rfl) rfl rfl hl.1 rfl (lv_room (Nat.le_of_ble_eq_true rfl)) dX0_readOld_197 ⟨(Nat.le_of_ble_eq_true rfl), (Nat.le_of_ble_eq_true rfl)⟩) g hK (by decide) (by decide) (fx' := [(7, 6, q2_, .int x_67), (8, 6, q0_, .int x_56), (8, 8, q0_, .int y0_), (7, 18, q2_, .int y_52), (0, 11, a0_, .int x_11), (0, 0, a0_, .ref q0_), (0, 1, a0_, .ref q1_), (0, 2, a0_, .ref q2_), (5, 1, q1_, .ref q3_)]) rfl (fun fr_71 H locs hp hMr_71 g => ?_)
              obtain ⟨x_72, h_73, hF_74⟩ := hp
              have hG_75 := eOK.frame hMr_71 go_.2.2.2.1 ma0_ ka0_ (by decide) (by decide) hG_70
              have g := g.more hF_74
              subst hQ
              exact W.vret hx hb hr (fun t ht hW => ⟨⟨_, rfl, Or.inl ⟨hG_75, x_56, h_57, x_11, (bd_sub h_12 (by decide)), (g.fcts [3, 4, 6] rfl)⟩, q3_of g hK ht hW⟩, g.2.2.1.F ht⟩) g.2.2.1.2.2 dX0_readOld_200
            · have hG_76 := eOK.frame hMr_55 go_.2.2.2.1 ma0_ ka0_ (by decide) (by decide) hG_54
              have g := g.more hF_61
              refine lv_aload_n hx hb dX0_readOld_176 rfl (lv_at hl 4 rfl) ?_
              refine g_getk (C := RX0) (T := TX0) (N := 14) hx hb hts (mc_ inX0) hown hK g rfl 2 (by decide) rfl (hts _ (List.mem_cons_of_mem _ t_375)) (fun _ h9 => h9) 6 rfl dX0_readOld_177 ?_
              refine lv_iconst (v := 4) hx hb dX0_readOld_180 (by decide) ?_
              refine lv_aload_n hx hb dX0_readOld_181 rfl (lv_at hl 4 rfl) ?_
              refine g_getk (C := RX0) (T := TX0) (N := 14) hx hb hts (mc_ inX0) hown hK g rfl 1 (by decide) rfl (hts _ (List.mem_cons_of_mem _ t_374)) (fun _ h9 => h9) 5 rfl dX0_readOld_182 ?_
              refine g_getk (C := RX5) (T := TX5) (N := 9) hx hb hts (mc_ inX5) hown hK g rfl 1 (by decide) rfl (hts _ (List.mem_cons_of_mem _ t_332)) (fun _ h9 => h9) 7 rfl dX0_readOld_185 ?_
              refine lv_iload_n hx hb dX0_readOld_188 rfl (lv_at hl 1 rfl) ?_
              have go_ := g
              refine g_calli (va_runV (As := [.int r_22]) (rest := [.int 4, .ref q2_]) ⟨hx, hb, hml, hown, hts⟩ (r_X9_spanOf l dC dI L kd tys fr_55 H.size g.2.2.2.1 q3_ mq3_ kq3_ r_22) (cwV 1 hts (gV_ t_1264 t_1265 t_1266 t_192 t_1267) rfl rfl rfl (by decide +kernel) ⟨(Nat.le_of_ble_eq_true rfl), (Nat.le_of_ble_eq_true rfl)⟩) (pre3V g hK mq3_ kq3_ (by decide) (q := (RX9, TX9, 13)) rfl) rfl rfl hl.1 rfl (lv_room (Nat.le_of_ble_eq_true rfl)) dX0_readOld_189 ⟨(Nat.le_of_ble_eq_true rfl), (Nat.le_of_ble_eq_true rfl)⟩) g hK (by decide) (by decide) (fx' := [(8, 6, q0_, .int 1201), (8, 8, q0_, .int x_59), (7, 18, q2_, .int y_52), (0, 11, a0_, .int x_11), (0, 0, a0_, .ref q0_), (0, 1, a0_, .ref q1_), (0, 2, a0_, .ref q2_), (5, 1, q1_, .ref q3_)]) rfl (fun r_77 fr_77 H locs hp hMr_77 g => ?_)
              obtain ⟨h_78, -⟩ := hp
              have hG_79 := eOK.frame hMr_77 go_.2.2.2.1 ma0_ ka0_ (by decide) (by decide) hG_76
              have go_ := g
              refine g_callv (va_runV (As := [.int 4, .int r_77]) (rest := []) ⟨hx, hb, hml, hown, hts⟩ (r_X7_emit l dC dI L kd tys fr_77 H.size g.2.2.2.1 q2_ mq2_ kq2_ 4 r_77) (cwV 2 hts (gV_ t_1203 t_1204 t_1205 t_191 t_1206) rfl rfl rfl (by decide +kernel) ⟨(Nat.le_of_ble_eq_true rfl), (Nat.le_of_ble_eq_true rfl)⟩) (pre3V g hK mq2_ kq2_ (by decide) (q := (RX7, TX7, 19)) rfl) rfl rfl hl.1 rfl (lv_room (Nat.le_of_ble_eq_true rfl)) dX0_readOld_192 ⟨(Nat.le_of_ble_eq_true rfl), (Nat.le_of_ble_eq_true rfl)⟩) g hK (by decide) (by decide) (fx' := [(8, 6, q0_, .int 1201), (8, 8, q0_, .int x_59), (7, 18, q2_, .int y_52), (0, 11, a0_, .int x_11), (0, 0, a0_, .ref q0_), (0, 1, a0_, .ref q1_), (0, 2, a0_, .ref q2_), (5, 1, q1_, .ref q3_)]) rfl (fun fr_80 H locs hp hMr_80 g => ?_)
              obtain ⟨x_81, h_82, hF_83⟩ := hp
              have hG_84 := eOK.frame hMr_80 go_.2.2.2.1 ma0_ ka0_ (by decide) (by decide) hG_79
              have g := g.more hF_83
              refine lv_aload_n hx hb dX0_readOld_195 rfl (lv_at hl 4 rfl) ?_
              refine lv_iconst (v := 2) hx hb dX0_readOld_196 (by decide) ?_
              have go_ := g
              refine g_callv (va_runV (As := [.int 2]) (rest := []) ⟨hx, hb, hml, hown, hts⟩ (r_X0_addWhole l dC dI L kd tys fr_80 H.size g.2.2.2.1 a0_ ma0_ ka0_ 2) (cwV 1 hts (gV_ t_1211 t_1213 t_17 t_190 t_1214) rfl rfl rfl (by decide +kernel) ⟨(Nat.le_of_ble_eq_true rfl), (Nat.le_of_ble_eq_true rfl)⟩) (pre3V g hK ma0_ ka0_ (by decide) (q := (RX0, TX0, 14)) rfl) rfl rfl hl.1 rfl (lv_room (Nat.le_of_ble_eq_true rfl)) dX0_readOld_197 ⟨(Nat.le_of_ble_eq_true rfl), (Nat.le_of_ble_eq_true rfl)⟩) g hK (by decide) (by decide) (fx' := [(7, 6, q2_, .int x_81), (8, 6, q0_, .int 1201), (8, 8, q0_, .int x_59), (7, 18, q2_, .int y_52), (0, 11, a0_, .int x_11), (0, 0, a0_, .ref q0_), (0, 1, a0_, .ref q1_), (0, 2, a0_, .ref q2_), (5, 1, q1_, .ref q3_)]) rfl (fun fr_85 H locs hp hMr_85 g => ?_)
              obtain ⟨x_86, h_87, hF_88⟩ := hp
              have hG_89 := eOK.frame hMr_85 go_.2.2.2.1 ma0_ ka0_ (by decide) (by decide) hG_84
              have g := g.more hF_88
              have kb_1201 : bd 1201 1201 (1201 : Int32) := ⟨by decide, by decide⟩
              subst hQ
              exact W.vret hx hb hr (fun t ht hW => ⟨⟨_, rfl, Or.inr (⟨hG_89, 1201, kb_1201, x_59, h_60, (g.fcts [3, 4] rfl)⟩), q3_of g hK ht hW⟩, g.2.2.1.F ht⟩) g.2.2.1.2.2 dX0_readOld_200
          · have fc_50 := eq_f c_50
            have b_90 : bd 91 91 r_48 := eqX fc_50 (bdT r_48) kb_91 (by decide)
            refine lv_iconst (v := 1) hx hb dX0_readOld_97 (by decide) ?_
            refine lv_goto (tgt := 102) hx hb dX0_readOld_98 (by decide) ?_
            refine lv_icmp_eq (tgt := 115) hx hb dX0_readOld_102 (by decide) (fun c_ => absurd c_ (by decide)) (fun c_ => ?_)
            refine lv_aload_n hx hb dX0_readOld_105 rfl (lv_at hl 4 rfl) ?_
            refine g_getk (C := RX0) (T := TX0) (N := 14) hx hb hts (mc_ inX0) hown hK g rfl 0 (by decide) rfl (hts _ (List.mem_cons_of_mem _ t_373)) (fun _ h9 => h9) 3 rfl dX0_readOld_106 ?_
            refine lv_iconst (v := 5) hx hb dX0_readOld_109 (by decide) ?_
            refine lv_iload_n hx hb dX0_readOld_110 rfl (lv_at hl 2 rfl) ?_
            have kb_5 : bd 5 5 (5 : Int32) := ⟨by decide, by decide⟩
            have go_ := g
            refine g_callv (va_runV (As := [.int 5, .int r_18]) (rest := []) ⟨hx, hb, hml, hown, hts⟩ (r_X8_fail l dC dI L kd tys fr_48 H.size g.2.2.2.1 q0_ mq0_ kq0_ 5 (bd_sub kb_5 (by decide)) r_18 y0_ by0_ (g.fcts [2] rfl)) (cwV 2 hts (gV_ t_1215 t_1107 t_1108 t_184 t_1109) rfl rfl rfl (by decide +kernel) ⟨(Nat.le_of_ble_eq_true rfl), (Nat.le_of_ble_eq_true rfl)⟩) (pre3V g hK mq0_ kq0_ (by decide) (q := (RX8, TX8, 10)) rfl) rfl rfl hl.1 rfl (lv_room (Nat.le_of_ble_eq_true rfl)) dX0_readOld_111 ⟨(Nat.le_of_ble_eq_true rfl), (Nat.le_of_ble_eq_true rfl)⟩) g hK (by decide) (by decide) (fx' := [(0, 11, a0_, .int x_11), (0, 0, a0_, .ref q0_), (0, 1, a0_, .ref q1_), (0, 2, a0_, .ref q2_), (5, 1, q1_, .ref q3_)]) rfl (fun fr_91 H locs hp hMr_91 g => ?_)
            obtain ⟨x_92, h_93, hF_94⟩ := hp
            have hG_95 := eOK.frame hMr_91 go_.2.2.2.1 ma0_ ka0_ (by decide) (by decide) hG_49
            have g := g.more hF_94
            have kb_1201 : bd 1201 1201 (1201 : Int32) := ⟨by decide, by decide⟩
            subst hQ
            exact W.vret hx hb hr (fun t ht hW => ⟨⟨_, rfl, Or.inr (⟨hG_95, 1201, kb_1201, x_92, h_93, (g.fcts [0, 1] rfl)⟩), q3_of g hK ht hW⟩, g.2.2.1.F ht⟩) g.2.2.1.2.2 dX0_readOld_114
      · have hG_96 := eOK.frame hMr_32 go_.2.2.2.1 ma0_ ka0_ (by decide) (by decide) hG_29
        obtain rfl : r_32 = 1 := h_34
        have b_97 : bd 0 9 r_22 := eqX rfl b_31 h_35 (by decide)
        have g := g.more hF_38
        refine lv_istore (lv' := [(4, .int 1), (3, .int r_22), (2, .int r_18), (1, .int r_1), (0, .ref a0_)]) hx hb dX0_readOld_75 hl (by decide) rfl (fun ls hl => ?_)
        refine lv_iload_n hx hb dX0_readOld_77 rfl (lv_at hl 1 rfl) ?_
        refine lv_bipush (v := 16) hx hb dX0_readOld_78 (by decide) ?_
        have kb_16 : bd 16 16 (16 : Int32) := ⟨by decide, by decide⟩
        refine lv_icmp_ge (tgt := 105) hx hb dX0_readOld_80 (by decide) (fun c_98 => ?_) (fun c_98 => ?_)
        · have fc_98 := le_f c_98
          have b_99 : bd 16 9 (16 : Int32) := leL fc_98 kb_16 b_97 (by decide)
          exact bd_no (eqX rfl b_99 kb_16 (lo := 16) (hi := 9) (by decide)) (by decide)
        · have fc_98 := nle_f c_98
          refine lv_iload hx hb dX0_readOld_83 (lv_at hl 0 rfl) ?_
          refine lv_aload_n hx hb dX0_readOld_85 rfl (lv_at hl 4 rfl) ?_
          refine g_getk (C := RX0) (T := TX0) (N := 14) hx hb hts (mc_ inX0) hown hK g rfl 0 (by decide) rfl (hts _ (List.mem_cons_of_mem _ t_373)) (fun _ h9 => h9) 4 rfl dX0_readOld_86 ?_
          have go_ := g
          refine g_calli (va_runV (As := []) (rest := [.int 1]) ⟨hx, hb, hml, hown, hts⟩ (r_X8_kind l dC dI L kd tys fr_32 H.size g.2.2.2.1 q0_ mq0_ kq0_) (cwV 0 hts (gV_ t_1186 t_1119 t_1120 t_184 t_1121) rfl rfl rfl (by decide +kernel) ⟨(Nat.le_of_ble_eq_true rfl), (Nat.le_of_ble_eq_true rfl)⟩) (pre3V g hK mq0_ kq0_ (by decide) (q := (RX8, TX8, 10)) rfl) rfl rfl hl.1 rfl (lv_room (Nat.le_of_ble_eq_true rfl)) dX0_readOld_89 ⟨(Nat.le_of_ble_eq_true rfl), (Nat.le_of_ble_eq_true rfl)⟩) g hK (by decide) (by decide) (fx' := [(9, 2, q3_, .int x_36), (8, 6, q0_, .int x_26), (0, 11, a0_, .int x_11), (8, 8, q0_, .int y0_), (0, 0, a0_, .ref q0_), (0, 1, a0_, .ref q1_), (0, 2, a0_, .ref q2_), (5, 1, q1_, .ref q3_)]) rfl (fun r_100 fr_100 H locs hp hMr_100 g => ?_)
          have hG_101 := eOK.frame hMr_100 go_.2.2.2.1 ma0_ ka0_ (by decide) (by decide) hG_96
          refine lv_bipush (v := 91) hx hb dX0_readOld_92 (by decide) ?_
          have kb_91 : bd 91 91 (91 : Int32) := ⟨by decide, by decide⟩
          refine lv_icmp_ne (tgt := 101) hx hb dX0_readOld_94 (by decide) (fun c_102 => ?_) (fun c_102 => ?_)
          · have fc_102 := neq_f c_102
            refine lv_iconst (v := 0) hx hb dX0_readOld_101 (by decide) ?_
            refine lv_icmp_eq (tgt := 115) hx hb dX0_readOld_102 (by decide) (fun c_ => absurd c_ (by decide)) (fun c_ => ?_)
            refine lv_aload_n hx hb dX0_readOld_105 rfl (lv_at hl 4 rfl) ?_
            refine g_getk (C := RX0) (T := TX0) (N := 14) hx hb hts (mc_ inX0) hown hK g rfl 0 (by decide) rfl (hts _ (List.mem_cons_of_mem _ t_373)) (fun _ h9 => h9) 4 rfl dX0_readOld_106 ?_
            refine lv_iconst (v := 5) hx hb dX0_readOld_109 (by decide) ?_
            refine lv_iload_n hx hb dX0_readOld_110 rfl (lv_at hl 2 rfl) ?_
            have kb_5 : bd 5 5 (5 : Int32) := ⟨by decide, by decide⟩
            have go_ := g
            refine g_callv (va_runV (As := [.int 5, .int r_18]) (rest := []) ⟨hx, hb, hml, hown, hts⟩ (r_X8_fail l dC dI L kd tys fr_100 H.size g.2.2.2.1 q0_ mq0_ kq0_ 5 (bd_sub kb_5 (by decide)) r_18 y0_ by0_ (g.fcts [3] rfl)) (cwV 2 hts (gV_ t_1215 t_1107 t_1108 t_184 t_1109) rfl rfl rfl (by decide +kernel) ⟨(Nat.le_of_ble_eq_true rfl), (Nat.le_of_ble_eq_true rfl)⟩) (pre3V g hK mq0_ kq0_ (by decide) (q := (RX8, TX8, 10)) rfl) rfl rfl hl.1 rfl (lv_room (Nat.le_of_ble_eq_true rfl)) dX0_readOld_111 ⟨(Nat.le_of_ble_eq_true rfl), (Nat.le_of_ble_eq_true rfl)⟩) g hK (by decide) (by decide) (fx' := [(9, 2, q3_, .int x_36), (0, 11, a0_, .int x_11), (0, 0, a0_, .ref q0_), (0, 1, a0_, .ref q1_), (0, 2, a0_, .ref q2_), (5, 1, q1_, .ref q3_)]) rfl (fun fr_103 H locs hp hMr_103 g => ?_)
            obtain ⟨x_104, h_105, hF_106⟩ := hp
            have hG_107 := eOK.frame hMr_103 go_.2.2.2.1 ma0_ ka0_ (by decide) (by decide) hG_101
            have g := g.more hF_106
            have kb_1201 : bd 1201 1201 (1201 : Int32) := ⟨by decide, by decide⟩
            subst hQ
            exact W.vret hx hb hr (fun t ht hW => ⟨⟨_, rfl, Or.inr (⟨hG_107, 1201, kb_1201, x_104, h_105, (g.fcts [0, 1] rfl)⟩), q3_of g hK ht hW⟩, g.2.2.1.F ht⟩) g.2.2.1.2.2 dX0_readOld_114
          · have fc_102 := eq_f c_102
            have b_108 : bd 91 91 r_100 := eqX fc_102 (bdT r_100) kb_91 (by decide)
            refine lv_iconst (v := 1) hx hb dX0_readOld_97 (by decide) ?_
            refine lv_goto (tgt := 102) hx hb dX0_readOld_98 (by decide) ?_
            refine lv_icmp_eq (tgt := 115) hx hb dX0_readOld_102 (by decide) (fun c_ => ?_) (fun c_ => absurd (by decide) c_)
            refine lv_aload_n hx hb dX0_readOld_115 rfl (lv_at hl 4 rfl) ?_
            refine g_getk (C := RX0) (T := TX0) (N := 14) hx hb hts (mc_ inX0) hown hK g rfl 2 (by decide) rfl (hts _ (List.mem_cons_of_mem _ t_375)) (fun _ h9 => h9) 6 rfl dX0_readOld_116 ?_
            refine lv_dup hx hb dX0_readOld_119 rfl ?_
            refine g_geti (C := RX7) (T := TX7) (N := 19) hx hb hts (mc_ inX7) hown hK g mq2_ kq2_ (by decide) rfl 18 (by decide) rfl (hts _ (List.mem_cons_of_mem _ t_681)) (fun _ h9 => h9) rfl dX0_readOld_120 (fun x_109 bx_109 g => ?_)
            refine lv_iconst (v := 2) hx hb dX0_readOld_123 (by decide) ?_
            have kb_2 : bd 2 2 (2 : Int32) := ⟨by decide, by decide⟩
            refine lv_iadd hx hb dX0_readOld_124 ?_
            refine lv_topi (fun y_110 ey_110 => ?_)
            have go_ := g
            refine g_put (C := RX7) (T := TX7) (N := 19) hx hb hts (mc_ inX7) tyX7 tyX7_ok nmX7 hown hK g mq2_ kq2_ (by decide) rfl 18 (by decide) (hts _ (List.mem_cons_of_mem _ t_681)) (fun _ h9 => h9) rfl rfl (okV_i (bdT y_110)) rfl rfl (by decide) (Or.inr (Or.inl (by decide))) (fx' := [(9, 2, q3_, .int x_36), (8, 6, q0_, .int x_26), (0, 11, a0_, .int x_11), (8, 8, q0_, .int y0_), (0, 0, a0_, .ref q0_), (0, 1, a0_, .ref q1_), (0, 2, a0_, .ref q2_), (5, 1, q1_, .ref q3_)]) rfl dX0_readOld_125 (fun f H locs hM_111 g => ?_)
            have hG_112 := eOK.frame hM_111 go_.2.2.2.1 ma0_ ka0_ (by decide) (by decide) hG_101
            refine lv_iload hx hb dX0_readOld_128 (lv_at hl 0 rfl) ?_
            refine lv_if_eq (tgt := 167) hx hb dX0_readOld_130 (by decide) (fun c_ => absurd c_ (by decide)) (fun c_ => ?_)
            refine lv_aload_n hx hb dX0_readOld_133 rfl (lv_at hl 4 rfl) ?_
            refine lv_dup hx hb dX0_readOld_134 rfl ?_
            refine g_getk (C := RX0) (T := TX0) (N := 14) hx hb hts (mc_ inX0) hown hK g rfl 11 (by decide) rfl (hts _ (List.mem_cons_of_mem _ t_384)) (fun _ h9 => h9) 3 rfl dX0_readOld_135 ?_
            refine lv_iconst (v := 1) hx hb dX0_readOld_138 (by decide) ?_
            have kb_1 : bd 1 1 (1 : Int32) := ⟨by decide, by decide⟩
            refine lv_iadd hx hb dX0_readOld_139 ?_
            refine lv_topi (fun y_113 ey_113 => ?_)
            have ty_113 := add_bd ey_113 h_12 kb_1 (by decide)
            have b_114 : bd (-2147483647) 40 y_113 := add_rg ty_113 h_12 kb_1 (by decide)
            have go_ := g
            refine g_put (C := RX0) (T := TX0) (N := 14) hx hb hts (mc_ inX0) tyX0 tyX0_ok nmX0 hown hK g ma0_ ka0_ (by decide) rfl 11 (by decide) (hts _ (List.mem_cons_of_mem _ t_384)) (fun _ h9 => h9) rfl rfl (okV_i (bd_sub b_114 (by decide))) rfl rfl (by decide) (Or.inr (Or.inl (by decide))) (fx' := [(7, 18, q2_, .int y_110), (9, 2, q3_, .int x_36), (8, 6, q0_, .int x_26), (8, 8, q0_, .int y0_), (0, 0, a0_, .ref q0_), (0, 1, a0_, .ref q1_), (0, 2, a0_, .ref q2_), (5, 1, q1_, .ref q3_)]) rfl dX0_readOld_140 (fun f H locs hM_115 g => ?_)
            have hG_116 := eOK.frame hM_115 go_.2.2.2.1 ma0_ ka0_ (by decide) (by decide) hG_112
            refine lv_aload_n hx hb dX0_readOld_143 rfl (lv_at hl 4 rfl) ?_
            refine lv_iconst (v := 5) hx hb dX0_readOld_144 (by decide) ?_
            refine lv_iload_n hx hb dX0_readOld_145 rfl (lv_at hl 2 rfl) ?_
            refine lv_iload_n hx hb dX0_readOld_146 rfl (lv_at hl 1 rfl) ?_
            have kb_5 : bd 5 5 (5 : Int32) := ⟨by decide, by decide⟩
            have go_ := g
            refine g_callv (va_runV (As := [.int 5, .int r_18, .int r_22]) (rest := []) ⟨hx, hb, hml, hown, hts⟩ (r_X0_openIndex_2 l dC dI L kd tys f H.size g.2.2.2.1 a0_ ma0_ ka0_ 5 kb_5 r_18 r_22 b_97 q0_ mq0_ kq0_ q1_ mq1_ kq1_ q3_ mq3_ kq3_ y_113 b_114 x_36 h_37 y0_ by0_ hG_116 (g.fcts [5, 6, 8, 0, 2, 4] rfl)) (cwV 3 hts (gV_ t_1260 t_1262 t_24 t_190 t_1263) rfl rfl rfl (by decide +kernel) ⟨(Nat.le_of_ble_eq_true rfl), (Nat.le_of_ble_eq_true rfl)⟩) (pre3V g hK ma0_ ka0_ (by decide) (q := (RX0, TX0, 14)) rfl) rfl rfl hl.1 rfl (lv_room (Nat.le_of_ble_eq_true rfl)) dX0_readOld_147 ⟨(Nat.le_of_ble_eq_true rfl), (Nat.le_of_ble_eq_true rfl)⟩) g hK (by decide) (by decide) (fx' := [(7, 18, q2_, .int y_110), (9, 2, q3_, .int x_36), (0, 0, a0_, .ref q0_), (0, 1, a0_, .ref q1_), (0, 2, a0_, .ref q2_), (5, 1, q1_, .ref q3_)]) rfl (fun fr_117 H locs hp hMr_117 g => ?_)
            rcases hp with ⟨hG_118, h_119, x_120, h_121, x_122, h_123, x_124, h_125, hF_126⟩ | ⟨hG_127, h_128, x_129, h_130, x_131, h_132, x_133, h_134, hF_135⟩
            · have b_136 : bd (-2147483647) 39 y_113 := eqX rfl b_114 h_119 (by decide)
              have b_137 : bd (-2147483648) 38 x_11 := add_inv ty_113 b_136 h_12 kb_1 (by decide)
              have g := g.more hF_126
              refine lv_aload_n hx hb dX0_readOld_150 rfl (lv_at hl 4 rfl) ?_
              refine g_getr (K := 114) (C := RX0) (T := TX0) (N := 14) hx hb hts (mc_ inX0) hown hK g ma0_ ka0_ (by decide) rfl 7 (by decide) rfl (hts _ (List.mem_cons_of_mem _ t_380)) (fun _ h9 => h9) rfl dX0_readOld_151 (fun a_138 ma_138 ka_138 g => ?_)
              refine lv_aload_n hx hb dX0_readOld_154 rfl (lv_at hl 4 rfl) ?_
              refine g_getk (C := RX0) (T := TX0) (N := 14) hx hb hts (mc_ inX0) hown hK g rfl 8 (by decide) rfl (hts _ (List.mem_cons_of_mem _ t_381)) (fun _ h9 => h9) 3 rfl dX0_readOld_155 ?_
              refine lv_iconst (v := 1) hx hb dX0_readOld_158 (by decide) ?_
              refine lv_isub hx hb dX0_readOld_159 ?_
              refine lv_topi (fun y_139 ey_139 => ?_)
              have ty_139 := sub_bd ey_139 h_125 kb_1 (by decide)
              have b_140 : bd 0 299 y_139 := sub_rg ty_139 h_125 kb_1 (by decide)
              refine lv_iconst (v := 0) hx hb dX0_readOld_160 (by decide) ?_
              have kb_0 : bd 0 0 (0 : Int32) := ⟨by decide, by decide⟩
              refine va_mmax hx hb (hml.trans hl.1.symm) hown (hts _ (List.mem_cons_of_mem _ t_1194)) (hts _ (List.mem_cons_of_mem _ t_1041)) (hts _ (List.mem_cons_of_mem _ t_204)) (hts _ (List.mem_cons_of_mem _ t_1042)) (Nat.le_of_ble_eq_true rfl) (Nat.le_of_ble_eq_true rfl) (Nat.le_of_ble_eq_true rfl) (Nat.le_of_ble_eq_true rfl) dX0_readOld_161 ?_
              refine lv_topi (fun y_141 ey_141 => ?_)
              have ty_141 : y_141.toInt = max y_139.toInt (0 : Int32).toInt := by rw [ey_141]; exact mmax_ok _ _
              have b_142 : bd 0 299 y_141 := max_rg ty_141 b_140 kb_0 (by decide)
              refine lv_iload_n hx hb dX0_readOld_164 rfl (lv_at hl 3 rfl) ?_
              have go_ := g
              refine g_iast hx hb hK g ma_138 ka_138 (by decide) rfl (in_bd b_142 (by decide)) (bdT r_1) (by decide) dX0_readOld_165 (fun f H locs hM_143 g => ?_)
              have hG_144 := eOK.frame hM_143 go_.2.2.2.1 ma0_ ka0_ (by decide) (by decide) hG_118
              subst hQ
              exact W.vret hx hb hr (fun t ht hW => ⟨⟨_, rfl, Or.inl ⟨hG_144, x_120, h_121, x_122, (bd_sub h_123 (by decide)), (g.fcts [1, 4, 2] rfl)⟩, q3_of g hK ht hW⟩, g.2.2.1.F ht⟩) g.2.2.1.2.2 dX0_readOld_166
            · have b_145 : bd 40 40 y_113 := eqX rfl b_114 h_128 (by decide)
              have b_146 : bd 39 39 x_11 := add_inv ty_113 b_145 h_12 kb_1 (by decide)
              have g := g.more hF_135
              refine lv_aload_n hx hb dX0_readOld_150 rfl (lv_at hl 4 rfl) ?_
              refine g_getr (K := 114) (C := RX0) (T := TX0) (N := 14) hx hb hts (mc_ inX0) hown hK g ma0_ ka0_ (by decide) rfl 7 (by decide) rfl (hts _ (List.mem_cons_of_mem _ t_380)) (fun _ h9 => h9) rfl dX0_readOld_151 (fun a_147 ma_147 ka_147 g => ?_)
              refine lv_aload_n hx hb dX0_readOld_154 rfl (lv_at hl 4 rfl) ?_
              refine g_getk (C := RX0) (T := TX0) (N := 14) hx hb hts (mc_ inX0) hown hK g rfl 8 (by decide) rfl (hts _ (List.mem_cons_of_mem _ t_381)) (fun _ h9 => h9) 2 rfl dX0_readOld_155 ?_
              refine lv_iconst (v := 1) hx hb dX0_readOld_158 (by decide) ?_
              refine lv_isub hx hb dX0_readOld_159 ?_
              refine lv_topi (fun y_148 ey_148 => ?_)
              have ty_148 := sub_bd ey_148 h_132 kb_1 (by decide)
              have b_149 : bd 0 299 y_148 := sub_rg ty_148 h_132 kb_1 (by decide)
              refine lv_iconst (v := 0) hx hb dX0_readOld_160 (by decide) ?_
              have kb_0 : bd 0 0 (0 : Int32) := ⟨by decide, by decide⟩
              refine va_mmax hx hb (hml.trans hl.1.symm) hown (hts _ (List.mem_cons_of_mem _ t_1194)) (hts _ (List.mem_cons_of_mem _ t_1041)) (hts _ (List.mem_cons_of_mem _ t_204)) (hts _ (List.mem_cons_of_mem _ t_1042)) (Nat.le_of_ble_eq_true rfl) (Nat.le_of_ble_eq_true rfl) (Nat.le_of_ble_eq_true rfl) (Nat.le_of_ble_eq_true rfl) dX0_readOld_161 ?_
              refine lv_topi (fun y_150 ey_150 => ?_)
              have ty_150 : y_150.toInt = max y_148.toInt (0 : Int32).toInt := by rw [ey_150]; exact mmax_ok _ _
              have b_151 : bd 0 299 y_150 := max_rg ty_150 b_149 kb_0 (by decide)
              refine lv_iload_n hx hb dX0_readOld_164 rfl (lv_at hl 3 rfl) ?_
              have go_ := g
              refine g_iast hx hb hK g ma_147 ka_147 (by decide) rfl (in_bd b_151 (by decide)) (bdT r_1) (by decide) dX0_readOld_165 (fun f H locs hM_152 g => ?_)
              have hG_153 := eOK.frame hM_152 go_.2.2.2.1 ma0_ ka0_ (by decide) (by decide) hG_127
              have kb_1201 : bd 1201 1201 (1201 : Int32) := ⟨by decide, by decide⟩
              subst hQ
              exact W.vret hx hb hr (fun t ht hW => ⟨⟨_, rfl, Or.inr (⟨hG_153, 1201, kb_1201, x_133, h_134, (g.fcts [3, 4] rfl)⟩), q3_of g hK ht hW⟩, g.2.2.1.F ht⟩) g.2.2.1.2.2 dX0_readOld_166
    · have fc_30 := eq_f c_30
      have b_154 : bd (-1) (-1) r_22 := eqX fc_30 h_23 kb_m1 (by decide)
      refine lv_aload_n hx hb dX0_readOld_54 rfl (lv_at hl 3 rfl) ?_
      refine g_getk (C := RX0) (T := TX0) (N := 14) hx hb hts (mc_ inX0) hown hK g rfl 0 (by decide) rfl (hts _ (List.mem_cons_of_mem _ t_373)) (fun _ h9 => h9) 3 rfl dX0_readOld_55 ?_
      refine lv_iconst (v := 2) hx hb dX0_readOld_58 (by decide) ?_
      refine lv_iload_n hx hb dX0_readOld_59 rfl (lv_at hl 1 rfl) ?_
      have kb_2 : bd 2 2 (2 : Int32) := ⟨by decide, by decide⟩
      have go_ := g
      refine g_callv (va_runV (As := [.int 2, .int r_18]) (rest := []) ⟨hx, hb, hml, hown, hts⟩ (r_X8_fail l dC dI L kd tys fr_25 H.size g.2.2.2.1 q0_ mq0_ kq0_ 2 (bd_sub kb_2 (by decide)) r_18 y0_ by0_ (g.fcts [2] rfl)) (cwV 2 hts (gV_ t_1215 t_1107 t_1108 t_184 t_1109) rfl rfl rfl (by decide +kernel) ⟨(Nat.le_of_ble_eq_true rfl), (Nat.le_of_ble_eq_true rfl)⟩) (pre3V g hK mq0_ kq0_ (by decide) (q := (RX8, TX8, 10)) rfl) rfl rfl hl.1 rfl (lv_room (Nat.le_of_ble_eq_true rfl)) dX0_readOld_60 ⟨(Nat.le_of_ble_eq_true rfl), (Nat.le_of_ble_eq_true rfl)⟩) g hK (by decide) (by decide) (fx' := [(0, 11, a0_, .int x_11), (0, 0, a0_, .ref q0_), (0, 1, a0_, .ref q1_), (0, 2, a0_, .ref q2_), (5, 1, q1_, .ref q3_)]) rfl (fun fr_155 H locs hp hMr_155 g => ?_)
      obtain ⟨x_156, h_157, hF_158⟩ := hp
      have hG_159 := eOK.frame hMr_155 go_.2.2.2.1 ma0_ ka0_ (by decide) (by decide) hG_29
      have g := g.more hF_158
      have kb_1201 : bd 1201 1201 (1201 : Int32) := ⟨by decide, by decide⟩
      subst hQ
      exact W.vret hx hb hr (fun t ht hW => ⟨⟨_, rfl, Or.inr (⟨hG_159, 1201, kb_1201, x_156, h_157, (g.fcts [0, 1] rfl)⟩), q3_of g hK ht hW⟩, g.2.2.1.F ht⟩) g.2.2.1.2.2 dX0_readOld_63
  · have hG_160 := eOK.frame hMr_8 go_.2.2.2.1 ma0_ ka0_ (by decide) (by decide) hG_7
    have g := g.more hF_16
    refine lv_aload_n hx hb dX0_readOld_19 rfl (lv_at hl 1 rfl) ?_
    refine g_getk (C := RX0) (T := TX0) (N := 14) hx hb hts (mc_ inX0) hown hK g rfl 0 (by decide) rfl (hts _ (List.mem_cons_of_mem _ t_373)) (fun _ h9 => h9) 2 rfl dX0_readOld_20 ?_
    have go_ := g
    refine g_calli (va_runV (As := []) (rest := []) ⟨hx, hb, hml, hown, hts⟩ (r_X8_place l dC dI L kd tys fr_8 H.size g.2.2.2.1 q0_ mq0_ kq0_) (cwV 0 hts (gV_ t_1220 t_1111 t_1112 t_184 t_1113) rfl rfl rfl (by decide +kernel) ⟨(Nat.le_of_ble_eq_true rfl), (Nat.le_of_ble_eq_true rfl)⟩) (pre3V g hK mq0_ kq0_ (by decide) (q := (RX8, TX8, 10)) rfl) rfl rfl hl.1 rfl (lv_room (Nat.le_of_ble_eq_true rfl)) dX0_readOld_23 ⟨(Nat.le_of_ble_eq_true rfl), (Nat.le_of_ble_eq_true rfl)⟩) g hK (by decide) (by decide) (fx' := [(8, 6, q0_, .int 1201), (8, 8, q0_, .int x_14), (0, 0, a0_, .ref q0_), (0, 1, a0_, .ref q1_), (0, 2, a0_, .ref q2_), (5, 1, q1_, .ref q3_)]) rfl (fun r_161 fr_161 H locs hp hMr_161 g => ?_)
    have hG_162 := eOK.frame hMr_161 go_.2.2.2.1 ma0_ ka0_ (by decide) (by decide) hG_160
    refine lv_istore_n (lv' := [(2, .int r_161), (1, .int r_1), (0, .ref a0_)]) hx hb dX0_readOld_26 rfl hl (by decide) rfl (fun ls hl => ?_)
    refine lv_aload_n hx hb dX0_readOld_27 rfl (lv_at hl 2 rfl) ?_
    refine g_getk (C := RX0) (T := TX0) (N := 14) hx hb hts (mc_ inX0) hown hK g rfl 1 (by decide) rfl (hts _ (List.mem_cons_of_mem _ t_374)) (fun _ h9 => h9) 3 rfl dX0_readOld_28 ?_
    refine lv_aload_n hx hb dX0_readOld_31 rfl (lv_at hl 2 rfl) ?_
    refine g_getk (C := RX0) (T := TX0) (N := 14) hx hb hts (mc_ inX0) hown hK g rfl 0 (by decide) rfl (hts _ (List.mem_cons_of_mem _ t_373)) (fun _ h9 => h9) 2 rfl dX0_readOld_32 ?_
    have go_ := g
    refine g_calll (va_runV (As := []) (rest := [.ref q1_]) ⟨hx, hb, hml, hown, hts⟩ (r_X8_value l dC dI L kd tys fr_161 H.size g.2.2.2.1 q0_ mq0_ kq0_) (cwV 0 hts (gV_ t_1238 t_1115 t_1116 t_184 t_1117) rfl rfl rfl (by decide +kernel) ⟨(Nat.le_of_ble_eq_true rfl), (Nat.le_of_ble_eq_true rfl)⟩) (pre3V g hK mq0_ kq0_ (by decide) (q := (RX8, TX8, 10)) rfl) rfl rfl hl.1 rfl (lv_room (Nat.le_of_ble_eq_true rfl)) dX0_readOld_35 ⟨(Nat.le_of_ble_eq_true rfl), (Nat.le_of_ble_eq_true rfl)⟩) g hK (by decide) (by decide) (fx' := [(8, 6, q0_, .int 1201), (8, 8, q0_, .int x_14), (0, 0, a0_, .ref q0_), (0, 1, a0_, .ref q1_), (0, 2, a0_, .ref q2_), (5, 1, q1_, .ref q3_)]) rfl (fun r_163 fr_163 H locs hp hMr_163 g => ?_)
    have hG_164 := eOK.frame hMr_163 go_.2.2.2.1 ma0_ ka0_ (by decide) (by decide) hG_162
    have go_ := g
    refine g_calli (va_runV (As := [.long r_163]) (rest := []) ⟨hx, hb, hml, hown, hts⟩ (r_X5_placeNamed l dC dI L kd tys fr_163 H.size g.2.2.2.1 q1_ mq1_ kq1_ r_163 q3_ mq3_ kq3_ (g.fcts [5] rfl)) (cwV 1 hts (gV_ t_1251 t_1252 t_1253 t_189 t_1254) rfl rfl rfl (by decide +kernel) ⟨(Nat.le_of_ble_eq_true rfl), (Nat.le_of_ble_eq_true rfl)⟩) (pre3V g hK mq1_ kq1_ (by decide) (q := (RX5, TX5, 9)) rfl) rfl rfl hl.1 rfl (lv_room (Nat.le_of_ble_eq_true rfl)) dX0_readOld_38 ⟨(Nat.le_of_ble_eq_true rfl), (Nat.le_of_ble_eq_true rfl)⟩) g hK (by decide) (by decide) (fx' := [(8, 6, q0_, .int 1201), (8, 8, q0_, .int x_14), (0, 0, a0_, .ref q0_), (0, 1, a0_, .ref q1_), (0, 2, a0_, .ref q2_), (5, 1, q1_, .ref q3_)]) rfl (fun r_165 fr_165 H locs hp hMr_165 g => ?_)
    obtain ⟨h_166, -⟩ := hp
    have hG_167 := eOK.frame hMr_165 go_.2.2.2.1 ma0_ ka0_ (by decide) (by decide) hG_164
    refine lv_istore_n (lv' := [(3, .int r_165), (2, .int r_161), (1, .int r_1), (0, .ref a0_)]) hx hb dX0_readOld_41 rfl hl (by decide) rfl (fun ls hl => ?_)
    refine lv_aload_n hx hb dX0_readOld_42 rfl (lv_at hl 3 rfl) ?_
    refine g_getk (C := RX0) (T := TX0) (N := 14) hx hb hts (mc_ inX0) hown hK g rfl 0 (by decide) rfl (hts _ (List.mem_cons_of_mem _ t_373)) (fun _ h9 => h9) 2 rfl dX0_readOld_43 ?_
    have kb_1201 : bd 1201 1201 (1201 : Int32) := ⟨by decide, by decide⟩
    have go_ := g
    refine g_callv (va_runV (As := []) (rest := []) ⟨hx, hb, hml, hown, hts⟩ (r_X8_next_2 l dC dI L kd tys fr_165 H.size g.2.2.2.1 q0_ mq0_ kq0_ 1201 kb_1201 (g.fcts [0] rfl)) (cwV 0 hts (gV_ t_1225 t_1103 t_1104 t_184 t_1105) rfl rfl rfl (by decide +kernel) ⟨(Nat.le_of_ble_eq_true rfl), (Nat.le_of_ble_eq_true rfl)⟩) (pre3V g hK mq0_ kq0_ (by decide) (q := (RX8, TX8, 10)) rfl) rfl rfl hl.1 rfl (lv_room (Nat.le_of_ble_eq_true rfl)) dX0_readOld_46 ⟨(Nat.le_of_ble_eq_true rfl), (Nat.le_of_ble_eq_true rfl)⟩) g hK (by decide) (by decide) (fx' := [(8, 6, q0_, .int 1201), (8, 8, q0_, .int x_14), (0, 0, a0_, .ref q0_), (0, 1, a0_, .ref q1_), (0, 2, a0_, .ref q2_), (5, 1, q1_, .ref q3_)]) rfl (fun fr_168 H locs hp hMr_168 g => ?_)
    have hG_169 := eOK.frame hMr_168 go_.2.2.2.1 ma0_ ka0_ (by decide) (by decide) hG_167
    refine lv_iload_n hx hb dX0_readOld_49 rfl (lv_at hl 0 rfl) ?_
    refine lv_iconst (v := (-1)) hx hb dX0_readOld_50 (by decide) ?_
    have kb_m1 : bd (-1) (-1) ((-1) : Int32) := ⟨by decide, by decide⟩
    refine lv_icmp_ne (tgt := 64) hx hb dX0_readOld_51 (by decide) (fun c_170 => ?_) (fun c_170 => ?_)
    · have fc_170 := neq_f c_170
      have b_171 : bd 0 26 r_165 := neX fc_170 h_166 kb_m1 (by decide)
      refine lv_aload_n hx hb dX0_readOld_64 rfl (lv_at hl 3 rfl) ?_
      refine g_getk (C := RX0) (T := TX0) (N := 14) hx hb hts (mc_ inX0) hown hK g rfl 1 (by decide) rfl (hts _ (List.mem_cons_of_mem _ t_374)) (fun _ h9 => h9) 3 rfl dX0_readOld_65 ?_
      refine g_getk (C := RX5) (T := TX5) (N := 9) hx hb hts (mc_ inX5) hown hK g rfl 1 (by decide) rfl (hts _ (List.mem_cons_of_mem _ t_332)) (fun _ h9 => h9) 5 rfl dX0_readOld_68 ?_
      refine lv_iload_n hx hb dX0_readOld_71 rfl (lv_at hl 0 rfl) ?_
      have go_ := g
      refine g_calli (va_runV (As := [.int r_165]) (rest := []) ⟨hx, hb, hml, hown, hts⟩ (r_X9_isRow l dC dI L kd tys fr_168 H.size g.2.2.2.1 q3_ mq3_ kq3_ r_165) (cwV 1 hts (gV_ t_1256 t_1257 t_1258 t_192 t_1259) rfl rfl rfl (by decide +kernel) ⟨(Nat.le_of_ble_eq_true rfl), (Nat.le_of_ble_eq_true rfl)⟩) (pre3V g hK mq3_ kq3_ (by decide) (q := (RX9, TX9, 13)) rfl) rfl rfl hl.1 rfl (lv_room (Nat.le_of_ble_eq_true rfl)) dX0_readOld_72 ⟨(Nat.le_of_ble_eq_true rfl), (Nat.le_of_ble_eq_true rfl)⟩) g hK (by decide) (by decide) (fx' := [(8, 6, q0_, .int 1201), (8, 8, q0_, .int x_14), (0, 0, a0_, .ref q0_), (0, 1, a0_, .ref q1_), (0, 2, a0_, .ref q2_), (5, 1, q1_, .ref q3_)]) rfl (fun r_172 fr_172 H locs hp hMr_172 g => ?_)
      rcases hp with ⟨h_173, -⟩ | ⟨h_174, h_175, x_176, h_177, hF_178⟩
      · have hG_179 := eOK.frame hMr_172 go_.2.2.2.1 ma0_ ka0_ (by decide) (by decide) hG_169
        obtain rfl : r_172 = 0 := h_173
        refine lv_istore (lv' := [(4, .int 0), (3, .int r_165), (2, .int r_161), (1, .int r_1), (0, .ref a0_)]) hx hb dX0_readOld_75 hl (by decide) rfl (fun ls hl => ?_)
        refine lv_iload_n hx hb dX0_readOld_77 rfl (lv_at hl 1 rfl) ?_
        refine lv_bipush (v := 16) hx hb dX0_readOld_78 (by decide) ?_
        have kb_16 : bd 16 16 (16 : Int32) := ⟨by decide, by decide⟩
        refine lv_icmp_ge (tgt := 105) hx hb dX0_readOld_80 (by decide) (fun c_180 => ?_) (fun c_180 => ?_)
        · have fc_180 := le_f c_180
          have b_181 : bd 16 26 r_165 := leR fc_180 kb_16 b_171 (by decide)
          refine lv_aload_n hx hb dX0_readOld_105 rfl (lv_at hl 4 rfl) ?_
          refine g_getk (C := RX0) (T := TX0) (N := 14) hx hb hts (mc_ inX0) hown hK g rfl 0 (by decide) rfl (hts _ (List.mem_cons_of_mem _ t_373)) (fun _ h9 => h9) 2 rfl dX0_readOld_106 ?_
          refine lv_iconst (v := 5) hx hb dX0_readOld_109 (by decide) ?_
          refine lv_iload_n hx hb dX0_readOld_110 rfl (lv_at hl 2 rfl) ?_
          have kb_5 : bd 5 5 (5 : Int32) := ⟨by decide, by decide⟩
          have go_ := g
          refine g_callv (va_runV (As := [.int 5, .int r_161]) (rest := []) ⟨hx, hb, hml, hown, hts⟩ (r_X8_fail_2 l dC dI L kd tys fr_172 H.size g.2.2.2.1 q0_ mq0_ kq0_ 5 (bd_sub kb_5 (by decide)) r_161 x_14 h_15 (g.fcts [1] rfl)) (cwV 2 hts (gV_ t_1215 t_1107 t_1108 t_184 t_1109) rfl rfl rfl (by decide +kernel) ⟨(Nat.le_of_ble_eq_true rfl), (Nat.le_of_ble_eq_true rfl)⟩) (pre3V g hK mq0_ kq0_ (by decide) (q := (RX8, TX8, 10)) rfl) rfl rfl hl.1 rfl (lv_room (Nat.le_of_ble_eq_true rfl)) dX0_readOld_111 ⟨(Nat.le_of_ble_eq_true rfl), (Nat.le_of_ble_eq_true rfl)⟩) g hK (by decide) (by decide) (fx' := [(8, 8, q0_, .int x_14), (0, 0, a0_, .ref q0_), (0, 1, a0_, .ref q1_), (0, 2, a0_, .ref q2_), (5, 1, q1_, .ref q3_)]) rfl (fun fr_182 H locs hp hMr_182 g => ?_)
          have hF_183 := hp
          have hG_184 := eOK.frame hMr_182 go_.2.2.2.1 ma0_ ka0_ (by decide) (by decide) hG_179
          have g := g.more hF_183
          subst hQ
          exact W.vret hx hb hr (fun t ht hW => ⟨⟨_, rfl, Or.inr (⟨hG_184, 1201, kb_1201, x_14, h_15, (g.fcts [0, 1] rfl)⟩), q3_of g hK ht hW⟩, g.2.2.1.F ht⟩) g.2.2.1.2.2 dX0_readOld_114
        · have fc_180 := nle_f c_180
          have b_185 : bd 0 15 r_165 := ltL fc_180 b_171 kb_16 (by decide)
          refine lv_iload hx hb dX0_readOld_83 (lv_at hl 0 rfl) ?_
          refine lv_aload_n hx hb dX0_readOld_85 rfl (lv_at hl 4 rfl) ?_
          refine g_getk (C := RX0) (T := TX0) (N := 14) hx hb hts (mc_ inX0) hown hK g rfl 0 (by decide) rfl (hts _ (List.mem_cons_of_mem _ t_373)) (fun _ h9 => h9) 2 rfl dX0_readOld_86 ?_
          have go_ := g
          refine g_calli (va_runV (As := []) (rest := [.int 0]) ⟨hx, hb, hml, hown, hts⟩ (r_X8_kind_2 l dC dI L kd tys fr_172 H.size g.2.2.2.1 q0_ mq0_ kq0_ 1201 kb_1201 (g.fcts [0] rfl)) (cwV 0 hts (gV_ t_1186 t_1119 t_1120 t_184 t_1121) rfl rfl rfl (by decide +kernel) ⟨(Nat.le_of_ble_eq_true rfl), (Nat.le_of_ble_eq_true rfl)⟩) (pre3V g hK mq0_ kq0_ (by decide) (q := (RX8, TX8, 10)) rfl) rfl rfl hl.1 rfl (lv_room (Nat.le_of_ble_eq_true rfl)) dX0_readOld_89 ⟨(Nat.le_of_ble_eq_true rfl), (Nat.le_of_ble_eq_true rfl)⟩) g hK (by decide) (by decide) (fx' := [(8, 6, q0_, .int 1201), (8, 8, q0_, .int x_14), (0, 0, a0_, .ref q0_), (0, 1, a0_, .ref q1_), (0, 2, a0_, .ref q2_), (5, 1, q1_, .ref q3_)]) rfl (fun r_186 fr_186 H locs hp hMr_186 g => ?_)
          obtain ⟨h_187, -⟩ := hp
          have hG_188 := eOK.frame hMr_186 go_.2.2.2.1 ma0_ ka0_ (by decide) (by decide) hG_179
          obtain rfl : r_186 = 0 := h_187
          refine lv_bipush (v := 91) hx hb dX0_readOld_92 (by decide) ?_
          refine lv_icmp_ne (tgt := 101) hx hb dX0_readOld_94 (by decide) (fun c_ => ?_) (fun c_ => absurd c_ (by decide))
          refine lv_iconst (v := 0) hx hb dX0_readOld_101 (by decide) ?_
          refine lv_icmp_eq (tgt := 115) hx hb dX0_readOld_102 (by decide) (fun c_ => ?_) (fun c_ => absurd (by decide) c_)
          refine lv_aload_n hx hb dX0_readOld_115 rfl (lv_at hl 4 rfl) ?_
          refine g_getk (C := RX0) (T := TX0) (N := 14) hx hb hts (mc_ inX0) hown hK g rfl 2 (by decide) rfl (hts _ (List.mem_cons_of_mem _ t_375)) (fun _ h9 => h9) 4 rfl dX0_readOld_116 ?_
          refine lv_dup hx hb dX0_readOld_119 rfl ?_
          refine g_geti (C := RX7) (T := TX7) (N := 19) hx hb hts (mc_ inX7) hown hK g mq2_ kq2_ (by decide) rfl 18 (by decide) rfl (hts _ (List.mem_cons_of_mem _ t_681)) (fun _ h9 => h9) rfl dX0_readOld_120 (fun x_189 bx_189 g => ?_)
          refine lv_iconst (v := 2) hx hb dX0_readOld_123 (by decide) ?_
          have kb_2 : bd 2 2 (2 : Int32) := ⟨by decide, by decide⟩
          refine lv_iadd hx hb dX0_readOld_124 ?_
          refine lv_topi (fun y_190 ey_190 => ?_)
          have go_ := g
          refine g_put (C := RX7) (T := TX7) (N := 19) hx hb hts (mc_ inX7) tyX7 tyX7_ok nmX7 hown hK g mq2_ kq2_ (by decide) rfl 18 (by decide) (hts _ (List.mem_cons_of_mem _ t_681)) (fun _ h9 => h9) rfl rfl (okV_i (bdT y_190)) rfl rfl (by decide) (Or.inr (Or.inl (by decide))) (fx' := [(8, 6, q0_, .int 1201), (8, 8, q0_, .int x_14), (0, 0, a0_, .ref q0_), (0, 1, a0_, .ref q1_), (0, 2, a0_, .ref q2_), (5, 1, q1_, .ref q3_)]) rfl dX0_readOld_125 (fun f H locs hM_191 g => ?_)
          have hG_192 := eOK.frame hM_191 go_.2.2.2.1 ma0_ ka0_ (by decide) (by decide) hG_188
          refine lv_iload hx hb dX0_readOld_128 (lv_at hl 0 rfl) ?_
          refine lv_if_eq (tgt := 167) hx hb dX0_readOld_130 (by decide) (fun c_ => ?_) (fun c_ => absurd (by decide) c_)
          refine lv_aload_n hx hb dX0_readOld_167 rfl (lv_at hl 4 rfl) ?_
          refine g_getk (C := RX0) (T := TX0) (N := 14) hx hb hts (mc_ inX0) hown hK g rfl 0 (by decide) rfl (hts _ (List.mem_cons_of_mem _ t_373)) (fun _ h9 => h9) 3 rfl dX0_readOld_168 ?_
          refine lv_bipush (v := 41) hx hb dX0_readOld_171 (by decide) ?_
          have go_ := g
          refine g_callv (va_runV (As := [.int 41]) (rest := []) ⟨hx, hb, hml, hown, hts⟩ (r_X8_take_2 l dC dI L kd tys f H.size g.2.2.2.1 q0_ mq0_ kq0_ 41 1201 kb_1201 x_14 h_15 (g.fcts [1, 2] rfl)) (cwV 1 hts (gV_ t_1284 t_1099 t_1100 t_184 t_1101) rfl rfl rfl (by decide +kernel) ⟨(Nat.le_of_ble_eq_true rfl), (Nat.le_of_ble_eq_true rfl)⟩) (pre3V g hK mq0_ kq0_ (by decide) (q := (RX8, TX8, 10)) rfl) rfl rfl hl.1 rfl (lv_room (Nat.le_of_ble_eq_true rfl)) dX0_readOld_173 ⟨(Nat.le_of_ble_eq_true rfl), (Nat.le_of_ble_eq_true rfl)⟩) g hK (by decide) (by decide) (fx' := [(7, 18, q2_, .int y_190), (8, 8, q0_, .int x_14), (0, 0, a0_, .ref q0_), (0, 1, a0_, .ref q1_), (0, 2, a0_, .ref q2_), (5, 1, q1_, .ref q3_)]) rfl (fun fr_193 H locs hp hMr_193 g => ?_)
          obtain ⟨x_194, h_195, hF_196⟩ := hp
          have hG_197 := eOK.frame hMr_193 go_.2.2.2.1 ma0_ ka0_ (by decide) (by decide) hG_192
          have g := g.more hF_196
          refine lv_aload_n hx hb dX0_readOld_176 rfl (lv_at hl 4 rfl) ?_
          refine g_getk (C := RX0) (T := TX0) (N := 14) hx hb hts (mc_ inX0) hown hK g rfl 2 (by decide) rfl (hts _ (List.mem_cons_of_mem _ t_375)) (fun _ h9 => h9) 5 rfl dX0_readOld_177 ?_
          refine lv_iconst (v := 4) hx hb dX0_readOld_180 (by decide) ?_
          refine lv_aload_n hx hb dX0_readOld_181 rfl (lv_at hl 4 rfl) ?_
          refine g_getk (C := RX0) (T := TX0) (N := 14) hx hb hts (mc_ inX0) hown hK g rfl 1 (by decide) rfl (hts _ (List.mem_cons_of_mem _ t_374)) (fun _ h9 => h9) 4 rfl dX0_readOld_182 ?_
          refine g_getk (C := RX5) (T := TX5) (N := 9) hx hb hts (mc_ inX5) hown hK g rfl 1 (by decide) rfl (hts _ (List.mem_cons_of_mem _ t_332)) (fun _ h9 => h9) 6 rfl dX0_readOld_185 ?_
          refine lv_iload_n hx hb dX0_readOld_188 rfl (lv_at hl 1 rfl) ?_
          have go_ := g
          refine g_calli (va_runV (As := [.int r_165]) (rest := [.int 4, .ref q2_]) ⟨hx, hb, hml, hown, hts⟩ (r_X9_spanOf l dC dI L kd tys fr_193 H.size g.2.2.2.1 q3_ mq3_ kq3_ r_165) (cwV 1 hts (gV_ t_1264 t_1265 t_1266 t_192 t_1267) rfl rfl rfl (by decide +kernel) ⟨(Nat.le_of_ble_eq_true rfl), (Nat.le_of_ble_eq_true rfl)⟩) (pre3V g hK mq3_ kq3_ (by decide) (q := (RX9, TX9, 13)) rfl) rfl rfl hl.1 rfl (lv_room (Nat.le_of_ble_eq_true rfl)) dX0_readOld_189 ⟨(Nat.le_of_ble_eq_true rfl), (Nat.le_of_ble_eq_true rfl)⟩) g hK (by decide) (by decide) (fx' := [(8, 6, q0_, .int x_194), (7, 18, q2_, .int y_190), (8, 8, q0_, .int x_14), (0, 0, a0_, .ref q0_), (0, 1, a0_, .ref q1_), (0, 2, a0_, .ref q2_), (5, 1, q1_, .ref q3_)]) rfl (fun r_198 fr_198 H locs hp hMr_198 g => ?_)
          obtain ⟨h_199, -⟩ := hp
          have hG_200 := eOK.frame hMr_198 go_.2.2.2.1 ma0_ ka0_ (by decide) (by decide) hG_197
          have go_ := g
          refine g_callv (va_runV (As := [.int 4, .int r_198]) (rest := []) ⟨hx, hb, hml, hown, hts⟩ (r_X7_emit l dC dI L kd tys fr_198 H.size g.2.2.2.1 q2_ mq2_ kq2_ 4 r_198) (cwV 2 hts (gV_ t_1203 t_1204 t_1205 t_191 t_1206) rfl rfl rfl (by decide +kernel) ⟨(Nat.le_of_ble_eq_true rfl), (Nat.le_of_ble_eq_true rfl)⟩) (pre3V g hK mq2_ kq2_ (by decide) (q := (RX7, TX7, 19)) rfl) rfl rfl hl.1 rfl (lv_room (Nat.le_of_ble_eq_true rfl)) dX0_readOld_192 ⟨(Nat.le_of_ble_eq_true rfl), (Nat.le_of_ble_eq_true rfl)⟩) g hK (by decide) (by decide) (fx' := [(8, 6, q0_, .int x_194), (7, 18, q2_, .int y_190), (8, 8, q0_, .int x_14), (0, 0, a0_, .ref q0_), (0, 1, a0_, .ref q1_), (0, 2, a0_, .ref q2_), (5, 1, q1_, .ref q3_)]) rfl (fun fr_201 H locs hp hMr_201 g => ?_)
          obtain ⟨x_202, h_203, hF_204⟩ := hp
          have hG_205 := eOK.frame hMr_201 go_.2.2.2.1 ma0_ ka0_ (by decide) (by decide) hG_200
          have g := g.more hF_204
          refine lv_aload_n hx hb dX0_readOld_195 rfl (lv_at hl 4 rfl) ?_
          refine lv_iconst (v := 2) hx hb dX0_readOld_196 (by decide) ?_
          have go_ := g
          refine g_callv (va_runV (As := [.int 2]) (rest := []) ⟨hx, hb, hml, hown, hts⟩ (r_X0_addWhole l dC dI L kd tys fr_201 H.size g.2.2.2.1 a0_ ma0_ ka0_ 2) (cwV 1 hts (gV_ t_1211 t_1213 t_17 t_190 t_1214) rfl rfl rfl (by decide +kernel) ⟨(Nat.le_of_ble_eq_true rfl), (Nat.le_of_ble_eq_true rfl)⟩) (pre3V g hK ma0_ ka0_ (by decide) (q := (RX0, TX0, 14)) rfl) rfl rfl hl.1 rfl (lv_room (Nat.le_of_ble_eq_true rfl)) dX0_readOld_197 ⟨(Nat.le_of_ble_eq_true rfl), (Nat.le_of_ble_eq_true rfl)⟩) g hK (by decide) (by decide) (fx' := [(7, 6, q2_, .int x_202), (8, 6, q0_, .int x_194), (7, 18, q2_, .int y_190), (8, 8, q0_, .int x_14), (0, 0, a0_, .ref q0_), (0, 1, a0_, .ref q1_), (0, 2, a0_, .ref q2_), (5, 1, q1_, .ref q3_)]) rfl (fun fr_206 H locs hp hMr_206 g => ?_)
          obtain ⟨x_207, h_208, hF_209⟩ := hp
          have hG_210 := eOK.frame hMr_206 go_.2.2.2.1 ma0_ ka0_ (by decide) (by decide) hG_205
          have g := g.more hF_209
          subst hQ
          exact W.vret hx hb hr (fun t ht hW => ⟨⟨_, rfl, Or.inr (⟨hG_210, x_194, h_195, x_14, h_15, (g.fcts [3, 5] rfl)⟩), q3_of g hK ht hW⟩, g.2.2.1.F ht⟩) g.2.2.1.2.2 dX0_readOld_200
      · have hG_211 := eOK.frame hMr_172 go_.2.2.2.1 ma0_ ka0_ (by decide) (by decide) hG_169
        obtain rfl : r_172 = 1 := h_174
        have b_212 : bd 0 9 r_165 := eqX rfl b_171 h_175 (by decide)
        have g := g.more hF_178
        refine lv_istore (lv' := [(4, .int 1), (3, .int r_165), (2, .int r_161), (1, .int r_1), (0, .ref a0_)]) hx hb dX0_readOld_75 hl (by decide) rfl (fun ls hl => ?_)
        refine lv_iload_n hx hb dX0_readOld_77 rfl (lv_at hl 1 rfl) ?_
        refine lv_bipush (v := 16) hx hb dX0_readOld_78 (by decide) ?_
        have kb_16 : bd 16 16 (16 : Int32) := ⟨by decide, by decide⟩
        refine lv_icmp_ge (tgt := 105) hx hb dX0_readOld_80 (by decide) (fun c_213 => ?_) (fun c_213 => ?_)
        · have fc_213 := le_f c_213
          have b_214 : bd 16 9 (16 : Int32) := leL fc_213 kb_16 b_212 (by decide)
          exact bd_no (eqX rfl b_214 kb_16 (lo := 16) (hi := 9) (by decide)) (by decide)
        · have fc_213 := nle_f c_213
          refine lv_iload hx hb dX0_readOld_83 (lv_at hl 0 rfl) ?_
          refine lv_aload_n hx hb dX0_readOld_85 rfl (lv_at hl 4 rfl) ?_
          refine g_getk (C := RX0) (T := TX0) (N := 14) hx hb hts (mc_ inX0) hown hK g rfl 0 (by decide) rfl (hts _ (List.mem_cons_of_mem _ t_373)) (fun _ h9 => h9) 3 rfl dX0_readOld_86 ?_
          have go_ := g
          refine g_calli (va_runV (As := []) (rest := [.int 1]) ⟨hx, hb, hml, hown, hts⟩ (r_X8_kind_2 l dC dI L kd tys fr_172 H.size g.2.2.2.1 q0_ mq0_ kq0_ 1201 kb_1201 (g.fcts [1] rfl)) (cwV 0 hts (gV_ t_1186 t_1119 t_1120 t_184 t_1121) rfl rfl rfl (by decide +kernel) ⟨(Nat.le_of_ble_eq_true rfl), (Nat.le_of_ble_eq_true rfl)⟩) (pre3V g hK mq0_ kq0_ (by decide) (q := (RX8, TX8, 10)) rfl) rfl rfl hl.1 rfl (lv_room (Nat.le_of_ble_eq_true rfl)) dX0_readOld_89 ⟨(Nat.le_of_ble_eq_true rfl), (Nat.le_of_ble_eq_true rfl)⟩) g hK (by decide) (by decide) (fx' := [(9, 2, q3_, .int x_176), (8, 6, q0_, .int 1201), (8, 8, q0_, .int x_14), (0, 0, a0_, .ref q0_), (0, 1, a0_, .ref q1_), (0, 2, a0_, .ref q2_), (5, 1, q1_, .ref q3_)]) rfl (fun r_215 fr_215 H locs hp hMr_215 g => ?_)
          obtain ⟨h_216, -⟩ := hp
          have hG_217 := eOK.frame hMr_215 go_.2.2.2.1 ma0_ ka0_ (by decide) (by decide) hG_211
          obtain rfl : r_215 = 0 := h_216
          refine lv_bipush (v := 91) hx hb dX0_readOld_92 (by decide) ?_
          refine lv_icmp_ne (tgt := 101) hx hb dX0_readOld_94 (by decide) (fun c_ => ?_) (fun c_ => absurd c_ (by decide))
          refine lv_iconst (v := 0) hx hb dX0_readOld_101 (by decide) ?_
          refine lv_icmp_eq (tgt := 115) hx hb dX0_readOld_102 (by decide) (fun c_ => absurd c_ (by decide)) (fun c_ => ?_)
          refine lv_aload_n hx hb dX0_readOld_105 rfl (lv_at hl 4 rfl) ?_
          refine g_getk (C := RX0) (T := TX0) (N := 14) hx hb hts (mc_ inX0) hown hK g rfl 0 (by decide) rfl (hts _ (List.mem_cons_of_mem _ t_373)) (fun _ h9 => h9) 3 rfl dX0_readOld_106 ?_
          refine lv_iconst (v := 5) hx hb dX0_readOld_109 (by decide) ?_
          refine lv_iload_n hx hb dX0_readOld_110 rfl (lv_at hl 2 rfl) ?_
          have kb_5 : bd 5 5 (5 : Int32) := ⟨by decide, by decide⟩
          have go_ := g
          refine g_callv (va_runV (As := [.int 5, .int r_161]) (rest := []) ⟨hx, hb, hml, hown, hts⟩ (r_X8_fail_2 l dC dI L kd tys fr_215 H.size g.2.2.2.1 q0_ mq0_ kq0_ 5 (bd_sub kb_5 (by decide)) r_161 x_14 h_15 (g.fcts [2] rfl)) (cwV 2 hts (gV_ t_1215 t_1107 t_1108 t_184 t_1109) rfl rfl rfl (by decide +kernel) ⟨(Nat.le_of_ble_eq_true rfl), (Nat.le_of_ble_eq_true rfl)⟩) (pre3V g hK mq0_ kq0_ (by decide) (q := (RX8, TX8, 10)) rfl) rfl rfl hl.1 rfl (lv_room (Nat.le_of_ble_eq_true rfl)) dX0_readOld_111 ⟨(Nat.le_of_ble_eq_true rfl), (Nat.le_of_ble_eq_true rfl)⟩) g hK (by decide) (by decide) (fx' := [(9, 2, q3_, .int x_176), (8, 8, q0_, .int x_14), (0, 0, a0_, .ref q0_), (0, 1, a0_, .ref q1_), (0, 2, a0_, .ref q2_), (5, 1, q1_, .ref q3_)]) rfl (fun fr_218 H locs hp hMr_218 g => ?_)
          have hF_219 := hp
          have hG_220 := eOK.frame hMr_218 go_.2.2.2.1 ma0_ ka0_ (by decide) (by decide) hG_217
          have g := g.more hF_219
          subst hQ
          exact W.vret hx hb hr (fun t ht hW => ⟨⟨_, rfl, Or.inr (⟨hG_220, 1201, kb_1201, x_14, h_15, (g.fcts [0, 2] rfl)⟩), q3_of g hK ht hW⟩, g.2.2.1.F ht⟩) g.2.2.1.2.2 dX0_readOld_114
    · have fc_170 := eq_f c_170
      have b_221 : bd (-1) (-1) r_165 := eqX fc_170 h_166 kb_m1 (by decide)
      refine lv_aload_n hx hb dX0_readOld_54 rfl (lv_at hl 3 rfl) ?_
      refine g_getk (C := RX0) (T := TX0) (N := 14) hx hb hts (mc_ inX0) hown hK g rfl 0 (by decide) rfl (hts _ (List.mem_cons_of_mem _ t_373)) (fun _ h9 => h9) 2 rfl dX0_readOld_55 ?_
      refine lv_iconst (v := 2) hx hb dX0_readOld_58 (by decide) ?_
      refine lv_iload_n hx hb dX0_readOld_59 rfl (lv_at hl 1 rfl) ?_
      have kb_2 : bd 2 2 (2 : Int32) := ⟨by decide, by decide⟩
      have go_ := g
      refine g_callv (va_runV (As := [.int 2, .int r_161]) (rest := []) ⟨hx, hb, hml, hown, hts⟩ (r_X8_fail_2 l dC dI L kd tys fr_168 H.size g.2.2.2.1 q0_ mq0_ kq0_ 2 (bd_sub kb_2 (by decide)) r_161 x_14 h_15 (g.fcts [1] rfl)) (cwV 2 hts (gV_ t_1215 t_1107 t_1108 t_184 t_1109) rfl rfl rfl (by decide +kernel) ⟨(Nat.le_of_ble_eq_true rfl), (Nat.le_of_ble_eq_true rfl)⟩) (pre3V g hK mq0_ kq0_ (by decide) (q := (RX8, TX8, 10)) rfl) rfl rfl hl.1 rfl (lv_room (Nat.le_of_ble_eq_true rfl)) dX0_readOld_60 ⟨(Nat.le_of_ble_eq_true rfl), (Nat.le_of_ble_eq_true rfl)⟩) g hK (by decide) (by decide) (fx' := [(8, 8, q0_, .int x_14), (0, 0, a0_, .ref q0_), (0, 1, a0_, .ref q1_), (0, 2, a0_, .ref q2_), (5, 1, q1_, .ref q3_)]) rfl (fun fr_222 H locs hp hMr_222 g => ?_)
      have hF_223 := hp
      have hG_224 := eOK.frame hMr_222 go_.2.2.2.1 ma0_ ka0_ (by decide) (by decide) hG_169
      have g := g.more hF_223
      subst hQ
      exact W.vret hx hb hr (fun t ht hW => ⟨⟨_, rfl, Or.inr (⟨hG_224, 1201, kb_1201, x_14, h_15, (g.fcts [0, 1] rfl)⟩), q3_of g hK ht hW⟩, g.2.2.1.F ht⟩) g.2.2.1.2.2 dX0_readOld_63
