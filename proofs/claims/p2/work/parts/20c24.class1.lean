set_option maxHeartbeats 4000000 in
set_option maxRecDepth 100000 in
theorem r_X10_holds_17 (l : Launch) (dC : Nat → ClassId) (dI : Nat → Nat → Nat) (L : List Nat) (kd : Nat → Nat) (tys : List (ClassId × FieldType)) (f0 : Nat → va_E) (sz : Nat) (hWT : WT L kd tys f0) (a0_ : Nat) (ma0_ : a0_ ∈ L) (ka0_ : kd a0_ = 10) (a1_ : Nat) (ma1_ : a1_ ∈ L) (ka1_ : kd a1_ = 4) (x2_ : Int32) (bx2_ : bd 0 499 x2_) (x3_ : Int32) (bx3_ : bd 0 2 x3_) (q0_ : Nat) (mq0_ : q0_ ∈ L) (kq0_ : kd q0_ = 1) (q1_ : Nat) (mq1_ : q1_ ∈ L) (kq1_ : kd q1_ = 7) (q2_ : Nat) (mq2_ : q2_ ∈ L) (kq2_ : kd q2_ = 9) (y0_ : Int32) (by0_ : bd 1 500 y0_) (y1_ : Int32) (by1_ : bd 1 3 y1_) (y2_ : Int32) (by2_ : bd 1 8 y2_) (y3_ : Int32) (by3_ : bd 0 9 y3_) (y4_ : Int32) (by4_ : bd 0 0 y4_) (hGq1_ : cOK f0 q1_) (hfx : Fs L kd f0 [(10, 1, a0_, .ref q0_), (1, 0, q0_, .ref q1_), (1, 1, q0_, .ref q2_), (7, 13, q1_, .int y0_), (4, 6, a1_, .int y1_), (7, 1, q1_, .int y2_), (4, 14, a1_, .int y3_), (4, 0, a1_, .int y4_)]) : Met l yX10_holds (.code yX10_holds cX10_holds 4 (some .boolean) :: lw_g) ({ frames := 2, cells := 0, slots := 0, locals := 50 }) (va_Pc [.ref a0_, .ref a1_, .int x2_, .int x3_] (P3 (dC, dI) L tys f0 sz)) (va_Qi (fun (r : Int32) (f : Nat → va_E) => (r = 0 ∧ Fs L kd f [(1, 12, q0_, .int 0), (1, 5, q0_, .int 1)]) ∨ (r = 1 ∧ ∃ z0_ : Int32, bd 1 1 z0_ ∧ ∃ z3_ : Int32, bd 0 0 z3_ ∧ Fs L kd f [(1, 15, q0_, .int z0_), (1, 12, q0_, .int 0), (1, 5, q0_, .int 1), (4, 0, a1_, .int z3_)])) (Q3 (dC, dI) L kd tys [(1, 5), (1, 6), (1, 8), (1, 11), (1, 12), (1, 13), (1, 14), (1, 15), (1, 16), (1, 17), (4, 0), (4, 1), (4, 2), (4, 5)] [100, 116, 117, 146] f0 sz) (pA L sz)) 0 0 (pA L sz) := by
  refine Met.ofW (cc := cX10_holds) (maxL := 4) (ret := (some .boolean)) (by decide) rfl ?_
  intro p e s m args below meth c s₁ B hml hv
  obtain ⟨rfl, hsz, hP, hK, hD0⟩ := hv
  have hx := B.exec
  have hb := B.bytes
  have hr := B.returns
  have hts := atoms_spec (ws := (.code yX10_holds cX10_holds 4 (some .boolean) :: lw_g)) B.pre
  have hown : s.vm.findClass RX10 = some m.cls := findClass_of_methodNamed B.named
  have hlocks := B.notSynchronized
  subst hsz
  have g : G3 (dC, dI) L kd tys s f0 [(1, 5), (1, 6), (1, 8), (1, 11), (1, 12), (1, 13), (1, 14), (1, 15), (1, 16), (1, 17), (4, 0), (4, 1), (4, 2), (4, 5)] [100, 116, 117, 146] f0 s.heap [] [(10, 1, a0_, .ref q0_), (1, 0, q0_, .ref q1_), (1, 1, q0_, .ref q2_), (7, 13, q1_, .int y0_), (4, 6, a1_, .int y1_), (7, 1, q1_, .int y2_), (4, 14, a1_, .int y3_), (4, 0, a1_, .int y4_)] := G3.start hP hD0 hWT hfx
  have hl := lv_entry ([.ref a0_, .ref a1_, .int x2_, .int x3_]) (n := 4) (Nat.le_of_ble_eq_true rfl)
  rw [lg_entry_eq]
  generalize (lg_sl ([.ref a0_, .ref a1_, .int x2_, .int x3_]) ++ List.replicate (4 - (lg_sl ([.ref a0_, .ref a1_, .int x2_, .int x3_])).length) Slot.unset).toArray = ls at hl ⊢
  have hl : lv_has ls 4 [(0, .ref a0_), (1, .ref a1_), (2, .int x2_), (3, .int x3_)] := hl
  refine W_q (fun Q hQ => ?_)
  refine lv_aload_n hx hb dX10_holds_0 rfl (lv_at hl 0 rfl) ?_
  refine g_getk (C := RX10) (T := TX10) (N := 10) hx hb hts (mc_ inX10) hown hK g rfl 1 (by decide) rfl (hts _ (List.mem_cons_of_mem _ t_913)) (fun _ h9 => h9) 0 rfl dX10_holds_1 ?_
  refine lv_aload_n hx hb dX10_holds_4 rfl (lv_at hl 0 rfl) ?_
  refine g_getr (K := 7) (C := RX10) (T := TX10) (N := 10) hx hb hts (mc_ inX10) hown hK g ma0_ ka0_ (by decide) rfl 0 (by decide) rfl (hts _ (List.mem_cons_of_mem _ t_912)) (fun _ h9 => h9) rfl dX10_holds_5 (fun a_1 ma_1 ka_1 g => ?_)
  refine g_getr (K := 141) (C := RX7) (T := TX7) (N := 19) hx hb hts (mc_ inX7) hown hK g ma_1 ka_1 (by decide) rfl 8 (by decide) rfl (hts _ (List.mem_cons_of_mem _ t_652)) (fun _ h9 => h9) rfl dX10_holds_8 (fun a_2 ma_2 ka_2 g => ?_)
  refine lv_iload_n hx hb dX10_holds_11 rfl (lv_at hl 2 rfl) ?_
  refine g_iald hx hb hK g ma_2 ka_2 (by decide) rfl (in_bd bx2_ (by decide)) dX10_holds_12 (fun x_3 bx_3 cx_3 => ?_)
  refine lv_aload_n hx hb dX10_holds_13 rfl (lv_at hl 1 rfl) ?_
  refine g_geti (C := RX4) (T := TX4) (N := 17) hx hb hts (mc_ inX4) hown hK g ma1_ ka1_ (by decide) rfl 16 (by decide) rfl (hts _ (List.mem_cons_of_mem _ t_876)) (fun _ h9 => h9) rfl dX10_holds_14 (fun x_4 bx_4 g => ?_)
  have go_ := g
  refine g_callv (va_runV (As := [.int x_3, .int x_4]) (rest := []) ⟨hx, hb, hml, hown, hts⟩ (r_X1_readyToAsk l dC dI L kd tys f0 s.heap.size g.2.2.2.1 q0_ mq0_ kq0_ x_3 x_4) (cwV 2 hts (gV_ t_1551 t_1552 t_1553 t_195 t_1554) rfl rfl rfl (by decide +kernel) ⟨(Nat.le_of_ble_eq_true rfl), (Nat.le_of_ble_eq_true rfl)⟩) (pre3V g hK mq0_ kq0_ (by decide) (q := (RX1, TX1, 18)) rfl) rfl rfl hl.1 rfl (lv_room (Nat.le_of_ble_eq_true rfl)) dX10_holds_17 ⟨(Nat.le_of_ble_eq_true rfl), (Nat.le_of_ble_eq_true rfl)⟩) g hK (by decide) (by decide) (fx' := [(4, 16, a1_, .int x_4), (7, 8, a_1, .ref a_2), (10, 0, a0_, .ref a_1), (10, 1, a0_, .ref q0_), (1, 0, q0_, .ref q1_), (1, 1, q0_, .ref q2_), (7, 13, q1_, .int y0_), (4, 6, a1_, .int y1_), (7, 1, q1_, .int y2_), (4, 14, a1_, .int y3_), (4, 0, a1_, .int y4_)]) rfl (fun fr_5 H locs hp hMr_5 g => ?_)
  have hG_6 := cOK.frame hMr_5 go_.2.2.2.1 mq1_ kq1_ (by decide) (by decide) hGq1_
  have hF_7 := hp
  have g := g.more hF_7
  refine lv_aload_n hx hb dX10_holds_20 rfl (lv_at hl 0 rfl) ?_
  refine g_getk (C := RX10) (T := TX10) (N := 10) hx hb hts (mc_ inX10) hown hK g rfl 1 (by decide) rfl (hts _ (List.mem_cons_of_mem _ t_913)) (fun _ h9 => h9) 5 rfl dX10_holds_21 ?_
  have kb_0 : bd 0 0 (0 : Int32) := ⟨by decide, by decide⟩
  have kb_1 : bd 1 1 (1 : Int32) := ⟨by decide, by decide⟩
  have go_ := g
  refine g_callv (va_runV (As := []) (rest := []) ⟨hx, hb, hml, hown, hts⟩ (r_X1_go l dC dI L kd tys fr_5 H.size g.2.2.2.1 q0_ mq0_ kq0_ q1_ mq1_ kq1_ q2_ mq2_ kq2_ 0 kb_0 1 kb_1 y0_ by0_ y2_ by2_ hG_6 (g.fcts [6, 7, 0, 1, 8, 10] rfl)) (cwV 0 hts (gV_ t_1555 t_1556 t_1557 t_195 t_1558) rfl rfl rfl (by decide +kernel) ⟨(Nat.le_of_ble_eq_true rfl), (Nat.le_of_ble_eq_true rfl)⟩) (pre3V g hK mq0_ kq0_ (by decide) (q := (RX1, TX1, 18)) rfl) rfl rfl hl.1 rfl (lv_room (Nat.le_of_ble_eq_true rfl)) dX10_holds_24 ⟨(Nat.le_of_ble_eq_true rfl), (Nat.le_of_ble_eq_true rfl)⟩) g hK (by decide) (by decide) (fx' := [(1, 12, q0_, .int 0), (1, 5, q0_, .int 1), (4, 16, a1_, .int x_4), (7, 8, a_1, .ref a_2), (10, 0, a0_, .ref a_1), (10, 1, a0_, .ref q0_), (1, 0, q0_, .ref q1_), (1, 1, q0_, .ref q2_), (7, 13, q1_, .int y0_), (4, 6, a1_, .int y1_), (7, 1, q1_, .int y2_), (4, 14, a1_, .int y3_), (4, 0, a1_, .int y4_)]) rfl (fun fr_8 H locs hp hMr_8 g => ?_)
  have hG_9 := cOK.frame hMr_8 go_.2.2.2.1 mq1_ kq1_ (by decide) (by decide) hG_6
  refine lv_aload_n hx hb dX10_holds_27 rfl (lv_at hl 0 rfl) ?_
  refine g_getk (C := RX10) (T := TX10) (N := 10) hx hb hts (mc_ inX10) hown hK g rfl 1 (by decide) rfl (hts _ (List.mem_cons_of_mem _ t_913)) (fun _ h9 => h9) 5 rfl dX10_holds_28 ?_
  refine g_geti (C := RX1) (T := TX1) (N := 18) hx hb hts (mc_ inX1) hown hK g mq0_ kq0_ (by decide) rfl 15 (by decide) rfl (hts _ (List.mem_cons_of_mem _ t_751)) (fun _ h9 => h9) rfl dX10_holds_31 (fun x_10 bx_10 g => ?_)
  refine lv_iconst (v := 1) hx hb dX10_holds_34 (by decide) ?_
  refine lv_icmp_ne (tgt := 54) hx hb dX10_holds_35 (by decide) (fun c_11 => ?_) (fun c_11 => ?_)
  · have fc_11 := neq_f c_11
    refine lv_aload_n hx hb dX10_holds_54 rfl (lv_at hl 0 rfl) ?_
    refine g_getk (C := RX10) (T := TX10) (N := 10) hx hb hts (mc_ inX10) hown hK g rfl 1 (by decide) rfl (hts _ (List.mem_cons_of_mem _ t_913)) (fun _ h9 => h9) 6 rfl dX10_holds_55 ?_
    refine g_getk (C := RX1) (T := TX1) (N := 18) hx hb hts (mc_ inX1) hown hK g rfl 15 (by decide) rfl (hts _ (List.mem_cons_of_mem _ t_751)) (fun _ h9 => h9) 0 rfl dX10_holds_58 ?_
    refine lv_iconst (v := 2) hx hb dX10_holds_61 (by decide) ?_
    have kb_2 : bd 2 2 (2 : Int32) := ⟨by decide, by decide⟩
    refine lv_icmp_ne (tgt := 76) hx hb dX10_holds_62 (by decide) (fun c_12 => ?_) (fun c_12 => ?_)
    · have fc_12 := neq_f c_12
      refine lv_aload_n hx hb dX10_holds_76 rfl (lv_at hl 1 rfl) ?_
      refine lv_aload_n hx hb dX10_holds_77 rfl (lv_at hl 0 rfl) ?_
      refine g_getk (C := RX10) (T := TX10) (N := 10) hx hb hts (mc_ inX10) hown hK g rfl 1 (by decide) rfl (hts _ (List.mem_cons_of_mem _ t_913)) (fun _ h9 => h9) 6 rfl dX10_holds_78 ?_
      refine g_getk (C := RX1) (T := TX1) (N := 18) hx hb hts (mc_ inX1) hown hK g rfl 15 (by decide) rfl (hts _ (List.mem_cons_of_mem _ t_751)) (fun _ h9 => h9) 0 rfl dX10_holds_81 ?_
      refine lv_iconst (v := 4) hx hb dX10_holds_84 (by decide) ?_
      have kb_4 : bd 4 4 (4 : Int32) := ⟨by decide, by decide⟩
      refine lv_icmp_ne (tgt := 92) hx hb dX10_holds_85 (by decide) (fun c_13 => ?_) (fun c_13 => ?_)
      · have fc_13 := neq_f c_13
        refine lv_bipush (v := 7) hx hb dX10_holds_92 (by decide) ?_
        refine lv_iload_n hx hb dX10_holds_94 rfl (lv_at hl 2 rfl) ?_
        refine lv_iload_n hx hb dX10_holds_95 rfl (lv_at hl 3 rfl) ?_
        have go_ := g
        refine g_callv (va_runV (As := [.int 7, .int x2_, .int x3_]) (rest := []) ⟨hx, hb, hml, hown, hts⟩ (r_X4_breakBy l dC dI L kd tys fr_8 H.size g.2.2.2.1 a1_ ma1_ ka1_ 7 x2_ x3_) (cwV 3 hts (gV_ t_1606 t_1607 t_1608 t_197 t_1609) rfl rfl rfl (by decide +kernel) ⟨(Nat.le_of_ble_eq_true rfl), (Nat.le_of_ble_eq_true rfl)⟩) (pre3V g hK ma1_ ka1_ (by decide) (q := (RX4, TX4, 17)) rfl) rfl rfl hl.1 rfl (lv_room (Nat.le_of_ble_eq_true rfl)) dX10_holds_96 ⟨(Nat.le_of_ble_eq_true rfl), (Nat.le_of_ble_eq_true rfl)⟩) g hK (by decide) (by decide) (fx' := [(1, 15, q0_, .int x_10), (1, 12, q0_, .int 0), (1, 5, q0_, .int 1), (4, 16, a1_, .int x_4), (7, 8, a_1, .ref a_2), (10, 0, a0_, .ref a_1), (10, 1, a0_, .ref q0_), (1, 0, q0_, .ref q1_), (1, 1, q0_, .ref q2_), (7, 13, q1_, .int y0_), (4, 6, a1_, .int y1_), (7, 1, q1_, .int y2_), (4, 14, a1_, .int y3_)]) rfl (fun fr_14 H locs hp hMr_14 g => ?_)
        have hG_15 := cOK.frame hMr_14 go_.2.2.2.1 mq1_ kq1_ (by decide) (by decide) hG_9
        refine lv_iconst (v := 0) hx hb dX10_holds_99 (by decide) ?_
        subst hQ
        exact W.zret (v := 0) hx hb hr (nar_z (bd_sub kb_0 (by decide) : bd 0 1 _).1 (bd_sub kb_0 (by decide) : bd 0 1 _).2) (fun t ht hW => ⟨⟨_, _, rfl, Or.inl ⟨rfl, (g.fcts [1, 2] rfl)⟩, q3_of g hK ht hW⟩, g.2.2.1.F ht⟩) g.2.2.1.2.2 dX10_holds_100
      · have fc_13 := eq_f c_13
        have b_16 : bd 4 4 x_10 := eqX fc_13 (bdT x_10) kb_4 (by decide)
        refine lv_iconst (v := 5) hx hb dX10_holds_88 (by decide) ?_
        refine lv_goto (tgt := 94) hx hb dX10_holds_89 (by decide) ?_
        refine lv_iload_n hx hb dX10_holds_94 rfl (lv_at hl 2 rfl) ?_
        refine lv_iload_n hx hb dX10_holds_95 rfl (lv_at hl 3 rfl) ?_
        have go_ := g
        refine g_callv (va_runV (As := [.int 5, .int x2_, .int x3_]) (rest := []) ⟨hx, hb, hml, hown, hts⟩ (r_X4_breakBy l dC dI L kd tys fr_8 H.size g.2.2.2.1 a1_ ma1_ ka1_ 5 x2_ x3_) (cwV 3 hts (gV_ t_1606 t_1607 t_1608 t_197 t_1609) rfl rfl rfl (by decide +kernel) ⟨(Nat.le_of_ble_eq_true rfl), (Nat.le_of_ble_eq_true rfl)⟩) (pre3V g hK ma1_ ka1_ (by decide) (q := (RX4, TX4, 17)) rfl) rfl rfl hl.1 rfl (lv_room (Nat.le_of_ble_eq_true rfl)) dX10_holds_96 ⟨(Nat.le_of_ble_eq_true rfl), (Nat.le_of_ble_eq_true rfl)⟩) g hK (by decide) (by decide) (fx' := [(1, 15, q0_, .int x_10), (1, 12, q0_, .int 0), (1, 5, q0_, .int 1), (4, 16, a1_, .int x_4), (7, 8, a_1, .ref a_2), (10, 0, a0_, .ref a_1), (10, 1, a0_, .ref q0_), (1, 0, q0_, .ref q1_), (1, 1, q0_, .ref q2_), (7, 13, q1_, .int y0_), (4, 6, a1_, .int y1_), (7, 1, q1_, .int y2_), (4, 14, a1_, .int y3_)]) rfl (fun fr_17 H locs hp hMr_17 g => ?_)
        have hG_18 := cOK.frame hMr_17 go_.2.2.2.1 mq1_ kq1_ (by decide) (by decide) hG_9
        refine lv_iconst (v := 0) hx hb dX10_holds_99 (by decide) ?_
        subst hQ
        exact W.zret (v := 0) hx hb hr (nar_z (bd_sub kb_0 (by decide) : bd 0 1 _).1 (bd_sub kb_0 (by decide) : bd 0 1 _).2) (fun t ht hW => ⟨⟨_, _, rfl, Or.inl ⟨rfl, (g.fcts [1, 2] rfl)⟩, q3_of g hK ht hW⟩, g.2.2.1.F ht⟩) g.2.2.1.2.2 dX10_holds_100
    · have fc_12 := eq_f c_12
      have b_19 : bd 2 2 x_10 := eqX fc_12 (bdT x_10) kb_2 (by decide)
      refine lv_aload_n hx hb dX10_holds_65 rfl (lv_at hl 1 rfl) ?_
      refine lv_aload_n hx hb dX10_holds_66 rfl (lv_at hl 0 rfl) ?_
      refine g_getk (C := RX10) (T := TX10) (N := 10) hx hb hts (mc_ inX10) hown hK g rfl 1 (by decide) rfl (hts _ (List.mem_cons_of_mem _ t_913)) (fun _ h9 => h9) 6 rfl dX10_holds_67 ?_
      refine g_getl (C := RX1) (T := TX1) (N := 18) hx hb hts (mc_ inX1) hown hK g mq0_ kq0_ (by decide) rfl 17 (by decide) rfl (hts _ (List.mem_cons_of_mem _ t_755)) (fun _ h9 => h9) rfl dX10_holds_70 (fun x_20 g => ?_)
      have go_ := g
      refine g_put (C := RX4) (T := TX4) (N := 17) hx hb hts (mc_ inX4) tyX4 tyX4_ok nmX4 hown hK g ma1_ ka1_ (by decide) rfl 5 (by decide) (hts _ (List.mem_cons_of_mem _ t_848)) (fun _ h9 => h9) rfl rfl okV_l rfl rfl (by decide) (Or.inr (Or.inl (by decide))) (fx' := [(1, 17, q0_, .long x_20), (1, 15, q0_, .int x_10), (1, 12, q0_, .int 0), (1, 5, q0_, .int 1), (4, 16, a1_, .int x_4), (7, 8, a_1, .ref a_2), (10, 0, a0_, .ref a_1), (10, 1, a0_, .ref q0_), (1, 0, q0_, .ref q1_), (1, 1, q0_, .ref q2_), (7, 13, q1_, .int y0_), (4, 6, a1_, .int y1_), (7, 1, q1_, .int y2_), (4, 14, a1_, .int y3_), (4, 0, a1_, .int y4_)]) rfl dX10_holds_73 (fun f H locs hM_21 g => ?_)
      have hG_22 := cOK.frame hM_21 go_.2.2.2.1 mq1_ kq1_ (by decide) (by decide) hG_9
      refine lv_aload_n hx hb dX10_holds_76 rfl (lv_at hl 1 rfl) ?_
      refine lv_aload_n hx hb dX10_holds_77 rfl (lv_at hl 0 rfl) ?_
      refine g_getk (C := RX10) (T := TX10) (N := 10) hx hb hts (mc_ inX10) hown hK g rfl 1 (by decide) rfl (hts _ (List.mem_cons_of_mem _ t_913)) (fun _ h9 => h9) 8 rfl dX10_holds_78 ?_
      refine g_getk (C := RX1) (T := TX1) (N := 18) hx hb hts (mc_ inX1) hown hK g rfl 15 (by decide) rfl (hts _ (List.mem_cons_of_mem _ t_751)) (fun _ h9 => h9) 2 rfl dX10_holds_81 ?_
      refine lv_iconst (v := 4) hx hb dX10_holds_84 (by decide) ?_
      have kb_4 : bd 4 4 (4 : Int32) := ⟨by decide, by decide⟩
      refine lv_icmp_ne (tgt := 92) hx hb dX10_holds_85 (by decide) (fun c_23 => ?_) (fun c_23 => ?_)
      · have fc_23 := neq_f c_23
        refine lv_bipush (v := 7) hx hb dX10_holds_92 (by decide) ?_
        refine lv_iload_n hx hb dX10_holds_94 rfl (lv_at hl 2 rfl) ?_
        refine lv_iload_n hx hb dX10_holds_95 rfl (lv_at hl 3 rfl) ?_
        have go_ := g
        refine g_callv (va_runV (As := [.int 7, .int x2_, .int x3_]) (rest := []) ⟨hx, hb, hml, hown, hts⟩ (r_X4_breakBy l dC dI L kd tys f H.size g.2.2.2.1 a1_ ma1_ ka1_ 7 x2_ x3_) (cwV 3 hts (gV_ t_1606 t_1607 t_1608 t_197 t_1609) rfl rfl rfl (by decide +kernel) ⟨(Nat.le_of_ble_eq_true rfl), (Nat.le_of_ble_eq_true rfl)⟩) (pre3V g hK ma1_ ka1_ (by decide) (q := (RX4, TX4, 17)) rfl) rfl rfl hl.1 rfl (lv_room (Nat.le_of_ble_eq_true rfl)) dX10_holds_96 ⟨(Nat.le_of_ble_eq_true rfl), (Nat.le_of_ble_eq_true rfl)⟩) g hK (by decide) (by decide) (fx' := [(4, 5, a1_, .long x_20), (1, 17, q0_, .long x_20), (1, 15, q0_, .int x_10), (1, 12, q0_, .int 0), (1, 5, q0_, .int 1), (4, 16, a1_, .int x_4), (7, 8, a_1, .ref a_2), (10, 0, a0_, .ref a_1), (10, 1, a0_, .ref q0_), (1, 0, q0_, .ref q1_), (1, 1, q0_, .ref q2_), (7, 13, q1_, .int y0_), (4, 6, a1_, .int y1_), (7, 1, q1_, .int y2_), (4, 14, a1_, .int y3_)]) rfl (fun fr_24 H locs hp hMr_24 g => ?_)
        have hG_25 := cOK.frame hMr_24 go_.2.2.2.1 mq1_ kq1_ (by decide) (by decide) hG_22
        refine lv_iconst (v := 0) hx hb dX10_holds_99 (by decide) ?_
        subst hQ
        exact W.zret (v := 0) hx hb hr (nar_z (bd_sub kb_0 (by decide) : bd 0 1 _).1 (bd_sub kb_0 (by decide) : bd 0 1 _).2) (fun t ht hW => ⟨⟨_, _, rfl, Or.inl ⟨rfl, (g.fcts [3, 4] rfl)⟩, q3_of g hK ht hW⟩, g.2.2.1.F ht⟩) g.2.2.1.2.2 dX10_holds_100
      · have fc_23 := eq_f c_23
        have b_26 : bd 4 2 x_10 := eqX fc_23 b_19 kb_4 (by decide)
        exact bd_no b_26 (by decide)
  · have fc_11 := eq_f c_11
    have b_27 : bd 1 1 x_10 := eqX fc_11 (bdT x_10) kb_1 (by decide)
    refine lv_aload_n hx hb dX10_holds_38 rfl (lv_at hl 0 rfl) ?_
    refine g_getk (C := RX10) (T := TX10) (N := 10) hx hb hts (mc_ inX10) hown hK g rfl 1 (by decide) rfl (hts _ (List.mem_cons_of_mem _ t_913)) (fun _ h9 => h9) 6 rfl dX10_holds_39 ?_
    refine g_geti (C := RX1) (T := TX1) (N := 18) hx hb hts (mc_ inX1) hown hK g mq0_ kq0_ (by decide) rfl 16 (by decide) rfl (hts _ (List.mem_cons_of_mem _ t_753)) (fun _ h9 => h9) rfl dX10_holds_42 (fun x_28 bx_28 g => ?_)
    refine lv_if_eq (tgt := 52) hx hb dX10_holds_45 (by decide) (fun c_29 => ?_) (fun c_29 => ?_)
    · have fc_29 := eq_f c_29
      have b_30 : bd 0 0 x_28 := eqX fc_29 (bdT x_28) kb_0 (by decide)
      refine lv_iconst (v := 0) hx hb dX10_holds_52 (by decide) ?_
      subst hQ
      exact W.zret (v := 0) hx hb hr (nar_z (bd_sub kb_0 (by decide) : bd 0 1 _).1 (bd_sub kb_0 (by decide) : bd 0 1 _).2) (fun t ht hW => ⟨⟨_, _, rfl, Or.inl ⟨rfl, (g.fcts [2, 3] rfl)⟩, q3_of g hK ht hW⟩, g.2.2.1.F ht⟩) g.2.2.1.2.2 dX10_holds_53
    · have fc_29 := neq_f c_29
      refine lv_iconst (v := 1) hx hb dX10_holds_48 (by decide) ?_
      refine lv_goto (tgt := 53) hx hb dX10_holds_49 (by decide) ?_
      subst hQ
      exact W.zret (v := 1) hx hb hr (nar_z (bd_sub kb_1 (by decide) : bd 0 1 _).1 (bd_sub kb_1 (by decide) : bd 0 1 _).2) (fun t ht hW => ⟨⟨_, _, rfl, Or.inr (⟨rfl, x_10, b_27, y4_, by4_, (g.fcts [1, 2, 3, 14] rfl)⟩), q3_of g hK ht hW⟩, g.2.2.1.F ht⟩) g.2.2.1.2.2 dX10_holds_53
set_option maxHeartbeats 4000000 in
set_option maxRecDepth 100000 in
theorem r_X10_askKept_6 (l : Launch) (dC : Nat → ClassId) (dI : Nat → Nat → Nat) (L : List Nat) (kd : Nat → Nat) (tys : List (ClassId × FieldType)) (f0 : Nat → va_E) (sz : Nat) (hWT : WT L kd tys f0) (a0_ : Nat) (ma0_ : a0_ ∈ L) (ka0_ : kd a0_ = 10) (a1_ : Nat) (ma1_ : a1_ ∈ L) (ka1_ : kd a1_ = 4) (x2_ : Int32) (bx2_ : bd 0 2 x2_) (q0_ : Nat) (mq0_ : q0_ ∈ L) (kq0_ : kd q0_ = 7) (q1_ : Nat) (mq1_ : q1_ ∈ L) (kq1_ : kd q1_ = 1) (y0_ : Int32) (by0_ : bd 1 3 y0_) (y1_ : Int32) (by1_ : bd 1 8 y1_) (y2_ : Int32) (by2_ : bd 0 9 y2_) (y3_ : Int32) (by3_ : bd 0 0 y3_) (hGq0_ : cOK f0 q0_) (hfx : Fs L kd f0 [(10, 0, a0_, .ref q0_), (10, 1, a0_, .ref q1_), (4, 6, a1_, .int y0_), (7, 1, q0_, .int y1_), (4, 14, a1_, .int y2_), (4, 0, a1_, .int y3_)]) : Met l yX10_askKept (.code yX10_askKept cX10_askKept 8 none :: lw_g) ({ frames := 3, cells := 0, slots := 0, locals := 73 }) (va_Pc [.ref a0_, .ref a1_, .int x2_] (P3 (dC, dI) L tys f0 sz)) (va_Qv (fun (f : Nat → va_E) => (∃ z0_ : Nat, (z0_ ∈ L ∧ kd z0_ = 101) ∧ ∃ z1_ : Nat, (z1_ ∈ L ∧ kd z1_ = 101) ∧ ∃ z2_ : Nat, (z2_ ∈ L ∧ kd z2_ = 101) ∧ ∃ z3_ : Nat, (z3_ ∈ L ∧ kd z3_ = 9) ∧ Fs L kd f [(1, 4, q1_, .ref z0_), (1, 3, q1_, .ref z1_), (1, 2, q1_, .ref z2_), (1, 1, q1_, .ref z3_), (1, 0, q1_, .ref q0_)])) (Q3 (dC, dI) L kd tys [(1, 0), (1, 1), (1, 2), (1, 3), (1, 4), (1, 5), (1, 6), (1, 8), (1, 11), (1, 12), (1, 13), (1, 14), (1, 15), (1, 16), (1, 17), (4, 0), (4, 1), (4, 2), (4, 5)] [100, 116, 117, 146] f0 sz) (pA L sz)) 0 0 (pA L sz) := by
  refine Met.ofW (cc := cX10_askKept) (maxL := 8) (ret := none) (by decide) rfl ?_
  intro p e s m args below meth c s₁ B hml hv
  obtain ⟨rfl, hsz, hP, hK, hD0⟩ := hv
  have hx := B.exec
  have hb := B.bytes
  have hr := B.returns
  have hts := atoms_spec (ws := (.code yX10_askKept cX10_askKept 8 none :: lw_g)) B.pre
  have hown : s.vm.findClass RX10 = some m.cls := findClass_of_methodNamed B.named
  have hlocks := B.notSynchronized
  subst hsz
  have g : G3 (dC, dI) L kd tys s f0 [(1, 0), (1, 1), (1, 2), (1, 3), (1, 4), (1, 5), (1, 6), (1, 8), (1, 11), (1, 12), (1, 13), (1, 14), (1, 15), (1, 16), (1, 17), (4, 0), (4, 1), (4, 2), (4, 5)] [100, 116, 117, 146] f0 s.heap [] [(10, 0, a0_, .ref q0_), (10, 1, a0_, .ref q1_), (4, 6, a1_, .int y0_), (7, 1, q0_, .int y1_), (4, 14, a1_, .int y2_), (4, 0, a1_, .int y3_)] := G3.start hP hD0 hWT hfx
  have hl := lv_entry ([.ref a0_, .ref a1_, .int x2_]) (n := 8) (Nat.le_of_ble_eq_true rfl)
  rw [lg_entry_eq]
  generalize (lg_sl ([.ref a0_, .ref a1_, .int x2_]) ++ List.replicate (8 - (lg_sl ([.ref a0_, .ref a1_, .int x2_])).length) Slot.unset).toArray = ls at hl ⊢
  have hl : lv_has ls 8 [(0, .ref a0_), (1, .ref a1_), (2, .int x2_)] := hl
  refine W_q (fun Q hQ => ?_)
  refine lv_aload_n hx hb dX10_askKept_0 rfl (lv_at hl 1 rfl) ?_
  refine g_getk (C := RX4) (T := TX4) (N := 17) hx hb hts (mc_ inX4) hown hK g rfl 0 (by decide) rfl (hts _ (List.mem_cons_of_mem _ t_837)) (fun _ h9 => h9) 5 rfl dX10_askKept_1 ?_
  have kb_0 : bd 0 0 (0 : Int32) := ⟨by decide, by decide⟩
  refine lv_if_eq (tgt := 8) hx hb dX10_askKept_4 (by decide) (fun c_1 => ?_) (fun c_1 => ?_)
  · have fc_1 := eq_f c_1
    refine lv_aload_n hx hb dX10_askKept_8 rfl (lv_at hl 1 rfl) ?_
    refine g_getr (K := 126) (C := RX4) (T := TX4) (N := 17) hx hb hts (mc_ inX4) hown hK g ma1_ ka1_ (by decide) rfl 7 (by decide) rfl (hts _ (List.mem_cons_of_mem _ t_854)) (fun _ h9 => h9) rfl dX10_askKept_9 (fun a_2 ma_2 ka_2 g => ?_)
    refine lv_iload_n hx hb dX10_askKept_12 rfl (lv_at hl 2 rfl) ?_
    refine g_iald hx hb hK g ma_2 ka_2 (by decide) rfl (in_bd bx2_ (by decide)) dX10_askKept_13 (fun x_3 bx_3 cx_3 => ?_)
    refine lv_istore_n (lv' := [(3, .int x_3), (0, .ref a0_), (1, .ref a1_), (2, .int x2_)]) hx hb dX10_askKept_14 rfl hl (by decide) rfl (fun ls hl => ?_)
    refine lv_aload_n hx hb dX10_askKept_15 rfl (lv_at hl 2 rfl) ?_
    refine g_getr (K := 128) (C := RX4) (T := TX4) (N := 17) hx hb hts (mc_ inX4) hown hK g ma1_ ka1_ (by decide) rfl 9 (by decide) rfl (hts _ (List.mem_cons_of_mem _ t_860)) (fun _ h9 => h9) rfl dX10_askKept_16 (fun a_4 ma_4 ka_4 g => ?_)
    refine lv_iload_n hx hb dX10_askKept_19 rfl (lv_at hl 3 rfl) ?_
    refine g_aald hx hb hK g ma_4 ka_4 (by decide) rfl (by decide) (in_bd bx2_ (by decide)) dX10_askKept_20 (fun a_5 ma_5 ua_5 wa_5 => ?_)
    have ka_5 : kd a_5 = 101 := by omega
    refine lv_astore (lv' := [(4, .ref a_5), (3, .int x_3), (0, .ref a0_), (1, .ref a1_), (2, .int x2_)]) hx hb dX10_askKept_21 hl (by decide) rfl (fun ls hl => ?_)
    refine lv_aload_n hx hb dX10_askKept_23 rfl (lv_at hl 2 rfl) ?_
    refine g_getk (C := RX10) (T := TX10) (N := 10) hx hb hts (mc_ inX10) hown hK g rfl 1 (by decide) rfl (hts _ (List.mem_cons_of_mem _ t_913)) (fun _ h9 => h9) 3 rfl dX10_askKept_24 ?_
    refine lv_aload_n hx hb dX10_askKept_27 rfl (lv_at hl 2 rfl) ?_
    refine g_getk (C := RX10) (T := TX10) (N := 10) hx hb hts (mc_ inX10) hown hK g rfl 0 (by decide) rfl (hts _ (List.mem_cons_of_mem _ t_912)) (fun _ h9 => h9) 2 rfl dX10_askKept_28 ?_
    refine lv_aload_n hx hb dX10_askKept_31 rfl (lv_at hl 2 rfl) ?_
    refine g_getk (C := RX10) (T := TX10) (N := 10) hx hb hts (mc_ inX10) hown hK g rfl 0 (by decide) rfl (hts _ (List.mem_cons_of_mem _ t_912)) (fun _ h9 => h9) 2 rfl dX10_askKept_32 ?_
    refine g_getr (K := 136) (C := RX7) (T := TX7) (N := 19) hx hb hts (mc_ inX7) hown hK g mq0_ kq0_ (by decide) rfl 0 (by decide) rfl (hts _ (List.mem_cons_of_mem _ t_624)) (fun _ h9 => h9) rfl dX10_askKept_35 (fun a_6 ma_6 ka_6 g => ?_)
    refine lv_iload_n hx hb dX10_askKept_38 rfl (lv_at hl 1 rfl) ?_
    refine g_aald hx hb hK g ma_6 ka_6 (by decide) rfl (by decide) (in_bd bx_3 (by decide)) dX10_askKept_39 (fun a_7 ma_7 ua_7 wa_7 => ?_)
    have ka_7 : kd a_7 = 9 := by omega
    refine lv_aload hx hb dX10_askKept_40 (lv_at hl 0 rfl) ?_
    refine lv_aload hx hb dX10_askKept_42 (lv_at hl 0 rfl) ?_
    refine lv_aload hx hb dX10_askKept_44 (lv_at hl 0 rfl) ?_
    have go_ := g
    refine g_callv (va_runV (As := [.ref q0_, .ref a_7, .ref a_5, .ref a_5, .ref a_5]) (rest := []) ⟨hx, hb, hml, hown, hts⟩ (r_X1_standOn l dC dI L kd tys f0 s.heap.size g.2.2.2.1 q1_ mq1_ kq1_ q0_ mq0_ kq0_ a_7 ma_7 ka_7 a_5 ma_5 ka_5 a_5 ma_5 ka_5 a_5 ma_5 ka_5) (cwV 5 hts (gV_ t_1543 t_1544 t_1545 t_195 t_1546) rfl rfl rfl (by decide +kernel) ⟨(Nat.le_of_ble_eq_true rfl), (Nat.le_of_ble_eq_true rfl)⟩) (pre3V g hK mq1_ kq1_ (by decide) (q := (RX1, TX1, 18)) rfl) rfl rfl hl.1 rfl (lv_room (Nat.le_of_ble_eq_true rfl)) dX10_askKept_46 ⟨(Nat.le_of_ble_eq_true rfl), (Nat.le_of_ble_eq_true rfl)⟩) g hK (by decide) (by decide) (fx' := [(7, 0, q0_, .ref a_6), (4, 9, a1_, .ref a_4), (4, 7, a1_, .ref a_2), (10, 0, a0_, .ref q0_), (10, 1, a0_, .ref q1_), (4, 6, a1_, .int y0_), (7, 1, q0_, .int y1_), (4, 14, a1_, .int y2_), (4, 0, a1_, .int y3_)]) rfl (fun fr_8 H locs hp hMr_8 g => ?_)
    have hG_9 := cOK.frame hMr_8 go_.2.2.2.1 mq0_ kq0_ (by decide) (by decide) hGq0_
    have hF_10 := hp
    have g := g.more hF_10
    refine lv_iconst (v := 0) hx hb dX10_askKept_49 (by decide) ?_
    refine lv_istore (lv' := [(5, .int 0), (4, .ref a_5), (3, .int x_3), (0, .ref a0_), (1, .ref a1_), (2, .int x2_)]) hx hb dX10_askKept_50 hl (by decide) rfl (fun ls hl => ?_)
    have loop_11 : ∀ (n : Nat) (v52_5 : Int32) (v52_3 : Int32) (w52_4_0_a1_ : Int32), bd 0 8 v52_5 → bd 0 0 w52_4_0_a1_ → (8 - v52_5.toInt < (n : Int)) → ∀ (f : Nat → va_E) (H : Heap) (locs : List Loc) (ls : Array Slot), G3 (dC, dI) L kd tys s f0 [(1, 0), (1, 1), (1, 2), (1, 3), (1, 4), (1, 5), (1, 6), (1, 8), (1, 11), (1, 12), (1, 13), (1, 14), (1, 15), (1, 16), (1, 17), (4, 0), (4, 1), (4, 2), (4, 5)] [100, 116, 117, 146] f H locs [(1, 4, q1_, .ref a_5), (1, 3, q1_, .ref a_5), (1, 2, q1_, .ref a_5), (1, 1, q1_, .ref a_7), (1, 0, q1_, .ref q0_), (7, 0, q0_, .ref a_6), (4, 9, a1_, .ref a_4), (4, 7, a1_, .ref a_2), (10, 0, a0_, .ref q0_), (10, 1, a0_, .ref q1_), (4, 6, a1_, .int y0_), (7, 1, q0_, .int y1_), (4, 14, a1_, .int y2_), (4, 0, a1_, .int w52_4_0_a1_)] → cOK f q0_ → lv_has ls 8 [(5, .int v52_5), (4, .ref a_5), (3, .int v52_3), (0, .ref a0_), (1, .ref a1_), (2, .int x2_)] → W p l e ({ frames := 3, cells := 0, slots := 0, locals := 73 } : Room) s m [.ref a0_, .ref a1_, .int x2_].toArray below meth c H locs 0 0 Q (F0 m 52 ls []) := by
      intro n52
      induction n52 with
      | zero =>
        intro v52_5 v52_3 w52_4_0_a1_ bv52_5  bw52_4_0_a1_ hm52 f H locs ls g hG52_q0_ hl
        exact absurd hm52 (by have h9_v52_5 := bv52_5; unfold bd at h9_v52_5; have h9_v52_3 := bdT v52_3; unfold bd at h9_v52_3; have h9_w52_4_0_a1_ := bw52_4_0_a1_; unfold bd at h9_w52_4_0_a1_; omega)
      | succ n52 ih52 =>
        intro v52_5 v52_3 w52_4_0_a1_ bv52_5  bw52_4_0_a1_ hm52 f H locs ls g hG52_q0_ hl
        refine lv_iload hx hb dX10_askKept_52 (lv_at hl 0 rfl) ?_
        refine lv_bipush (v := 8) hx hb dX10_askKept_54 (by decide) ?_
        have kb_8 : bd 8 8 (8 : Int32) := ⟨by decide, by decide⟩
        refine lv_icmp_ge (tgt := 168) hx hb dX10_askKept_56 (by decide) (fun c_12 => ?_) (fun c_12 => ?_)
        · have fc_12 := le_f c_12
          have b_13 : bd 8 8 v52_5 := leR fc_12 kb_8 bv52_5 (by decide)
          subst hQ
          exact W.vret hx hb hr (fun t ht hW => ⟨⟨_, rfl, ⟨a_5, ⟨ma_5, ka_5⟩, a_5, ⟨ma_5, ka_5⟩, a_5, ⟨ma_5, ka_5⟩, a_7, ⟨ma_7, ka_7⟩, (g.fcts [0, 1, 2, 3, 4] rfl)⟩, q3_of g hK ht hW⟩, g.2.2.1.F ht⟩) g.2.2.1.2.2 dX10_askKept_168
        · have fc_12 := nle_f c_12
          have b_14 : bd 0 7 v52_5 := ltL fc_12 bv52_5 kb_8 (by decide)
          refine lv_aload_n hx hb dX10_askKept_59 rfl (lv_at hl 3 rfl) ?_
          refine g_getk (C := RX10) (T := TX10) (N := 10) hx hb hts (mc_ inX10) hown hK g rfl 0 (by decide) rfl (hts _ (List.mem_cons_of_mem _ t_912)) (fun _ h9 => h9) 8 rfl dX10_askKept_60 ?_
          refine lv_iload_n hx hb dX10_askKept_63 rfl (lv_at hl 2 rfl) ?_
          have go_ := g
          refine g_calli (va_runV (As := [.int v52_3]) (rest := []) ⟨hx, hb, hml, hown, hts⟩ (r_X7_hasClass l dC dI L kd tys f H.size g.2.2.2.1 q0_ mq0_ kq0_ v52_3) (cwV 1 hts (gV_ t_1534 t_1281 t_1282 t_191 t_1283) rfl rfl rfl (by decide +kernel) ⟨(Nat.le_of_ble_eq_true rfl), (Nat.le_of_ble_eq_true rfl)⟩) (pre3V g hK mq0_ kq0_ (by decide) (q := (RX7, TX7, 19)) rfl) rfl rfl hl.1 rfl (lv_room (Nat.le_of_ble_eq_true rfl)) dX10_askKept_64 ⟨(Nat.le_of_ble_eq_true rfl), (Nat.le_of_ble_eq_true rfl)⟩) g hK (by decide) (by decide) (fx' := [(1, 4, q1_, .ref a_5), (1, 3, q1_, .ref a_5), (1, 2, q1_, .ref a_5), (1, 1, q1_, .ref a_7), (1, 0, q1_, .ref q0_), (7, 0, q0_, .ref a_6), (4, 9, a1_, .ref a_4), (4, 7, a1_, .ref a_2), (10, 0, a0_, .ref q0_), (10, 1, a0_, .ref q1_), (4, 6, a1_, .int y0_), (7, 1, q0_, .int y1_), (4, 14, a1_, .int y2_), (4, 0, a1_, .int w52_4_0_a1_)]) rfl (fun r_15 fr_15 H locs hp hMr_15 g => ?_)
          have hG_16 := cOK.frame hMr_15 go_.2.2.2.1 mq0_ kq0_ (by decide) (by decide) hG52_q0_
          rcases hp with ⟨h_17, -⟩ | ⟨h_18, h_19, x_20, h_21, hF_22⟩
          · obtain rfl : r_15 = 0 := h_17
            refine lv_if_eq (tgt := 168) hx hb dX10_askKept_67 (by decide) (fun c_ => ?_) (fun c_ => absurd (by decide) c_)
            subst hQ
            exact W.vret hx hb hr (fun t ht hW => ⟨⟨_, rfl, ⟨a_5, ⟨ma_5, ka_5⟩, a_5, ⟨ma_5, ka_5⟩, a_5, ⟨ma_5, ka_5⟩, a_7, ⟨ma_7, ka_7⟩, (g.fcts [0, 1, 2, 3, 4] rfl)⟩, q3_of g hK ht hW⟩, g.2.2.1.F ht⟩) g.2.2.1.2.2 dX10_askKept_168
          · obtain rfl : r_15 = 1 := h_18
            have b_23 : bd 0 7 v52_3 := eqX rfl (bdT v52_3) h_19 (by decide)
            have g := g.more hF_22
            have e_24 := fx_same g 12 0 rfl rfl
            have g := g.sub (fx' := [(1, 4, q1_, .ref a_5), (1, 3, q1_, .ref a_5), (1, 2, q1_, .ref a_5), (1, 1, q1_, .ref a_7), (1, 0, q1_, .ref q0_), (7, 0, q0_, .ref a_6), (4, 9, a1_, .ref a_4), (4, 7, a1_, .ref a_2), (10, 0, a0_, .ref q0_), (10, 1, a0_, .ref q1_), (4, 6, a1_, .int y0_), (7, 1, q0_, .int y1_), (4, 14, a1_, .int y2_), (4, 0, a1_, .int w52_4_0_a1_)]) [1, 2, 3, 4, 5, 6, 7, 8, 9, 10, 11, 12, 13, 14] rfl
            refine lv_if_eq (tgt := 168) hx hb dX10_askKept_67 (by decide) (fun c_ => absurd c_ (by decide)) (fun c_ => ?_)
            refine lv_aload_n hx hb dX10_askKept_70 rfl (lv_at hl 3 rfl) ?_
            refine g_getk (C := RX10) (T := TX10) (N := 10) hx hb hts (mc_ inX10) hown hK g rfl 0 (by decide) rfl (hts _ (List.mem_cons_of_mem _ t_912)) (fun _ h9 => h9) 8 rfl dX10_askKept_71 ?_
            refine g_getk (C := RX7) (T := TX7) (N := 19) hx hb hts (mc_ inX7) hown hK g rfl 0 (by decide) rfl (hts _ (List.mem_cons_of_mem _ t_624)) (fun _ h9 => h9) 5 rfl dX10_askKept_74 ?_
            refine lv_iload_n hx hb dX10_askKept_77 rfl (lv_at hl 2 rfl) ?_
            refine g_aald hx hb hK g ma_6 ka_6 (by decide) rfl (by decide) (in_bd b_23 (by decide)) dX10_askKept_78 (fun a_25 ma_25 ua_25 wa_25 => ?_)
            have ka_25 : kd a_25 = 9 := by omega
            refine lv_astore (lv' := [(6, .ref a_25), (5, .int v52_5), (4, .ref a_5), (3, .int v52_3), (0, .ref a0_), (1, .ref a1_), (2, .int x2_)]) hx hb dX10_askKept_79 hl (by decide) rfl (fun ls hl => ?_)
            refine lv_aload hx hb dX10_askKept_81 (lv_at hl 0 rfl) ?_
            refine g_geti (C := RX9) (T := TX9) (N := 13) hx hb hts (mc_ inX9) hown hK g ma_25 ka_25 (by decide) rfl 10 (by decide) rfl (hts _ (List.mem_cons_of_mem _ t_513)) (fun _ h9 => h9) rfl dX10_askKept_83 (fun x_26 bx_26 g => ?_)
            refine lv_istore (lv' := [(7, .int x_26), (6, .ref a_25), (5, .int v52_5), (4, .ref a_5), (3, .int v52_3), (0, .ref a0_), (1, .ref a1_), (2, .int x2_)]) hx hb dX10_askKept_86 hl (by decide) rfl (fun ls hl => ?_)
            have loop_27 : ∀ (n : Nat) (v88_7 : Int32) (w88_4_0_a1_ : Int32), bd 0 500 v88_7 → bd 0 0 w88_4_0_a1_ → (500 - v88_7.toInt < (n : Int)) → ∀ (f : Nat → va_E) (H : Heap) (locs : List Loc) (ls : Array Slot), G3 (dC, dI) L kd tys s f0 [(1, 0), (1, 1), (1, 2), (1, 3), (1, 4), (1, 5), (1, 6), (1, 8), (1, 11), (1, 12), (1, 13), (1, 14), (1, 15), (1, 16), (1, 17), (4, 0), (4, 1), (4, 2), (4, 5)] [100, 116, 117, 146] f H locs [(9, 10, a_25, .int x_26), (1, 4, q1_, .ref a_5), (1, 3, q1_, .ref a_5), (1, 2, q1_, .ref a_5), (1, 1, q1_, .ref a_7), (1, 0, q1_, .ref q0_), (7, 0, q0_, .ref a_6), (4, 9, a1_, .ref a_4), (4, 7, a1_, .ref a_2), (10, 0, a0_, .ref q0_), (10, 1, a0_, .ref q1_), (4, 6, a1_, .int y0_), (7, 1, q0_, .int y1_), (4, 14, a1_, .int y2_), (4, 0, a1_, .int w88_4_0_a1_)] → cOK f q0_ → lv_has ls 8 [(7, .int v88_7), (6, .ref a_25), (5, .int v52_5), (4, .ref a_5), (3, .int v52_3), (0, .ref a0_), (1, .ref a1_), (2, .int x2_)] → W p l e ({ frames := 3, cells := 0, slots := 0, locals := 73 } : Room) s m [.ref a0_, .ref a1_, .int x2_].toArray below meth c H locs 0 0 Q (F0 m 88 ls []) := by
              intro n88
              induction n88 with
              | zero =>
                intro v88_7 w88_4_0_a1_ bv88_7 bw88_4_0_a1_ hm88 f H locs ls g hG88_q0_ hl
                exact absurd hm88 (by have h9_v88_7 := bv88_7; unfold bd at h9_v88_7; have h9_w88_4_0_a1_ := bw88_4_0_a1_; unfold bd at h9_w88_4_0_a1_; omega)
              | succ n88 ih88 =>
                intro v88_7 w88_4_0_a1_ bv88_7 bw88_4_0_a1_ hm88 f H locs ls g hG88_q0_ hl
                refine lv_iload hx hb dX10_askKept_88 (lv_at hl 0 rfl) ?_
                refine lv_aload hx hb dX10_askKept_90 (lv_at hl 1 rfl) ?_
                refine g_getk (C := RX9) (T := TX9) (N := 13) hx hb hts (mc_ inX9) hown hK g rfl 10 (by decide) rfl (hts _ (List.mem_cons_of_mem _ t_513)) (fun _ h9 => h9) 0 rfl dX10_askKept_92 ?_
                refine lv_aload hx hb dX10_askKept_95 (lv_at hl 1 rfl) ?_
                refine g_geti (C := RX9) (T := TX9) (N := 13) hx hb hts (mc_ inX9) hown hK g ma_25 ka_25 (by decide) rfl 11 (by decide) rfl (hts _ (List.mem_cons_of_mem _ t_517)) (fun _ h9 => h9) rfl dX10_askKept_97 (fun x_28 bx_28 g => ?_)
                refine lv_iadd hx hb dX10_askKept_100 ?_
                refine lv_topi (fun y_29 ey_29 => ?_)
                refine lv_icmp_ge (tgt := 156) hx hb dX10_askKept_101 (by decide) (fun c_30 => ?_) (fun c_30 => ?_)
                · have fc_30 := le_f c_30
                  have b_31 : bd (-2147483648) 500 y_29 := leL fc_30 (bdT y_29) bv88_7 (by decide)
                  refine lv_aload hx hb dX10_askKept_156 (lv_at hl 1 rfl) ?_
                  refine g_geti (C := RX9) (T := TX9) (N := 13) hx hb hts (mc_ inX9) hown hK g ma_25 ka_25 (by decide) rfl 1 (by decide) rfl (hts _ (List.mem_cons_of_mem _ t_483)) (fun _ h9 => h9) rfl dX10_askKept_158 (fun x_32 bx_32 g => ?_)
                  refine lv_istore_n (lv' := [(3, .int x_32), (7, .int v88_7), (6, .ref a_25), (5, .int v52_5), (4, .ref a_5), (0, .ref a0_), (1, .ref a1_), (2, .int x2_)]) hx hb dX10_askKept_161 rfl hl (by decide) rfl (fun ls hl => ?_)
                  have kb_1 : bd 1 1 (1 : Int32) := ⟨by decide, by decide⟩
                  obtain ⟨y_33, ey_33⟩ : ∃ z : Int32, z = v52_5 + 1 := ⟨_, rfl⟩
                  refine lv_iinc (v := y_33) (lv' := [(5, .int y_33), (3, .int x_32), (7, .int v88_7), (6, .ref a_25), (4, .ref a_5), (0, .ref a0_), (1, .ref a1_), (2, .int x2_)]) hx hb dX10_askKept_162 hl (k := 3) rfl (by rw [ey_33]; rfl) (by decide) rfl (fun ls hl => ?_)
                  have ty_33 := add_bd ey_33 b_14 kb_1 (by decide)
                  have b_34 : bd 1 8 y_33 := add_rg ty_33 b_14 kb_1 (by decide)
                  refine lv_goto (tgt := 52) hx hb dX10_askKept_165 (by decide) ?_
                  have hl9 := lv_sub hl [0, 4, 1, 5, 6, 7] (by rfl : lv_pick [(5, .int y_33), (3, .int x_32), (7, .int v88_7), (6, .ref a_25), (4, .ref a_5), (0, .ref a0_), (1, .ref a1_), (2, .int x2_)] [0, 4, 1, 5, 6, 7] = [(5, .int y_33), (4, .ref a_5), (3, .int x_32), (0, .ref a0_), (1, .ref a1_), (2, .int x2_)])
                  have g9 := g.sub (fx' := [(1, 4, q1_, .ref a_5), (1, 3, q1_, .ref a_5), (1, 2, q1_, .ref a_5), (1, 1, q1_, .ref a_7), (1, 0, q1_, .ref q0_), (7, 0, q0_, .ref a_6), (4, 9, a1_, .ref a_4), (4, 7, a1_, .ref a_2), (10, 0, a0_, .ref q0_), (10, 1, a0_, .ref q1_), (4, 6, a1_, .int y0_), (7, 1, q0_, .int y1_), (4, 14, a1_, .int y2_), (4, 0, a1_, .int w88_4_0_a1_)]) [3, 4, 5, 6, 7, 8, 9, 10, 11, 12, 13, 14, 15, 16] rfl
                  exact ih52  y_33 x_32 w88_4_0_a1_ (bd_sub b_34 (by decide)) bw88_4_0_a1_ (by have h9_0 := b_34; unfold bd at h9_0; have h9_1 := bdT v52_3; unfold bd at h9_1; have h9_2 := bdT x_32; unfold bd at h9_2; have h9_3 := bv52_5; unfold bd at h9_3; have h9_4 := bw52_4_0_a1_; unfold bd at h9_4; have h9_5 := bw88_4_0_a1_; unfold bd at h9_5; have h9_6 := kb_0; unfold bd at h9_6; have h9_7 := kb_1; unfold bd at h9_7; have h9_8 := kb_8; unfold bd at h9_8; omega) _ _ _ _ g9 hG88_q0_ hl9
                · have fc_30 := nle_f c_30
                  have b_35 : bd 1 2147483647 y_29 := ltR fc_30 bv88_7 (bdT y_29) (by decide)
                  refine lv_iload hx hb dX10_askKept_104 (lv_at hl 0 rfl) ?_
                  refine lv_aload_n hx hb dX10_askKept_106 rfl (lv_at hl 5 rfl) ?_
                  refine g_getk (C := RX10) (T := TX10) (N := 10) hx hb hts (mc_ inX10) hown hK g rfl 0 (by decide) rfl (hts _ (List.mem_cons_of_mem _ t_912)) (fun _ h9 => h9) 10 rfl dX10_askKept_107 ?_
                  refine g_geti (C := RX7) (T := TX7) (N := 19) hx hb hts (mc_ inX7) hown hK g mq0_ kq0_ (by decide) rfl 13 (by decide) rfl (hts _ (List.mem_cons_of_mem _ t_670)) (fun _ h9 => h9) rfl dX10_askKept_110 (fun x_36 bx_36 g => ?_)
                  refine lv_icmp_ge (tgt := 156) hx hb dX10_askKept_113 (by decide) (fun c_37 => ?_) (fun c_37 => ?_)
                  · have fc_37 := le_f c_37
                    refine lv_aload hx hb dX10_askKept_156 (lv_at hl 1 rfl) ?_
                    refine g_geti (C := RX9) (T := TX9) (N := 13) hx hb hts (mc_ inX9) hown hK g ma_25 ka_25 (by decide) rfl 1 (by decide) rfl (hts _ (List.mem_cons_of_mem _ t_483)) (fun _ h9 => h9) rfl dX10_askKept_158 (fun x_38 bx_38 g => ?_)
                    refine lv_istore_n (lv' := [(3, .int x_38), (7, .int v88_7), (6, .ref a_25), (5, .int v52_5), (4, .ref a_5), (0, .ref a0_), (1, .ref a1_), (2, .int x2_)]) hx hb dX10_askKept_161 rfl hl (by decide) rfl (fun ls hl => ?_)
                    have kb_1 : bd 1 1 (1 : Int32) := ⟨by decide, by decide⟩
                    obtain ⟨y_39, ey_39⟩ : ∃ z : Int32, z = v52_5 + 1 := ⟨_, rfl⟩
                    refine lv_iinc (v := y_39) (lv' := [(5, .int y_39), (3, .int x_38), (7, .int v88_7), (6, .ref a_25), (4, .ref a_5), (0, .ref a0_), (1, .ref a1_), (2, .int x2_)]) hx hb dX10_askKept_162 hl (k := 3) rfl (by rw [ey_39]; rfl) (by decide) rfl (fun ls hl => ?_)
                    have ty_39 := add_bd ey_39 b_14 kb_1 (by decide)
                    have b_40 : bd 1 8 y_39 := add_rg ty_39 b_14 kb_1 (by decide)
                    refine lv_goto (tgt := 52) hx hb dX10_askKept_165 (by decide) ?_
                    have hl9 := lv_sub hl [0, 4, 1, 5, 6, 7] (by rfl : lv_pick [(5, .int y_39), (3, .int x_38), (7, .int v88_7), (6, .ref a_25), (4, .ref a_5), (0, .ref a0_), (1, .ref a1_), (2, .int x2_)] [0, 4, 1, 5, 6, 7] = [(5, .int y_39), (4, .ref a_5), (3, .int x_38), (0, .ref a0_), (1, .ref a1_), (2, .int x2_)])
                    have g9 := g.sub (fx' := [(1, 4, q1_, .ref a_5), (1, 3, q1_, .ref a_5), (1, 2, q1_, .ref a_5), (1, 1, q1_, .ref a_7), (1, 0, q1_, .ref q0_), (7, 0, q0_, .ref a_6), (4, 9, a1_, .ref a_4), (4, 7, a1_, .ref a_2), (10, 0, a0_, .ref q0_), (10, 1, a0_, .ref q1_), (4, 6, a1_, .int y0_), (7, 1, q0_, .int y1_), (4, 14, a1_, .int y2_), (4, 0, a1_, .int w88_4_0_a1_)]) [4, 5, 6, 7, 8, 9, 10, 11, 12, 13, 14, 15, 16, 17] rfl
                    exact ih52  y_39 x_38 w88_4_0_a1_ (bd_sub b_40 (by decide)) bw88_4_0_a1_ (by have h9_0 := b_40; unfold bd at h9_0; have h9_1 := bdT v52_3; unfold bd at h9_1; have h9_2 := bdT x_38; unfold bd at h9_2; have h9_3 := bv52_5; unfold bd at h9_3; have h9_4 := bw52_4_0_a1_; unfold bd at h9_4; have h9_5 := bw88_4_0_a1_; unfold bd at h9_5; have h9_6 := kb_0; unfold bd at h9_6; have h9_7 := kb_1; unfold bd at h9_7; have h9_8 := kb_8; unfold bd at h9_8; omega) _ _ _ _ g9 hG88_q0_ hl9
                  · have fc_37 := nle_f c_37
                    have b_41 : bd 0 499 v88_7 := ltL fc_37 bv88_7 bx_36 (by decide)
                    have b_42 : bd 1 500 x_36 := ltR fc_37 bv88_7 bx_36 (by decide)
                    refine lv_aload_n hx hb dX10_askKept_116 rfl (lv_at hl 5 rfl) ?_
                    refine lv_aload_n hx hb dX10_askKept_117 rfl (lv_at hl 6 rfl) ?_
                    refine lv_iload hx hb dX10_askKept_118 (lv_at hl 0 rfl) ?_
                    refine lv_iload_n hx hb dX10_askKept_120 rfl (lv_at hl 7 rfl) ?_
                    have go_ := g
                    refine g_calli (va_runV (As := [.ref a1_, .int v88_7, .int x2_]) (rest := []) ⟨hx, hb, hml, hown, hts⟩ (r_X10_holds_17 l dC dI L kd tys f H.size g.2.2.2.1 a0_ ma0_ ka0_ a1_ ma1_ ka1_ v88_7 b_41 x2_ bx2_ q1_ mq1_ kq1_ q0_ mq0_ kq0_ a_7 ma_7 ka_7 x_36 b_42 y0_ by0_ y1_ by1_ y2_ by2_ w88_4_0_a1_ bw88_4_0_a1_ hG88_q0_ (g.fcts [12, 7, 6, 0, 13, 14, 15, 16] rfl)) (cwV 3 hts (gV_ t_1547 t_1549 t_57 t_194 t_1550) rfl rfl rfl (by decide +kernel) ⟨(Nat.le_of_ble_eq_true rfl), (Nat.le_of_ble_eq_true rfl)⟩) (pre3V g hK ma0_ ka0_ (by decide) (q := (RX10, TX10, 10)) rfl) rfl rfl hl.1 rfl (lv_room (Nat.le_of_ble_eq_true rfl)) dX10_askKept_121 ⟨(Nat.le_of_ble_eq_true rfl), (Nat.le_of_ble_eq_true rfl)⟩) g hK (by decide) (by decide) (fx' := [(7, 13, q0_, .int x_36), (9, 11, a_25, .int x_28), (9, 10, a_25, .int x_26), (1, 4, q1_, .ref a_5), (1, 3, q1_, .ref a_5), (1, 2, q1_, .ref a_5), (1, 1, q1_, .ref a_7), (1, 0, q1_, .ref q0_), (7, 0, q0_, .ref a_6), (4, 9, a1_, .ref a_4), (4, 7, a1_, .ref a_2), (10, 0, a0_, .ref q0_), (10, 1, a0_, .ref q1_), (4, 6, a1_, .int y0_), (7, 1, q0_, .int y1_), (4, 14, a1_, .int y2_)]) rfl (fun r_43 fr_43 H locs hp hMr_43 g => ?_)
                    have hG_44 := cOK.frame hMr_43 go_.2.2.2.1 mq0_ kq0_ (by decide) (by decide) hG88_q0_
                    rcases hp with ⟨h_45, hF_46⟩ | ⟨h_47, x_48, h_49, x_50, h_51, hF_52⟩
                    · obtain rfl : r_43 = 0 := h_45
                      have g := g.more hF_46
                      refine lv_if_ne (tgt := 150) hx hb dX10_askKept_124 (by decide) (fun c_ => absurd c_ (by decide)) (fun c_ => ?_)
                      refine lv_aload_n hx hb dX10_askKept_127 rfl (lv_at hl 6 rfl) ?_
                      refine lv_aload_n hx hb dX10_askKept_128 rfl (lv_at hl 6 rfl) ?_
                      refine g_geti (C := RX4) (T := TX4) (N := 17) hx hb hts (mc_ inX4) hown hK g ma1_ ka1_ (by decide) rfl 0 (by decide) rfl (hts _ (List.mem_cons_of_mem _ t_837)) (fun _ h9 => h9) rfl dX10_askKept_129 (fun x_53 bx_53 g => ?_)
                      refine lv_if_ne (tgt := 139) hx hb dX10_askKept_132 (by decide) (fun c_54 => ?_) (fun c_54 => ?_)
                      · have fc_54 := neq_f c_54
                        refine lv_aload_n hx hb dX10_askKept_139 rfl (lv_at hl 6 rfl) ?_
                        refine g_getk (C := RX4) (T := TX4) (N := 17) hx hb hts (mc_ inX4) hown hK g rfl 0 (by decide) rfl (hts _ (List.mem_cons_of_mem _ t_837)) (fun _ h9 => h9) 0 rfl dX10_askKept_140 ?_
                        refine lv_iload hx hb dX10_askKept_143 (lv_at hl 0 rfl) ?_
                        refine lv_iload_n hx hb dX10_askKept_145 rfl (lv_at hl 7 rfl) ?_
                        have go_ := g
                        refine g_callv (va_runV (As := [.int x_53, .int v88_7, .int x2_]) (rest := []) ⟨hx, hb, hml, hown, hts⟩ (r_X4_breakBy l dC dI L kd tys fr_43 H.size g.2.2.2.1 a1_ ma1_ ka1_ x_53 v88_7 x2_) (cwV 3 hts (gV_ t_1606 t_1607 t_1608 t_197 t_1609) rfl rfl rfl (by decide +kernel) ⟨(Nat.le_of_ble_eq_true rfl), (Nat.le_of_ble_eq_true rfl)⟩) (pre3V g hK ma1_ ka1_ (by decide) (q := (RX4, TX4, 17)) rfl) rfl rfl hl.1 rfl (lv_room (Nat.le_of_ble_eq_true rfl)) dX10_askKept_146 ⟨(Nat.le_of_ble_eq_true rfl), (Nat.le_of_ble_eq_true rfl)⟩) g hK (by decide) (by decide) (fx' := [(1, 12, q1_, .int 0), (1, 5, q1_, .int 1), (7, 13, q0_, .int x_36), (9, 11, a_25, .int x_28), (9, 10, a_25, .int x_26), (1, 4, q1_, .ref a_5), (1, 3, q1_, .ref a_5), (1, 2, q1_, .ref a_5), (1, 1, q1_, .ref a_7), (1, 0, q1_, .ref q0_), (7, 0, q0_, .ref a_6), (4, 9, a1_, .ref a_4), (4, 7, a1_, .ref a_2), (10, 0, a0_, .ref q0_), (10, 1, a0_, .ref q1_), (4, 6, a1_, .int y0_), (7, 1, q0_, .int y1_), (4, 14, a1_, .int y2_)]) rfl (fun fr_55 H locs hp hMr_55 g => ?_)
                        have hG_56 := cOK.frame hMr_55 go_.2.2.2.1 mq0_ kq0_ (by decide) (by decide) hG_44
                        subst hQ
                        exact W.vret hx hb hr (fun t ht hW => ⟨⟨_, rfl, ⟨a_5, ⟨ma_5, ka_5⟩, a_5, ⟨ma_5, ka_5⟩, a_5, ⟨ma_5, ka_5⟩, a_7, ⟨ma_7, ka_7⟩, (g.fcts [5, 6, 7, 8, 9] rfl)⟩, q3_of g hK ht hW⟩, g.2.2.1.F ht⟩) g.2.2.1.2.2 dX10_askKept_149
                      · have fc_54 := eq_f c_54
                        have b_57 : bd 0 0 x_53 := eqX fc_54 (bdT x_53) kb_0 (by decide)
                        refine lv_iconst (v := 2) hx hb dX10_askKept_135 (by decide) ?_
                        refine lv_goto (tgt := 143) hx hb dX10_askKept_136 (by decide) ?_
                        refine lv_iload hx hb dX10_askKept_143 (lv_at hl 0 rfl) ?_
                        refine lv_iload_n hx hb dX10_askKept_145 rfl (lv_at hl 7 rfl) ?_
                        have go_ := g
                        refine g_callv (va_runV (As := [.int 2, .int v88_7, .int x2_]) (rest := []) ⟨hx, hb, hml, hown, hts⟩ (r_X4_breakBy l dC dI L kd tys fr_43 H.size g.2.2.2.1 a1_ ma1_ ka1_ 2 v88_7 x2_) (cwV 3 hts (gV_ t_1606 t_1607 t_1608 t_197 t_1609) rfl rfl rfl (by decide +kernel) ⟨(Nat.le_of_ble_eq_true rfl), (Nat.le_of_ble_eq_true rfl)⟩) (pre3V g hK ma1_ ka1_ (by decide) (q := (RX4, TX4, 17)) rfl) rfl rfl hl.1 rfl (lv_room (Nat.le_of_ble_eq_true rfl)) dX10_askKept_146 ⟨(Nat.le_of_ble_eq_true rfl), (Nat.le_of_ble_eq_true rfl)⟩) g hK (by decide) (by decide) (fx' := [(1, 12, q1_, .int 0), (1, 5, q1_, .int 1), (7, 13, q0_, .int x_36), (9, 11, a_25, .int x_28), (9, 10, a_25, .int x_26), (1, 4, q1_, .ref a_5), (1, 3, q1_, .ref a_5), (1, 2, q1_, .ref a_5), (1, 1, q1_, .ref a_7), (1, 0, q1_, .ref q0_), (7, 0, q0_, .ref a_6), (4, 9, a1_, .ref a_4), (4, 7, a1_, .ref a_2), (10, 0, a0_, .ref q0_), (10, 1, a0_, .ref q1_), (4, 6, a1_, .int y0_), (7, 1, q0_, .int y1_), (4, 14, a1_, .int y2_)]) rfl (fun fr_58 H locs hp hMr_58 g => ?_)
                        have hG_59 := cOK.frame hMr_58 go_.2.2.2.1 mq0_ kq0_ (by decide) (by decide) hG_44
                        subst hQ
                        exact W.vret hx hb hr (fun t ht hW => ⟨⟨_, rfl, ⟨a_5, ⟨ma_5, ka_5⟩, a_5, ⟨ma_5, ka_5⟩, a_5, ⟨ma_5, ka_5⟩, a_7, ⟨ma_7, ka_7⟩, (g.fcts [5, 6, 7, 8, 9] rfl)⟩, q3_of g hK ht hW⟩, g.2.2.1.F ht⟩) g.2.2.1.2.2 dX10_askKept_149
                    · obtain rfl : r_43 = 1 := h_47
                      have g := g.more hF_52
                      refine lv_if_ne (tgt := 150) hx hb dX10_askKept_124 (by decide) (fun c_ => ?_) (fun c_ => absurd c_ (by decide))
                      have kb_1 : bd 1 1 (1 : Int32) := ⟨by decide, by decide⟩
                      obtain ⟨y_60, ey_60⟩ : ∃ z : Int32, z = v88_7 + 1 := ⟨_, rfl⟩
                      refine lv_iinc (v := y_60) (lv' := [(7, .int y_60), (6, .ref a_25), (5, .int v52_5), (4, .ref a_5), (3, .int v52_3), (0, .ref a0_), (1, .ref a1_), (2, .int x2_)]) hx hb dX10_askKept_150 hl (k := 0) rfl (by rw [ey_60]; rfl) (by decide) rfl (fun ls hl => ?_)
                      have ty_60 := add_bd ey_60 b_41 kb_1 (by decide)
                      have b_61 : bd 1 500 y_60 := add_rg ty_60 b_41 kb_1 (by decide)
                      refine lv_goto (tgt := 88) hx hb dX10_askKept_153 (by decide) ?_
                      have hl9 := lv_sub hl [0, 1, 2, 3, 4, 5, 6, 7] (by rfl : lv_pick [(7, .int y_60), (6, .ref a_25), (5, .int v52_5), (4, .ref a_5), (3, .int v52_3), (0, .ref a0_), (1, .ref a1_), (2, .int x2_)] [0, 1, 2, 3, 4, 5, 6, 7] = [(7, .int y_60), (6, .ref a_25), (5, .int v52_5), (4, .ref a_5), (3, .int v52_3), (0, .ref a0_), (1, .ref a1_), (2, .int x2_)])
                      have g9 := g.sub (fx' := [(9, 10, a_25, .int x_26), (1, 4, q1_, .ref a_5), (1, 3, q1_, .ref a_5), (1, 2, q1_, .ref a_5), (1, 1, q1_, .ref a_7), (1, 0, q1_, .ref q0_), (7, 0, q0_, .ref a_6), (4, 9, a1_, .ref a_4), (4, 7, a1_, .ref a_2), (10, 0, a0_, .ref q0_), (10, 1, a0_, .ref q1_), (4, 6, a1_, .int y0_), (7, 1, q0_, .int y1_), (4, 14, a1_, .int y2_), (4, 0, a1_, .int x_50)]) [6, 7, 8, 9, 10, 11, 12, 13, 14, 15, 16, 17, 18, 19, 3] rfl
                      exact ih88  y_60 x_50 (bd_sub b_61 (by decide)) h_51 (by have h9_0 := b_61; unfold bd at h9_0; have h9_1 := bv88_7; unfold bd at h9_1; have h9_2 := bw88_4_0_a1_; unfold bd at h9_2; have h9_3 := h_51; unfold bd at h9_3; have h9_4 := kb_0; unfold bd at h9_4; have h9_5 := kb_1; unfold bd at h9_5; have h9_6 := kb_8; unfold bd at h9_6; omega) _ _ _ _ g9 hG_44 hl9
            have hl9 := lv_sub hl [0, 1, 2, 3, 4, 5, 6, 7] (by rfl : lv_pick [(7, .int x_26), (6, .ref a_25), (5, .int v52_5), (4, .ref a_5), (3, .int v52_3), (0, .ref a0_), (1, .ref a1_), (2, .int x2_)] [0, 1, 2, 3, 4, 5, 6, 7] = [(7, .int x_26), (6, .ref a_25), (5, .int v52_5), (4, .ref a_5), (3, .int v52_3), (0, .ref a0_), (1, .ref a1_), (2, .int x2_)])
            have g9 := g.sub (fx' := [(9, 10, a_25, .int x_26), (1, 4, q1_, .ref a_5), (1, 3, q1_, .ref a_5), (1, 2, q1_, .ref a_5), (1, 1, q1_, .ref a_7), (1, 0, q1_, .ref q0_), (7, 0, q0_, .ref a_6), (4, 9, a1_, .ref a_4), (4, 7, a1_, .ref a_2), (10, 0, a0_, .ref q0_), (10, 1, a0_, .ref q1_), (4, 6, a1_, .int y0_), (7, 1, q0_, .int y1_), (4, 14, a1_, .int y2_), (4, 0, a1_, .int w52_4_0_a1_)]) [0, 1, 2, 3, 4, 5, 6, 7, 8, 9, 10, 11, 12, 13, 14] rfl
            exact loop_27 (1003) x_26 w52_4_0_a1_ bx_26 bw52_4_0_a1_ (by have h9_0 := bw52_4_0_a1_; unfold bd at h9_0; have h9_1 := bx_26; unfold bd at h9_1; have h9_2 := kb_0; unfold bd at h9_2; have h9_3 := kb_8; unfold bd at h9_3; omega) _ _ _ _ g9 hG_16 hl9
    have hl9 := lv_sub hl [0, 1, 2, 3, 4, 5] (by rfl : lv_pick [(5, .int 0), (4, .ref a_5), (3, .int x_3), (0, .ref a0_), (1, .ref a1_), (2, .int x2_)] [0, 1, 2, 3, 4, 5] = [(5, .int 0), (4, .ref a_5), (3, .int x_3), (0, .ref a0_), (1, .ref a1_), (2, .int x2_)])
    have g9 := g.sub (fx' := [(1, 4, q1_, .ref a_5), (1, 3, q1_, .ref a_5), (1, 2, q1_, .ref a_5), (1, 1, q1_, .ref a_7), (1, 0, q1_, .ref q0_), (7, 0, q0_, .ref a_6), (4, 9, a1_, .ref a_4), (4, 7, a1_, .ref a_2), (10, 0, a0_, .ref q0_), (10, 1, a0_, .ref q1_), (4, 6, a1_, .int y0_), (7, 1, q0_, .int y1_), (4, 14, a1_, .int y2_), (4, 0, a1_, .int y3_)]) [0, 1, 2, 3, 4, 5, 6, 7, 8, 9, 10, 11, 12, 13] rfl
    exact loop_11 (19) 0 x_3 y3_ (bd_sub kb_0 (by decide)) by3_ (by have h9_0 := bx_3; unfold bd at h9_0; have h9_1 := by3_; unfold bd at h9_1; have h9_2 := kb_0; unfold bd at h9_2; omega) _ _ _ _ g9 hG_9 hl9
  · have fc_1 := neq_f c_1
    have b_62 : bd 1 (-1) y3_ := neX fc_1 by3_ kb_0 (by decide)
    exact bd_no b_62 (by decide)
set_option maxHeartbeats 4000000 in
set_option maxRecDepth 100000 in
theorem r_X10_doMake_4 (l : Launch) (dC : Nat → ClassId) (dI : Nat → Nat → Nat) (L : List Nat) (kd : Nat → Nat) (tys : List (ClassId × FieldType)) (f0 : Nat → va_E) (sz : Nat) (hWT : WT L kd tys f0) (a0_ : Nat) (ma0_ : a0_ ∈ L) (ka0_ : kd a0_ = 10) (a1_ : Nat) (ma1_ : a1_ ∈ L) (ka1_ : kd a1_ = 3) (a2_ : Nat) (ma2_ : a2_ ∈ L) (ka2_ : kd a2_ = 4) (x3_ : Int32) (bx3_ : bd 0 9 x3_) (q0_ : Nat) (mq0_ : q0_ ∈ L) (kq0_ : kd q0_ = 7) (y0_ : Int32) (by0_ : bd 0 9 y0_) (y1_ : Int32) (by1_ : bd 0 0 y1_) (y2_ : Int32) (by2_ : bd 1 10 y2_) (hGq0_ : cOK f0 q0_) (hfx : Fs L kd f0 [(10, 0, a0_, .ref q0_), (4, 14, a2_, .int y0_), (4, 0, a2_, .int y1_), (3, 0, a1_, .int y2_)]) : Met l yX10_doMake (.code yX10_doMake cX10_doMake 7 none :: lw_g) ({ frames := 4, cells := 0, slots := 0, locals := 100 }) (va_Pc [.ref a0_, .ref a1_, .ref a2_, .int x3_] (P3 (dC, dI) L tys f0 sz)) (va_Qv (fun (f : Nat → va_E) => (True)) (Q3 (dC, dI) L kd tys [(1, 0), (1, 1), (1, 2), (1, 3), (1, 4), (1, 5), (1, 6), (1, 8), (1, 11), (1, 12), (1, 13), (1, 14), (1, 15), (1, 16), (1, 17), (4, 0), (4, 1), (4, 2), (4, 5), (4, 6)] [100, 101, 116, 117, 126, 127, 131, 146] f0 sz) (pA L sz)) 0 0 (pA L sz) := by
  refine Met.ofW (cc := cX10_doMake) (maxL := 7) (ret := none) (by decide) rfl ?_
  intro p e s m args below meth c s₁ B hml hv
  obtain ⟨rfl, hsz, hP, hK, hD0⟩ := hv
  have hx := B.exec
  have hb := B.bytes
  have hr := B.returns
  have hts := atoms_spec (ws := (.code yX10_doMake cX10_doMake 7 none :: lw_g)) B.pre
  have hown : s.vm.findClass RX10 = some m.cls := findClass_of_methodNamed B.named
  have hlocks := B.notSynchronized
  subst hsz
  have g : G3 (dC, dI) L kd tys s f0 [(1, 0), (1, 1), (1, 2), (1, 3), (1, 4), (1, 5), (1, 6), (1, 8), (1, 11), (1, 12), (1, 13), (1, 14), (1, 15), (1, 16), (1, 17), (4, 0), (4, 1), (4, 2), (4, 5), (4, 6)] [100, 101, 116, 117, 126, 127, 131, 146] f0 s.heap [] [(10, 0, a0_, .ref q0_), (4, 14, a2_, .int y0_), (4, 0, a2_, .int y1_), (3, 0, a1_, .int y2_)] := G3.start hP hD0 hWT hfx
  have hl := lv_entry ([.ref a0_, .ref a1_, .ref a2_, .int x3_]) (n := 7) (Nat.le_of_ble_eq_true rfl)
  rw [lg_entry_eq]
  generalize (lg_sl ([.ref a0_, .ref a1_, .ref a2_, .int x3_]) ++ List.replicate (7 - (lg_sl ([.ref a0_, .ref a1_, .ref a2_, .int x3_])).length) Slot.unset).toArray = ls at hl ⊢
  have hl : lv_has ls 7 [(0, .ref a0_), (1, .ref a1_), (2, .ref a2_), (3, .int x3_)] := hl
  refine W_q (fun Q hQ => ?_)
  refine lv_aload_n hx hb dX10_doMake_0 rfl (lv_at hl 1 rfl) ?_
  refine g_getr (K := 124) (C := RX3) (T := TX3) (N := 6) hx hb hts (mc_ inX3) hown hK g ma1_ ka1_ (by decide) rfl 3 (by decide) rfl (hts _ (List.mem_cons_of_mem _ t_811)) (fun _ h9 => h9) rfl dX10_doMake_1 (fun a_1 ma_1 ka_1 g => ?_)
  refine lv_iload_n hx hb dX10_doMake_4 rfl (lv_at hl 3 rfl) ?_
  refine g_aald hx hb hK g ma_1 ka_1 (by decide) rfl (by decide) (in_bd bx3_ (by decide)) dX10_doMake_5 (fun a_2 ma_2 ua_2 wa_2 => ?_)
  have ka_2 : kd a_2 = 103 := by omega
  refine lv_iconst (v := 0) hx hb dX10_doMake_6 (by decide) ?_
  refine g_iald hx hb hK g ma_2 ka_2 (by decide) rfl (by unfold vp_in; decide) dX10_doMake_7 (fun x_3 bx_3 cx_3 => ?_)
  refine lv_istore (lv' := [(4, .int x_3), (0, .ref a0_), (1, .ref a1_), (2, .ref a2_), (3, .int x3_)]) hx hb dX10_doMake_8 hl (by decide) rfl (fun ls hl => ?_)
  refine lv_aload_n hx hb dX10_doMake_10 rfl (lv_at hl 3 rfl) ?_
  refine g_geti (C := RX4) (T := TX4) (N := 17) hx hb hts (mc_ inX4) hown hK g ma2_ ka2_ (by decide) rfl 6 (by decide) rfl (hts _ (List.mem_cons_of_mem _ t_851)) (fun _ h9 => h9) rfl dX10_doMake_11 (fun x_4 bx_4 g => ?_)
  refine lv_istore (lv' := [(5, .int x_4), (4, .int x_3), (0, .ref a0_), (1, .ref a1_), (2, .ref a2_), (3, .int x3_)]) hx hb dX10_doMake_14 hl (by decide) rfl (fun ls hl => ?_)
  refine lv_aload_n hx hb dX10_doMake_16 rfl (lv_at hl 2 rfl) ?_
  refine g_getk (C := RX10) (T := TX10) (N := 10) hx hb hts (mc_ inX10) hown hK g rfl 0 (by decide) rfl (hts _ (List.mem_cons_of_mem _ t_912)) (fun _ h9 => h9) 2 rfl dX10_doMake_17 ?_
  refine lv_iload hx hb dX10_doMake_20 (lv_at hl 1 rfl) ?_
  have go_ := g
  refine g_calli (va_runV (As := [.int x_3]) (rest := []) ⟨hx, hb, hml, hown, hts⟩ (r_X7_hasClass l dC dI L kd tys f0 s.heap.size g.2.2.2.1 q0_ mq0_ kq0_ x_3) (cwV 1 hts (gV_ t_1534 t_1281 t_1282 t_191 t_1283) rfl rfl rfl (by decide +kernel) ⟨(Nat.le_of_ble_eq_true rfl), (Nat.le_of_ble_eq_true rfl)⟩) (pre3V g hK mq0_ kq0_ (by decide) (q := (RX7, TX7, 19)) rfl) rfl rfl hl.1 rfl (lv_room (Nat.le_of_ble_eq_true rfl)) dX10_doMake_22 ⟨(Nat.le_of_ble_eq_true rfl), (Nat.le_of_ble_eq_true rfl)⟩) g hK (by decide) (by decide) (fx' := [(4, 6, a2_, .int x_4), (3, 3, a1_, .ref a_1), (10, 0, a0_, .ref q0_), (4, 14, a2_, .int y0_), (4, 0, a2_, .int y1_), (3, 0, a1_, .int y2_)]) rfl (fun r_5 fr_5 H locs hp hMr_5 g => ?_)
  have hG_6 := cOK.frame hMr_5 go_.2.2.2.1 mq0_ kq0_ (by decide) (by decide) hGq0_
  rcases hp with ⟨h_7, -⟩ | ⟨h_8, h_9, x_10, h_11, hF_12⟩
  · obtain rfl : r_5 = 0 := h_7
    refine lv_if_eq (tgt := 34) hx hb dX10_doMake_25 (by decide) (fun c_ => ?_) (fun c_ => absurd (by decide) c_)
    subst hQ
    exact W.vret hx hb hr (fun t ht hW => ⟨⟨_, rfl, trivial, q3_of g hK ht hW⟩, g.2.2.1.F ht⟩) g.2.2.1.2.2 dX10_doMake_34
  · obtain rfl : r_5 = 1 := h_8
    have b_13 : bd 0 7 x_3 := eqX rfl (bdT x_3) h_9 (by decide)
    have g := g.more hF_12
    refine lv_if_eq (tgt := 34) hx hb dX10_doMake_25 (by decide) (fun c_ => absurd c_ (by decide)) (fun c_ => ?_)
    refine lv_iload hx hb dX10_doMake_28 (lv_at hl 0 rfl) ?_
    refine lv_iconst (v := 3) hx hb dX10_doMake_30 (by decide) ?_
    have kb_3 : bd 3 3 (3 : Int32) := ⟨by decide, by decide⟩
    refine lv_icmp_lt (tgt := 35) hx hb dX10_doMake_31 (by decide) (fun c_14 => ?_) (fun c_14 => ?_)
    · have fc_14 := lt_f c_14
      have b_15 : bd 0 2 x_4 := ltL fc_14 bx_4 kb_3 (by decide)
      refine lv_aload_n hx hb dX10_doMake_35 rfl (lv_at hl 2 rfl) ?_
      refine g_getk (C := RX10) (T := TX10) (N := 10) hx hb hts (mc_ inX10) hown hK g rfl 0 (by decide) rfl (hts _ (List.mem_cons_of_mem _ t_912)) (fun _ h9 => h9) 3 rfl dX10_doMake_36 ?_
      refine g_getr (K := 136) (C := RX7) (T := TX7) (N := 19) hx hb hts (mc_ inX7) hown hK g mq0_ kq0_ (by decide) rfl 0 (by decide) rfl (hts _ (List.mem_cons_of_mem _ t_624)) (fun _ h9 => h9) rfl dX10_doMake_39 (fun a_16 ma_16 ka_16 g => ?_)
      refine lv_iload hx hb dX10_doMake_42 (lv_at hl 1 rfl) ?_
      refine g_aald hx hb hK g ma_16 ka_16 (by decide) rfl (by decide) (in_bd b_13 (by decide)) dX10_doMake_44 (fun a_17 ma_17 ua_17 wa_17 => ?_)
      have ka_17 : kd a_17 = 9 := by omega
      refine g_geti (C := RX9) (T := TX9) (N := 13) hx hb hts (mc_ inX9) hown hK g ma_17 ka_17 (by decide) rfl 12 (by decide) rfl (hts _ (List.mem_cons_of_mem _ t_520)) (fun _ h9 => h9) rfl dX10_doMake_45 (fun x_18 bx_18 g => ?_)
      refine lv_istore (lv' := [(6, .int x_18), (5, .int x_4), (4, .int x_3), (0, .ref a0_), (1, .ref a1_), (2, .ref a2_), (3, .int x3_)]) hx hb dX10_doMake_48 hl (by decide) rfl (fun ls hl => ?_)
      refine lv_aload_n hx hb dX10_doMake_50 rfl (lv_at hl 5 rfl) ?_
      refine g_getr (K := 126) (C := RX4) (T := TX4) (N := 17) hx hb hts (mc_ inX4) hown hK g ma2_ ka2_ (by decide) rfl 7 (by decide) rfl (hts _ (List.mem_cons_of_mem _ t_854)) (fun _ h9 => h9) rfl dX10_doMake_51 (fun a_19 ma_19 ka_19 g => ?_)
      refine lv_iload hx hb dX10_doMake_54 (lv_at hl 1 rfl) ?_
      refine lv_iload hx hb dX10_doMake_56 (lv_at hl 2 rfl) ?_
      have go_ := g
      refine g_iast hx hb hK g ma_19 ka_19 (by decide) rfl (in_bd b_15 (by decide)) b_13 (by decide) dX10_doMake_58 (fun f H locs hM_20 g => ?_)
      have hG_21 := cOK.frame hM_20 go_.2.2.2.1 mq0_ kq0_ (by decide) (by decide) hG_6
      refine lv_aload_n hx hb dX10_doMake_59 rfl (lv_at hl 5 rfl) ?_
      refine g_getr (K := 127) (C := RX4) (T := TX4) (N := 17) hx hb hts (mc_ inX4) hown hK g ma2_ ka2_ (by decide) rfl 8 (by decide) rfl (hts _ (List.mem_cons_of_mem _ t_857)) (fun _ h9 => h9) rfl dX10_doMake_60 (fun a_22 ma_22 ka_22 g => ?_)
      refine lv_iload hx hb dX10_doMake_63 (lv_at hl 1 rfl) ?_
      refine lv_iload hx hb dX10_doMake_65 (lv_at hl 0 rfl) ?_
      have go_ := g
      refine g_iast hx hb hK g ma_22 ka_22 (by decide) rfl (in_bd b_15 (by decide)) (bdT x_18) (by decide) dX10_doMake_67 (fun f H locs hM_23 g => ?_)
      have hG_24 := cOK.frame hM_23 go_.2.2.2.1 mq0_ kq0_ (by decide) (by decide) hG_21
      refine lv_aload_n hx hb dX10_doMake_68 rfl (lv_at hl 3 rfl) ?_
      refine g_getk (C := RX10) (T := TX10) (N := 10) hx hb hts (mc_ inX10) hown hK g rfl 0 (by decide) rfl (hts _ (List.mem_cons_of_mem _ t_912)) (fun _ h9 => h9) 7 rfl dX10_doMake_69 ?_
      refine g_getk (C := RX7) (T := TX7) (N := 19) hx hb hts (mc_ inX7) hown hK g rfl 0 (by decide) rfl (hts _ (List.mem_cons_of_mem _ t_624)) (fun _ h9 => h9) 3 rfl dX10_doMake_72 ?_
      refine lv_iload hx hb dX10_doMake_75 (lv_at hl 2 rfl) ?_
      refine g_aald hx hb hK g ma_16 ka_16 (by decide) rfl (by decide) (in_bd b_13 (by decide)) dX10_doMake_77 (fun a_25 ma_25 ua_25 wa_25 => ?_)
      have ka_25 : kd a_25 = 9 := by omega
      refine lv_aload_n hx hb dX10_doMake_78 rfl (lv_at hl 5 rfl) ?_
      refine g_getr (K := 128) (C := RX4) (T := TX4) (N := 17) hx hb hts (mc_ inX4) hown hK g ma2_ ka2_ (by decide) rfl 9 (by decide) rfl (hts _ (List.mem_cons_of_mem _ t_860)) (fun _ h9 => h9) rfl dX10_doMake_79 (fun a_26 ma_26 ka_26 g => ?_)
      refine lv_iload hx hb dX10_doMake_82 (lv_at hl 1 rfl) ?_
      refine g_aald hx hb hK g ma_26 ka_26 (by decide) rfl (by decide) (in_bd b_15 (by decide)) dX10_doMake_84 (fun a_27 ma_27 ua_27 wa_27 => ?_)
      have ka_27 : kd a_27 = 101 := by omega
      have go_ := g
      refine g_callv (va_runV (As := [.ref a_27]) (rest := []) ⟨hx, hb, hml, hown, hts⟩ (r_X9_fillNew l dC dI L kd tys f H.size g.2.2.2.1 a_25 ma_25 ka_25 a_27 ma_27 ka_27) (cwV 1 hts (gV_ t_1535 t_1536 t_1537 t_192 t_1538) rfl rfl rfl (by decide +kernel) ⟨(Nat.le_of_ble_eq_true rfl), (Nat.le_of_ble_eq_true rfl)⟩) (pre3V g hK ma_25 ka_25 (by decide) (q := (RX9, TX9, 13)) rfl) rfl rfl hl.1 rfl (lv_room (Nat.le_of_ble_eq_true rfl)) dX10_doMake_85 ⟨(Nat.le_of_ble_eq_true rfl), (Nat.le_of_ble_eq_true rfl)⟩) g hK (by decide) (by decide) (fx' := [(4, 9, a2_, .ref a_26), (4, 8, a2_, .ref a_22), (4, 7, a2_, .ref a_19), (9, 12, a_17, .int x_18), (7, 0, q0_, .ref a_16), (7, 1, q0_, .int x_10), (4, 6, a2_, .int x_4), (3, 3, a1_, .ref a_1), (10, 0, a0_, .ref q0_), (4, 14, a2_, .int y0_), (4, 0, a2_, .int y1_), (3, 0, a1_, .int y2_)]) rfl (fun fr_28 H locs hp hMr_28 g => ?_)
      have hG_29 := cOK.frame hMr_28 go_.2.2.2.1 mq0_ kq0_ (by decide) (by decide) hG_24
      refine lv_aload_n hx hb dX10_doMake_88 rfl (lv_at hl 3 rfl) ?_
      refine g_getk (C := RX10) (T := TX10) (N := 10) hx hb hts (mc_ inX10) hown hK g rfl 0 (by decide) rfl (hts _ (List.mem_cons_of_mem _ t_912)) (fun _ h9 => h9) 8 rfl dX10_doMake_89 ?_
      refine lv_iload hx hb dX10_doMake_92 (lv_at hl 0 rfl) ?_
      have go_ := g
      refine g_calli (va_runV (As := [.int x_18]) (rest := []) ⟨hx, hb, hml, hown, hts⟩ (r_X7_hasClass l dC dI L kd tys fr_28 H.size g.2.2.2.1 q0_ mq0_ kq0_ x_18) (cwV 1 hts (gV_ t_1534 t_1281 t_1282 t_191 t_1283) rfl rfl rfl (by decide +kernel) ⟨(Nat.le_of_ble_eq_true rfl), (Nat.le_of_ble_eq_true rfl)⟩) (pre3V g hK mq0_ kq0_ (by decide) (q := (RX7, TX7, 19)) rfl) rfl rfl hl.1 rfl (lv_room (Nat.le_of_ble_eq_true rfl)) dX10_doMake_94 ⟨(Nat.le_of_ble_eq_true rfl), (Nat.le_of_ble_eq_true rfl)⟩) g hK (by decide) (by decide) (fx' := [(4, 9, a2_, .ref a_26), (4, 8, a2_, .ref a_22), (4, 7, a2_, .ref a_19), (9, 12, a_17, .int x_18), (7, 0, q0_, .ref a_16), (7, 1, q0_, .int x_10), (4, 6, a2_, .int x_4), (3, 3, a1_, .ref a_1), (10, 0, a0_, .ref q0_), (4, 14, a2_, .int y0_), (4, 0, a2_, .int y1_), (3, 0, a1_, .int y2_)]) rfl (fun r_30 fr_30 H locs hp hMr_30 g => ?_)
      have hG_31 := cOK.frame hMr_30 go_.2.2.2.1 mq0_ kq0_ (by decide) (by decide) hG_29
      rcases hp with ⟨h_32, -⟩ | ⟨h_33, h_34, x_35, h_36, hF_37⟩
      · obtain rfl : r_30 = 0 := h_32
        refine lv_if_eq (tgt := 120) hx hb dX10_doMake_97 (by decide) (fun c_ => ?_) (fun c_ => absurd (by decide) c_)
        refine lv_aload_n hx hb dX10_doMake_120 rfl (lv_at hl 5 rfl) ?_
        refine lv_dup hx hb dX10_doMake_121 rfl ?_
        refine g_getk (C := RX4) (T := TX4) (N := 17) hx hb hts (mc_ inX4) hown hK g rfl 6 (by decide) rfl (hts _ (List.mem_cons_of_mem _ t_851)) (fun _ h9 => h9) 6 rfl dX10_doMake_122 ?_
        refine lv_iconst (v := 1) hx hb dX10_doMake_125 (by decide) ?_
        have kb_1 : bd 1 1 (1 : Int32) := ⟨by decide, by decide⟩
        refine lv_iadd hx hb dX10_doMake_126 ?_
        refine lv_topi (fun y_38 ey_38 => ?_)
        have ty_38 := add_bd ey_38 b_15 kb_1 (by decide)
        have b_39 : bd 1 3 y_38 := add_rg ty_38 b_15 kb_1 (by decide)
        have go_ := g
        refine g_put (C := RX4) (T := TX4) (N := 17) hx hb hts (mc_ inX4) tyX4 tyX4_ok nmX4 hown hK g ma2_ ka2_ (by decide) rfl 6 (by decide) (hts _ (List.mem_cons_of_mem _ t_851)) (fun _ h9 => h9) rfl rfl (okV_i (bd_sub b_39 (by decide))) rfl rfl (by decide) (Or.inr (Or.inl (by decide))) (fx' := [(4, 9, a2_, .ref a_26), (4, 8, a2_, .ref a_22), (4, 7, a2_, .ref a_19), (9, 12, a_17, .int x_18), (7, 0, q0_, .ref a_16), (7, 1, q0_, .int x_10), (3, 3, a1_, .ref a_1), (10, 0, a0_, .ref q0_), (4, 14, a2_, .int y0_), (4, 0, a2_, .int y1_), (3, 0, a1_, .int y2_)]) rfl dX10_doMake_127 (fun f H locs hM_40 g => ?_)
        have hG_41 := cOK.frame hM_40 go_.2.2.2.1 mq0_ kq0_ (by decide) (by decide) hG_31
        refine lv_aload_n hx hb dX10_doMake_130 rfl (lv_at hl 5 rfl) ?_
        refine g_getr (K := 131) (C := RX4) (T := TX4) (N := 17) hx hb hts (mc_ inX4) hown hK g ma2_ ka2_ (by decide) rfl 13 (by decide) rfl (hts _ (List.mem_cons_of_mem _ t_871)) (fun _ h9 => h9) rfl dX10_doMake_131 (fun a_42 ma_42 ka_42 g => ?_)
        refine lv_iload_n hx hb dX10_doMake_134 rfl (lv_at hl 6 rfl) ?_
        refine lv_iconst (v := 1) hx hb dX10_doMake_135 (by decide) ?_
        have go_ := g
        refine g_iast hx hb hK g ma_42 ka_42 (by decide) rfl (in_bd bx3_ (by decide)) (bd_sub kb_1 (by decide)) (by decide) dX10_doMake_136 (fun f H locs hM_43 g => ?_)
        have hG_44 := cOK.frame hM_43 go_.2.2.2.1 mq0_ kq0_ (by decide) (by decide) hG_41
        refine lv_aload_n hx hb dX10_doMake_137 rfl (lv_at hl 3 rfl) ?_
        refine lv_aload_n hx hb dX10_doMake_138 rfl (lv_at hl 5 rfl) ?_
        refine lv_iload hx hb dX10_doMake_139 (lv_at hl 1 rfl) ?_
        obtain ⟨a_45, ma_45, ka_45, g⟩ := g_factr (K := 1) g ma0_ ka0_ (by decide) 1 rfl
        have go_ := g
        refine g_callv (va_runV (As := [.ref a2_, .int x_4]) (rest := []) ⟨hx, hb, hml, hown, hts⟩ (r_X10_askKept_6 l dC dI L kd tys f H.size g.2.2.2.1 a0_ ma0_ ka0_ a2_ ma2_ ka2_ x_4 b_15 q0_ mq0_ kq0_ a_45 ma_45 ka_45 y_38 b_39 x_10 h_11 y0_ by0_ y1_ by1_ hG_44 (g.fcts [10, 0, 2, 8, 11, 12] rfl)) (cwV 2 hts (gV_ t_1539 t_1541 t_56 t_194 t_1542) rfl rfl rfl (by decide +kernel) ⟨(Nat.le_of_ble_eq_true rfl), (Nat.le_of_ble_eq_true rfl)⟩) (pre3V g hK ma0_ ka0_ (by decide) (q := (RX10, TX10, 10)) rfl) rfl rfl hl.1 rfl (lv_room (Nat.le_of_ble_eq_true rfl)) dX10_doMake_141 ⟨(Nat.le_of_ble_eq_true rfl), (Nat.le_of_ble_eq_true rfl)⟩) g hK (by decide) (by decide) (fx' := [(10, 1, a0_, .ref a_45), (4, 13, a2_, .ref a_42), (4, 6, a2_, .int y_38), (4, 9, a2_, .ref a_26), (4, 8, a2_, .ref a_22), (4, 7, a2_, .ref a_19), (9, 12, a_17, .int x_18), (7, 0, q0_, .ref a_16), (7, 1, q0_, .int x_10), (3, 3, a1_, .ref a_1), (10, 0, a0_, .ref q0_), (4, 14, a2_, .int y0_), (3, 0, a1_, .int y2_)]) rfl (fun fr_46 H locs hp hMr_46 g => ?_)
        have hG_47 := cOK.frame hMr_46 go_.2.2.2.1 mq0_ kq0_ (by decide) (by decide) hG_44
        obtain ⟨a_48, ⟨ma_48, ka_48⟩, a_49, ⟨ma_49, ka_49⟩, a_50, ⟨ma_50, ka_50⟩, a_51, ⟨ma_51, ka_51⟩, hF_52⟩ := hp
        have g := g.more hF_52
        subst hQ
        exact W.vret hx hb hr (fun t ht hW => ⟨⟨_, rfl, trivial, q3_of g hK ht hW⟩, g.2.2.1.F ht⟩) g.2.2.1.2.2 dX10_doMake_144
      · obtain rfl : r_30 = 1 := h_33
        have b_53 : bd 0 7 x_18 := eqX rfl (bdT x_18) h_34 (by decide)
        have g := g.more hF_37
        have e_54 := fx_same g 6 0 rfl rfl
        have g := g.sub (fx' := [(4, 9, a2_, .ref a_26), (4, 8, a2_, .ref a_22), (4, 7, a2_, .ref a_19), (9, 12, a_17, .int x_18), (7, 0, q0_, .ref a_16), (7, 1, q0_, .int x_10), (4, 6, a2_, .int x_4), (3, 3, a1_, .ref a_1), (10, 0, a0_, .ref q0_), (4, 14, a2_, .int y0_), (4, 0, a2_, .int y1_), (3, 0, a1_, .int y2_)]) [1, 2, 3, 4, 5, 6, 7, 8, 9, 10, 11, 12] rfl
        refine lv_if_eq (tgt := 120) hx hb dX10_doMake_97 (by decide) (fun c_ => absurd c_ (by decide)) (fun c_ => ?_)
        refine lv_aload_n hx hb dX10_doMake_100 rfl (lv_at hl 3 rfl) ?_
        refine g_getk (C := RX10) (T := TX10) (N := 10) hx hb hts (mc_ inX10) hown hK g rfl 0 (by decide) rfl (hts _ (List.mem_cons_of_mem _ t_912)) (fun _ h9 => h9) 8 rfl dX10_doMake_101 ?_
        refine g_getk (C := RX7) (T := TX7) (N := 19) hx hb hts (mc_ inX7) hown hK g rfl 0 (by decide) rfl (hts _ (List.mem_cons_of_mem _ t_624)) (fun _ h9 => h9) 4 rfl dX10_doMake_104 ?_
        refine lv_iload hx hb dX10_doMake_107 (lv_at hl 0 rfl) ?_
        refine g_aald hx hb hK g ma_16 ka_16 (by decide) rfl (by decide) (in_bd b_53 (by decide)) dX10_doMake_109 (fun a_55 ma_55 ua_55 wa_55 => ?_)
        have ka_55 : kd a_55 = 9 := by omega
        refine lv_aload_n hx hb dX10_doMake_110 rfl (lv_at hl 5 rfl) ?_
        refine g_getr (K := 129) (C := RX4) (T := TX4) (N := 17) hx hb hts (mc_ inX4) hown hK g ma2_ ka2_ (by decide) rfl 10 (by decide) rfl (hts _ (List.mem_cons_of_mem _ t_863)) (fun _ h9 => h9) rfl dX10_doMake_111 (fun a_56 ma_56 ka_56 g => ?_)
        refine lv_iload hx hb dX10_doMake_114 (lv_at hl 1 rfl) ?_
        refine g_aald hx hb hK g ma_56 ka_56 (by decide) rfl (by decide) (in_bd b_15 (by decide)) dX10_doMake_116 (fun a_57 ma_57 ua_57 wa_57 => ?_)
        have ka_57 : kd a_57 = 101 := by omega
        have go_ := g
        refine g_callv (va_runV (As := [.ref a_57]) (rest := []) ⟨hx, hb, hml, hown, hts⟩ (r_X9_fillNew l dC dI L kd tys fr_30 H.size g.2.2.2.1 a_55 ma_55 ka_55 a_57 ma_57 ka_57) (cwV 1 hts (gV_ t_1535 t_1536 t_1537 t_192 t_1538) rfl rfl rfl (by decide +kernel) ⟨(Nat.le_of_ble_eq_true rfl), (Nat.le_of_ble_eq_true rfl)⟩) (pre3V g hK ma_55 ka_55 (by decide) (q := (RX9, TX9, 13)) rfl) rfl rfl hl.1 rfl (lv_room (Nat.le_of_ble_eq_true rfl)) dX10_doMake_117 ⟨(Nat.le_of_ble_eq_true rfl), (Nat.le_of_ble_eq_true rfl)⟩) g hK (by decide) (by decide) (fx' := [(4, 10, a2_, .ref a_56), (4, 9, a2_, .ref a_26), (4, 8, a2_, .ref a_22), (4, 7, a2_, .ref a_19), (9, 12, a_17, .int x_18), (7, 0, q0_, .ref a_16), (7, 1, q0_, .int x_10), (4, 6, a2_, .int x_4), (3, 3, a1_, .ref a_1), (10, 0, a0_, .ref q0_), (4, 14, a2_, .int y0_), (4, 0, a2_, .int y1_), (3, 0, a1_, .int y2_)]) rfl (fun fr_58 H locs hp hMr_58 g => ?_)
        have hG_59 := cOK.frame hMr_58 go_.2.2.2.1 mq0_ kq0_ (by decide) (by decide) hG_31
        refine lv_aload_n hx hb dX10_doMake_120 rfl (lv_at hl 5 rfl) ?_
        refine lv_dup hx hb dX10_doMake_121 rfl ?_
        refine g_getk (C := RX4) (T := TX4) (N := 17) hx hb hts (mc_ inX4) hown hK g rfl 6 (by decide) rfl (hts _ (List.mem_cons_of_mem _ t_851)) (fun _ h9 => h9) 7 rfl dX10_doMake_122 ?_
        refine lv_iconst (v := 1) hx hb dX10_doMake_125 (by decide) ?_
        have kb_1 : bd 1 1 (1 : Int32) := ⟨by decide, by decide⟩
        refine lv_iadd hx hb dX10_doMake_126 ?_
        refine lv_topi (fun y_60 ey_60 => ?_)
        have ty_60 := add_bd ey_60 b_15 kb_1 (by decide)
        have b_61 : bd 1 3 y_60 := add_rg ty_60 b_15 kb_1 (by decide)
        have go_ := g
        refine g_put (C := RX4) (T := TX4) (N := 17) hx hb hts (mc_ inX4) tyX4 tyX4_ok nmX4 hown hK g ma2_ ka2_ (by decide) rfl 6 (by decide) (hts _ (List.mem_cons_of_mem _ t_851)) (fun _ h9 => h9) rfl rfl (okV_i (bd_sub b_61 (by decide))) rfl rfl (by decide) (Or.inr (Or.inl (by decide))) (fx' := [(4, 10, a2_, .ref a_56), (4, 9, a2_, .ref a_26), (4, 8, a2_, .ref a_22), (4, 7, a2_, .ref a_19), (9, 12, a_17, .int x_18), (7, 0, q0_, .ref a_16), (7, 1, q0_, .int x_10), (3, 3, a1_, .ref a_1), (10, 0, a0_, .ref q0_), (4, 14, a2_, .int y0_), (4, 0, a2_, .int y1_), (3, 0, a1_, .int y2_)]) rfl dX10_doMake_127 (fun f H locs hM_62 g => ?_)
        have hG_63 := cOK.frame hM_62 go_.2.2.2.1 mq0_ kq0_ (by decide) (by decide) hG_59
        refine lv_aload_n hx hb dX10_doMake_130 rfl (lv_at hl 5 rfl) ?_
        refine g_getr (K := 131) (C := RX4) (T := TX4) (N := 17) hx hb hts (mc_ inX4) hown hK g ma2_ ka2_ (by decide) rfl 13 (by decide) rfl (hts _ (List.mem_cons_of_mem _ t_871)) (fun _ h9 => h9) rfl dX10_doMake_131 (fun a_64 ma_64 ka_64 g => ?_)
        refine lv_iload_n hx hb dX10_doMake_134 rfl (lv_at hl 6 rfl) ?_
        refine lv_iconst (v := 1) hx hb dX10_doMake_135 (by decide) ?_
        have go_ := g
        refine g_iast hx hb hK g ma_64 ka_64 (by decide) rfl (in_bd bx3_ (by decide)) (bd_sub kb_1 (by decide)) (by decide) dX10_doMake_136 (fun f H locs hM_65 g => ?_)
        have hG_66 := cOK.frame hM_65 go_.2.2.2.1 mq0_ kq0_ (by decide) (by decide) hG_63
        refine lv_aload_n hx hb dX10_doMake_137 rfl (lv_at hl 3 rfl) ?_
        refine lv_aload_n hx hb dX10_doMake_138 rfl (lv_at hl 5 rfl) ?_
        refine lv_iload hx hb dX10_doMake_139 (lv_at hl 1 rfl) ?_
        obtain ⟨a_67, ma_67, ka_67, g⟩ := g_factr (K := 1) g ma0_ ka0_ (by decide) 1 rfl
        have go_ := g
        refine g_callv (va_runV (As := [.ref a2_, .int x_4]) (rest := []) ⟨hx, hb, hml, hown, hts⟩ (r_X10_askKept_6 l dC dI L kd tys f H.size g.2.2.2.1 a0_ ma0_ ka0_ a2_ ma2_ ka2_ x_4 b_15 q0_ mq0_ kq0_ a_67 ma_67 ka_67 y_60 b_61 x_10 h_11 y0_ by0_ y1_ by1_ hG_66 (g.fcts [11, 0, 2, 9, 12, 13] rfl)) (cwV 2 hts (gV_ t_1539 t_1541 t_56 t_194 t_1542) rfl rfl rfl (by decide +kernel) ⟨(Nat.le_of_ble_eq_true rfl), (Nat.le_of_ble_eq_true rfl)⟩) (pre3V g hK ma0_ ka0_ (by decide) (q := (RX10, TX10, 10)) rfl) rfl rfl hl.1 rfl (lv_room (Nat.le_of_ble_eq_true rfl)) dX10_doMake_141 ⟨(Nat.le_of_ble_eq_true rfl), (Nat.le_of_ble_eq_true rfl)⟩) g hK (by decide) (by decide) (fx' := [(10, 1, a0_, .ref a_67), (4, 13, a2_, .ref a_64), (4, 6, a2_, .int y_60), (4, 10, a2_, .ref a_56), (4, 9, a2_, .ref a_26), (4, 8, a2_, .ref a_22), (4, 7, a2_, .ref a_19), (9, 12, a_17, .int x_18), (7, 0, q0_, .ref a_16), (7, 1, q0_, .int x_10), (3, 3, a1_, .ref a_1), (10, 0, a0_, .ref q0_), (4, 14, a2_, .int y0_), (3, 0, a1_, .int y2_)]) rfl (fun fr_68 H locs hp hMr_68 g => ?_)
        have hG_69 := cOK.frame hMr_68 go_.2.2.2.1 mq0_ kq0_ (by decide) (by decide) hG_66
        obtain ⟨a_70, ⟨ma_70, ka_70⟩, a_71, ⟨ma_71, ka_71⟩, a_72, ⟨ma_72, ka_72⟩, a_73, ⟨ma_73, ka_73⟩, hF_74⟩ := hp
        have g := g.more hF_74
        subst hQ
        exact W.vret hx hb hr (fun t ht hW => ⟨⟨_, rfl, trivial, q3_of g hK ht hW⟩, g.2.2.1.F ht⟩) g.2.2.1.2.2 dX10_doMake_144
    · have fc_14 := nlt_f c_14
      have b_75 : bd 3 3 x_4 := leR fc_14 kb_3 bx_4 (by decide)
      subst hQ
      exact W.vret hx hb hr (fun t ht hW => ⟨⟨_, rfl, trivial, q3_of g hK ht hW⟩, g.2.2.1.F ht⟩) g.2.2.1.2.2 dX10_doMake_34
set_option maxHeartbeats 4000000 in
set_option maxRecDepth 100000 in
theorem r_X10_runThrough (l : Launch) (dC : Nat → ClassId) (dI : Nat → Nat → Nat) (L : List Nat) (kd : Nat → Nat) (tys : List (ClassId × FieldType)) (f0 : Nat → va_E) (sz : Nat) (hWT : WT L kd tys f0) (a0_ : Nat) (ma0_ : a0_ ∈ L) (ka0_ : kd a0_ = 10) (a1_ : Nat) (ma1_ : a1_ ∈ L) (ka1_ : kd a1_ = 3) (a2_ : Nat) (ma2_ : a2_ ∈ L) (ka2_ : kd a2_ = 4) (q0_ : Nat) (mq0_ : q0_ ∈ L) (kq0_ : kd q0_ = 7) (hGq0_ : cOK f0 q0_) (hfx : Fs L kd f0 [(10, 0, a0_, .ref q0_)]) : Met l yX10_runThrough (.code yX10_runThrough cX10_runThrough 4 none :: lw_g) ({ frames := 5, cells := 0, slots := 0, locals := 132 }) (va_Pc [.ref a0_, .ref a1_, .ref a2_] (P3 (dC, dI) L tys f0 sz)) (va_Qv (fun (f : Nat → va_E) => (∃ z0_ : Int32, bd 0 9 z0_ ∧ Fs L kd f [(4, 14, a2_, .int z0_)])) (Q3 (dC, dI) L kd tys [(1, 0), (1, 1), (1, 2), (1, 3), (1, 4), (1, 5), (1, 6), (1, 8), (1, 11), (1, 12), (1, 13), (1, 14), (1, 15), (1, 16), (1, 17), (4, 0), (4, 1), (4, 2), (4, 3), (4, 4), (4, 5), (4, 6), (4, 14), (4, 15), (4, 16)] [100, 101, 102, 103, 116, 117, 126, 127, 130, 131, 146] f0 sz) (pA L sz)) 0 0 (pA L sz) := by
  refine Met.ofW (cc := cX10_runThrough) (maxL := 4) (ret := none) (by decide) rfl ?_
  intro p e s m args below meth c s₁ B hml hv
  obtain ⟨rfl, hsz, hP, hK, hD0⟩ := hv
  have hx := B.exec
  have hb := B.bytes
  have hr := B.returns
  have hts := atoms_spec (ws := (.code yX10_runThrough cX10_runThrough 4 none :: lw_g)) B.pre
  have hown : s.vm.findClass RX10 = some m.cls := findClass_of_methodNamed B.named
  have hlocks := B.notSynchronized
  subst hsz
  have g : G3 (dC, dI) L kd tys s f0 [(1, 0), (1, 1), (1, 2), (1, 3), (1, 4), (1, 5), (1, 6), (1, 8), (1, 11), (1, 12), (1, 13), (1, 14), (1, 15), (1, 16), (1, 17), (4, 0), (4, 1), (4, 2), (4, 3), (4, 4), (4, 5), (4, 6), (4, 14), (4, 15), (4, 16)] [100, 101, 102, 103, 116, 117, 126, 127, 130, 131, 146] f0 s.heap [] [(10, 0, a0_, .ref q0_)] := G3.start hP hD0 hWT hfx
  have hl := lv_entry ([.ref a0_, .ref a1_, .ref a2_]) (n := 4) (Nat.le_of_ble_eq_true rfl)
  rw [lg_entry_eq]
  generalize (lg_sl ([.ref a0_, .ref a1_, .ref a2_]) ++ List.replicate (4 - (lg_sl ([.ref a0_, .ref a1_, .ref a2_])).length) Slot.unset).toArray = ls at hl ⊢
  have hl : lv_has ls 4 [(0, .ref a0_), (1, .ref a1_), (2, .ref a2_)] := hl
  refine W_q (fun Q hQ => ?_)
  refine lv_aload_n hx hb dX10_runThrough_0 rfl (lv_at hl 2 rfl) ?_
  have go_ := g
  refine g_callv (va_runV (As := []) (rest := []) ⟨hx, hb, hml, hown, hts⟩ (r_X4_wipe l dC dI L kd tys f0 s.heap.size g.2.2.2.1 a2_ ma2_ ka2_) (cwV 0 hts (gV_ t_1426 t_1427 t_1428 t_197 t_1429) rfl rfl rfl (by decide +kernel) ⟨(Nat.le_of_ble_eq_true rfl), (Nat.le_of_ble_eq_true rfl)⟩) (pre3V g hK ma2_ ka2_ (by decide) (q := (RX4, TX4, 17)) rfl) rfl rfl hl.1 rfl (lv_room (Nat.le_of_ble_eq_true rfl)) dX10_runThrough_1 ⟨(Nat.le_of_ble_eq_true rfl), (Nat.le_of_ble_eq_true rfl)⟩) g hK (by decide) (by decide) (fx' := [(10, 0, a0_, .ref q0_)]) rfl (fun fr_1 H locs hp hMr_1 g => ?_)
  have hG_2 := cOK.frame hMr_1 go_.2.2.2.1 mq0_ kq0_ (by decide) (by decide) hGq0_
  have hF_3 := hp
  have g := g.more hF_3
  refine lv_iconst (v := 0) hx hb dX10_runThrough_4 (by decide) ?_
  refine lv_istore_n (lv' := [(3, .int 0), (0, .ref a0_), (1, .ref a1_), (2, .ref a2_)]) hx hb dX10_runThrough_5 rfl hl (by decide) rfl (fun ls hl => ?_)
  have loop_4 : ∀ (n : Nat) (v6_3 : Int32) (w6_4_14_a2_ : Int32), bd 0 10 v6_3 → bd 0 9 w6_4_14_a2_ → (10 - v6_3.toInt < (n : Int)) → ∀ (f : Nat → va_E) (H : Heap) (locs : List Loc) (ls : Array Slot), G3 (dC, dI) L kd tys s f0 [(1, 0), (1, 1), (1, 2), (1, 3), (1, 4), (1, 5), (1, 6), (1, 8), (1, 11), (1, 12), (1, 13), (1, 14), (1, 15), (1, 16), (1, 17), (4, 0), (4, 1), (4, 2), (4, 3), (4, 4), (4, 5), (4, 6), (4, 14), (4, 15), (4, 16)] [100, 101, 102, 103, 116, 117, 126, 127, 130, 131, 146] f H locs [(4, 14, a2_, .int w6_4_14_a2_), (10, 0, a0_, .ref q0_)] → cOK f q0_ → lv_has ls 4 [(3, .int v6_3), (0, .ref a0_), (1, .ref a1_), (2, .ref a2_)] → W p l e ({ frames := 5, cells := 0, slots := 0, locals := 132 } : Room) s m [.ref a0_, .ref a1_, .ref a2_].toArray below meth c H locs 0 0 Q (F0 m 6 ls []) := by
    intro n6
    induction n6 with
    | zero =>
      intro v6_3 w6_4_14_a2_ bv6_3 bw6_4_14_a2_ hm6 f H locs ls g hG6_q0_ hl
      exact absurd hm6 (by have h9_v6_3 := bv6_3; unfold bd at h9_v6_3; have h9_w6_4_14_a2_ := bw6_4_14_a2_; unfold bd at h9_w6_4_14_a2_; omega)
    | succ n6 ih6 =>
      intro v6_3 w6_4_14_a2_ bv6_3 bw6_4_14_a2_ hm6 f H locs ls g hG6_q0_ hl
      refine lv_iload_n hx hb dX10_runThrough_6 rfl (lv_at hl 0 rfl) ?_
      refine lv_aload_n hx hb dX10_runThrough_7 rfl (lv_at hl 2 rfl) ?_
      refine g_geti (C := RX3) (T := TX3) (N := 6) hx hb hts (mc_ inX3) hown hK g ma1_ ka1_ (by decide) rfl 0 (by decide) rfl (hts _ (List.mem_cons_of_mem _ t_802)) (fun _ h9 => h9) rfl dX10_runThrough_8 (fun x_5 bx_5 g => ?_)
      refine lv_icmp_ge (tgt := 59) hx hb dX10_runThrough_11 (by decide) (fun c_6 => ?_) (fun c_6 => ?_)
      · have fc_6 := le_f c_6
        subst hQ
        exact W.vret hx hb hr (fun t ht hW => ⟨⟨_, rfl, ⟨w6_4_14_a2_, bw6_4_14_a2_, (g.fcts [1] rfl)⟩, q3_of g hK ht hW⟩, g.2.2.1.F ht⟩) g.2.2.1.2.2 dX10_runThrough_59
      · have fc_6 := nle_f c_6
        have b_7 : bd 0 9 v6_3 := ltL fc_6 bv6_3 bx_5 (by decide)
        have b_8 : bd 1 10 x_5 := ltR fc_6 bv6_3 bx_5 (by decide)
        refine lv_aload_n hx hb dX10_runThrough_14 rfl (lv_at hl 3 rfl) ?_
        refine g_geti (C := RX4) (T := TX4) (N := 17) hx hb hts (mc_ inX4) hown hK g ma2_ ka2_ (by decide) rfl 0 (by decide) rfl (hts _ (List.mem_cons_of_mem _ t_837)) (fun _ h9 => h9) rfl dX10_runThrough_15 (fun x_9 bx_9 g => ?_)
        have kb_0 : bd 0 0 (0 : Int32) := ⟨by decide, by decide⟩
        refine lv_if_ne (tgt := 59) hx hb dX10_runThrough_18 (by decide) (fun c_10 => ?_) (fun c_10 => ?_)
        · have fc_10 := neq_f c_10
          subst hQ
          exact W.vret hx hb hr (fun t ht hW => ⟨⟨_, rfl, ⟨w6_4_14_a2_, bw6_4_14_a2_, (g.fcts [2] rfl)⟩, q3_of g hK ht hW⟩, g.2.2.1.F ht⟩) g.2.2.1.2.2 dX10_runThrough_59
        · have fc_10 := eq_f c_10
          have b_11 : bd 0 0 x_9 := eqX fc_10 (bdT x_9) kb_0 (by decide)
          refine lv_aload_n hx hb dX10_runThrough_21 rfl (lv_at hl 3 rfl) ?_
          refine lv_iload_n hx hb dX10_runThrough_22 rfl (lv_at hl 0 rfl) ?_
          have go_ := g
          refine g_put (C := RX4) (T := TX4) (N := 17) hx hb hts (mc_ inX4) tyX4 tyX4_ok nmX4 hown hK g ma2_ ka2_ (by decide) rfl 14 (by decide) (hts _ (List.mem_cons_of_mem _ t_874)) (fun _ h9 => h9) rfl rfl (okV_i (bd_sub b_7 (by decide))) rfl rfl (by decide) (Or.inr (Or.inl (by decide))) (fx' := [(4, 0, a2_, .int x_9), (3, 0, a1_, .int x_5), (10, 0, a0_, .ref q0_)]) rfl dX10_runThrough_23 (fun f H locs hM_12 g => ?_)
          have hG_13 := cOK.frame hM_12 go_.2.2.2.1 mq0_ kq0_ (by decide) (by decide) hG6_q0_
          refine lv_aload_n hx hb dX10_runThrough_26 rfl (lv_at hl 2 rfl) ?_
          refine g_getr (K := 123) (C := RX3) (T := TX3) (N := 6) hx hb hts (mc_ inX3) hown hK g ma1_ ka1_ (by decide) rfl 2 (by decide) rfl (hts _ (List.mem_cons_of_mem _ t_808)) (fun _ h9 => h9) rfl dX10_runThrough_27 (fun a_14 ma_14 ka_14 g => ?_)
          refine lv_iload_n hx hb dX10_runThrough_30 rfl (lv_at hl 0 rfl) ?_
          refine g_iald hx hb hK g ma_14 ka_14 (by decide) rfl (in_bd b_7 (by decide)) dX10_runThrough_31 (fun x_15 bx_15 cx_15 => ?_)
          refine lv_iconst (v := (-1)) hx hb dX10_runThrough_32 (by decide) ?_
          have kb_m1 : bd (-1) (-1) ((-1) : Int32) := ⟨by decide, by decide⟩
          refine lv_icmp_ne (tgt := 46) hx hb dX10_runThrough_33 (by decide) (fun c_16 => ?_) (fun c_16 => ?_)
          · have fc_16 := neq_f c_16
            have b_17 : bd 0 11 x_15 := neX fc_16 bx_15 kb_m1 (by decide)
            refine lv_aload_n hx hb dX10_runThrough_46 rfl (lv_at hl 1 rfl) ?_
            refine lv_aload_n hx hb dX10_runThrough_47 rfl (lv_at hl 2 rfl) ?_
            refine lv_aload_n hx hb dX10_runThrough_48 rfl (lv_at hl 3 rfl) ?_
            refine lv_iload_n hx hb dX10_runThrough_49 rfl (lv_at hl 0 rfl) ?_
            have go_ := g
            refine g_callv (va_runV (As := [.ref a1_, .ref a2_, .int v6_3]) (rest := []) ⟨hx, hb, hml, hown, hts⟩ (r_X10_doCall_4 l dC dI L kd tys f H.size g.2.2.2.1 a0_ ma0_ ka0_ a1_ ma1_ ka1_ a2_ ma2_ ka2_ v6_3 b_7 q0_ mq0_ kq0_ v6_3 b_7 x_9 b_11 x_5 b_8 hG_13 (g.fcts [4, 1, 2, 3] rfl)) (cwV 3 hts (gV_ t_1610 t_1612 t_69 t_194 t_1613) rfl rfl rfl (by decide +kernel) ⟨(Nat.le_of_ble_eq_true rfl), (Nat.le_of_ble_eq_true rfl)⟩) (pre3V g hK ma0_ ka0_ (by decide) (q := (RX10, TX10, 10)) rfl) rfl rfl hl.1 rfl (lv_room (Nat.le_of_ble_eq_true rfl)) dX10_runThrough_50 ⟨(Nat.le_of_ble_eq_true rfl), (Nat.le_of_ble_eq_true rfl)⟩) g hK (by decide) (by decide) (fx' := [(3, 2, a1_, .ref a_14), (4, 14, a2_, .int v6_3), (3, 0, a1_, .int x_5), (10, 0, a0_, .ref q0_)]) rfl (fun fr_18 H locs hp hMr_18 g => ?_)
            have hG_19 := cOK.frame hMr_18 go_.2.2.2.1 mq0_ kq0_ (by decide) (by decide) hG_13
            have kb_1 : bd 1 1 (1 : Int32) := ⟨by decide, by decide⟩
            obtain ⟨y_20, ey_20⟩ : ∃ z : Int32, z = v6_3 + 1 := ⟨_, rfl⟩
            refine lv_iinc (v := y_20) (lv' := [(3, .int y_20), (0, .ref a0_), (1, .ref a1_), (2, .ref a2_)]) hx hb dX10_runThrough_53 hl (k := 0) rfl (by rw [ey_20]; rfl) (by decide) rfl (fun ls hl => ?_)
            have ty_20 := add_bd ey_20 b_7 kb_1 (by decide)
            have b_21 : bd 1 10 y_20 := add_rg ty_20 b_7 kb_1 (by decide)
            refine lv_goto (tgt := 6) hx hb dX10_runThrough_56 (by decide) ?_
            have hl9 := lv_sub hl [0, 1, 2, 3] (by rfl : lv_pick [(3, .int y_20), (0, .ref a0_), (1, .ref a1_), (2, .ref a2_)] [0, 1, 2, 3] = [(3, .int y_20), (0, .ref a0_), (1, .ref a1_), (2, .ref a2_)])
            have g9 := g.sub (fx' := [(4, 14, a2_, .int v6_3), (10, 0, a0_, .ref q0_)]) [1, 3] rfl
            exact ih6  y_20 v6_3 (bd_sub b_21 (by decide)) b_7 (by have h9_0 := b_21; unfold bd at h9_0; have h9_1 := b_7; unfold bd at h9_1; have h9_2 := bv6_3; unfold bd at h9_2; have h9_3 := bw6_4_14_a2_; unfold bd at h9_3; have h9_4 := kb_0; unfold bd at h9_4; have h9_5 := kb_1; unfold bd at h9_5; have h9_6 := kb_m1; unfold bd at h9_6; omega) _ _ _ _ g9 hG_19 hl9
          · have fc_16 := eq_f c_16
            have b_22 : bd (-1) (-1) x_15 := eqX fc_16 bx_15 kb_m1 (by decide)
            refine lv_aload_n hx hb dX10_runThrough_36 rfl (lv_at hl 1 rfl) ?_
            refine lv_aload_n hx hb dX10_runThrough_37 rfl (lv_at hl 2 rfl) ?_
            refine lv_aload_n hx hb dX10_runThrough_38 rfl (lv_at hl 3 rfl) ?_
            refine lv_iload_n hx hb dX10_runThrough_39 rfl (lv_at hl 0 rfl) ?_
            have go_ := g
            refine g_callv (va_runV (As := [.ref a1_, .ref a2_, .int v6_3]) (rest := []) ⟨hx, hb, hml, hown, hts⟩ (r_X10_doMake_4 l dC dI L kd tys f H.size g.2.2.2.1 a0_ ma0_ ka0_ a1_ ma1_ ka1_ a2_ ma2_ ka2_ v6_3 b_7 q0_ mq0_ kq0_ v6_3 b_7 x_9 b_11 x_5 b_8 hG_13 (g.fcts [4, 1, 2, 3] rfl)) (cwV 3 hts (gV_ t_1530 t_1532 t_55 t_194 t_1533) rfl rfl rfl (by decide +kernel) ⟨(Nat.le_of_ble_eq_true rfl), (Nat.le_of_ble_eq_true rfl)⟩) (pre3V g hK ma0_ ka0_ (by decide) (q := (RX10, TX10, 10)) rfl) rfl rfl hl.1 rfl (lv_room (Nat.le_of_ble_eq_true rfl)) dX10_runThrough_40 ⟨(Nat.le_of_ble_eq_true rfl), (Nat.le_of_ble_eq_true rfl)⟩) g hK (by decide) (by decide) (fx' := [(3, 2, a1_, .ref a_14), (4, 14, a2_, .int v6_3), (3, 0, a1_, .int x_5), (10, 0, a0_, .ref q0_)]) rfl (fun fr_23 H locs hp hMr_23 g => ?_)
            have hG_24 := cOK.frame hMr_23 go_.2.2.2.1 mq0_ kq0_ (by decide) (by decide) hG_13
            refine lv_goto (tgt := 53) hx hb dX10_runThrough_43 (by decide) ?_
            have kb_1 : bd 1 1 (1 : Int32) := ⟨by decide, by decide⟩
            obtain ⟨y_25, ey_25⟩ : ∃ z : Int32, z = v6_3 + 1 := ⟨_, rfl⟩
            refine lv_iinc (v := y_25) (lv' := [(3, .int y_25), (0, .ref a0_), (1, .ref a1_), (2, .ref a2_)]) hx hb dX10_runThrough_53 hl (k := 0) rfl (by rw [ey_25]; rfl) (by decide) rfl (fun ls hl => ?_)
            have ty_25 := add_bd ey_25 b_7 kb_1 (by decide)
            have b_26 : bd 1 10 y_25 := add_rg ty_25 b_7 kb_1 (by decide)
            refine lv_goto (tgt := 6) hx hb dX10_runThrough_56 (by decide) ?_
            have hl9 := lv_sub hl [0, 1, 2, 3] (by rfl : lv_pick [(3, .int y_25), (0, .ref a0_), (1, .ref a1_), (2, .ref a2_)] [0, 1, 2, 3] = [(3, .int y_25), (0, .ref a0_), (1, .ref a1_), (2, .ref a2_)])
            have g9 := g.sub (fx' := [(4, 14, a2_, .int v6_3), (10, 0, a0_, .ref q0_)]) [1, 3] rfl
            exact ih6  y_25 v6_3 (bd_sub b_26 (by decide)) b_7 (by have h9_0 := b_26; unfold bd at h9_0; have h9_1 := b_7; unfold bd at h9_1; have h9_2 := bv6_3; unfold bd at h9_2; have h9_3 := bw6_4_14_a2_; unfold bd at h9_3; have h9_4 := kb_0; unfold bd at h9_4; have h9_5 := kb_1; unfold bd at h9_5; have h9_6 := kb_m1; unfold bd at h9_6; omega) _ _ _ _ g9 hG_24 hl9
  have kb_0 : bd 0 0 (0 : Int32) := ⟨by decide, by decide⟩
  have hl9 := lv_sub hl [0, 1, 2, 3] (by rfl : lv_pick [(3, .int 0), (0, .ref a0_), (1, .ref a1_), (2, .ref a2_)] [0, 1, 2, 3] = [(3, .int 0), (0, .ref a0_), (1, .ref a1_), (2, .ref a2_)])
  have g9 := g.sub (fx' := [(4, 14, a2_, .int 0), (10, 0, a0_, .ref q0_)]) [0, 7] rfl
  exact loop_4 (23) 0 0 (bd_sub kb_0 (by decide)) (bd_sub kb_0 (by decide)) (by have h9_0 := kb_0; unfold bd at h9_0; omega) _ _ _ _ g9 hG_2 hl9
set_option maxHeartbeats 4000000 in
set_option maxRecDepth 100000 in
theorem r_X10_runOwnRow (l : Launch) (dC : Nat → ClassId) (dI : Nat → Nat → Nat) (L : List Nat) (kd : Nat → Nat) (tys : List (ClassId × FieldType)) (f0 : Nat → va_E) (sz : Nat) (hWT : WT L kd tys f0) (a0_ : Nat) (ma0_ : a0_ ∈ L) (ka0_ : kd a0_ = 10) (q0_ : Nat) (mq0_ : q0_ ∈ L) (kq0_ : kd q0_ = 7) (q1_ : Nat) (mq1_ : q1_ ∈ L) (kq1_ : kd q1_ = 4) (hGq0_ : cOK f0 q0_) (hfx : Fs L kd f0 [(10, 0, a0_, .ref q0_), (10, 4, a0_, .ref q1_)]) : Met l yX10_runOwnRow (.code yX10_runOwnRow cX10_runOwnRow 1 none :: lw_g) ({ frames := 6, cells := 0, slots := 0, locals := 155 }) (va_Pc [.ref a0_] (P3 (dC, dI) L tys f0 sz)) (va_Qv (fun (f : Nat → va_E) => (∃ z1_ : Int32, bd 0 9 z1_ ∧ Fs L kd f [(10, 8, a0_, .int 1), (4, 14, q1_, .int z1_)])) (Q3 (dC, dI) L kd tys [(1, 0), (1, 1), (1, 2), (1, 3), (1, 4), (1, 5), (1, 6), (1, 8), (1, 11), (1, 12), (1, 13), (1, 14), (1, 15), (1, 16), (1, 17), (4, 0), (4, 1), (4, 2), (4, 3), (4, 4), (4, 5), (4, 6), (4, 14), (4, 15), (4, 16), (10, 8)] [100, 101, 102, 103, 116, 117, 126, 127, 130, 131, 146] f0 sz) (pA L sz)) 0 0 (pA L sz) := by
  refine Met.ofW (cc := cX10_runOwnRow) (maxL := 1) (ret := none) (by decide) rfl ?_
  intro p e s m args below meth c s₁ B hml hv
  obtain ⟨rfl, hsz, hP, hK, hD0⟩ := hv
  have hx := B.exec
  have hb := B.bytes
  have hr := B.returns
  have hts := atoms_spec (ws := (.code yX10_runOwnRow cX10_runOwnRow 1 none :: lw_g)) B.pre
  have hown : s.vm.findClass RX10 = some m.cls := findClass_of_methodNamed B.named
  have hlocks := B.notSynchronized
  subst hsz
  have g : G3 (dC, dI) L kd tys s f0 [(1, 0), (1, 1), (1, 2), (1, 3), (1, 4), (1, 5), (1, 6), (1, 8), (1, 11), (1, 12), (1, 13), (1, 14), (1, 15), (1, 16), (1, 17), (4, 0), (4, 1), (4, 2), (4, 3), (4, 4), (4, 5), (4, 6), (4, 14), (4, 15), (4, 16), (10, 8)] [100, 101, 102, 103, 116, 117, 126, 127, 130, 131, 146] f0 s.heap [] [(10, 0, a0_, .ref q0_), (10, 4, a0_, .ref q1_)] := G3.start hP hD0 hWT hfx
  have hl := lv_entry ([.ref a0_]) (n := 1) (Nat.le_of_ble_eq_true rfl)
  rw [lg_entry_eq]
  generalize (lg_sl ([.ref a0_]) ++ List.replicate (1 - (lg_sl ([.ref a0_])).length) Slot.unset).toArray = ls at hl ⊢
  have hl : lv_has ls 1 [(0, .ref a0_)] := hl
  refine W_q (fun Q hQ => ?_)
  refine lv_aload_n hx hb dX10_runOwnRow_0 rfl (lv_at hl 0 rfl) ?_
  refine lv_aload_n hx hb dX10_runOwnRow_1 rfl (lv_at hl 0 rfl) ?_
  refine g_getr (K := 3) (C := RX10) (T := TX10) (N := 10) hx hb hts (mc_ inX10) hown hK g ma0_ ka0_ (by decide) rfl 2 (by decide) rfl (hts _ (List.mem_cons_of_mem _ t_914)) (fun _ h9 => h9) rfl dX10_runOwnRow_2 (fun a_1 ma_1 ka_1 g => ?_)
  refine lv_aload_n hx hb dX10_runOwnRow_5 rfl (lv_at hl 0 rfl) ?_
  refine g_getk (C := RX10) (T := TX10) (N := 10) hx hb hts (mc_ inX10) hown hK g rfl 4 (by decide) rfl (hts _ (List.mem_cons_of_mem _ t_917)) (fun _ h9 => h9) 2 rfl dX10_runOwnRow_6 ?_
  have go_ := g
  refine g_callv (va_runV (As := [.ref a_1, .ref q1_]) (rest := []) ⟨hx, hb, hml, hown, hts⟩ (r_X10_runThrough l dC dI L kd tys f0 s.heap.size g.2.2.2.1 a0_ ma0_ ka0_ a_1 ma_1 ka_1 q1_ mq1_ kq1_ q0_ mq0_ kq0_ hGq0_ (g.fcts [1] rfl)) (cwV 2 hts (gV_ t_1526 t_1528 t_54 t_194 t_1529) rfl rfl rfl (by decide +kernel) ⟨(Nat.le_of_ble_eq_true rfl), (Nat.le_of_ble_eq_true rfl)⟩) (pre3V g hK ma0_ ka0_ (by decide) (q := (RX10, TX10, 10)) rfl) rfl rfl hl.1 rfl (lv_room (Nat.le_of_ble_eq_true rfl)) dX10_runOwnRow_9 ⟨(Nat.le_of_ble_eq_true rfl), (Nat.le_of_ble_eq_true rfl)⟩) g hK (by decide) (by decide) (fx' := [(10, 2, a0_, .ref a_1), (10, 0, a0_, .ref q0_), (10, 4, a0_, .ref q1_)]) rfl (fun fr_2 H locs hp hMr_2 g => ?_)
  have hG_3 := cOK.frame hMr_2 go_.2.2.2.1 mq0_ kq0_ (by decide) (by decide) hGq0_
  obtain ⟨x_4, h_5, hF_6⟩ := hp
  have g := g.more hF_6
  refine lv_aload_n hx hb dX10_runOwnRow_12 rfl (lv_at hl 0 rfl) ?_
  refine lv_iconst (v := 1) hx hb dX10_runOwnRow_13 (by decide) ?_
  have kb_1 : bd 1 1 (1 : Int32) := ⟨by decide, by decide⟩
  have go_ := g
  refine g_put (C := RX10) (T := TX10) (N := 10) hx hb hts (mc_ inX10) tyX10 tyX10_ok nmX10 hown hK g ma0_ ka0_ (by decide) rfl 8 (by decide) (hts _ (List.mem_cons_of_mem _ t_924)) (fun _ h9 => h9) rfl rfl (okV_i (bd_sub kb_1 (by decide))) rfl rfl (by decide) (Or.inr (Or.inl (by decide))) (fx' := [(4, 14, q1_, .int x_4), (10, 2, a0_, .ref a_1), (10, 0, a0_, .ref q0_), (10, 4, a0_, .ref q1_)]) rfl dX10_runOwnRow_14 (fun f H locs hM_7 g => ?_)
  have hG_8 := cOK.frame hM_7 go_.2.2.2.1 mq0_ kq0_ (by decide) (by decide) hG_3
  subst hQ
  exact W.vret hx hb hr (fun t ht hW => ⟨⟨_, rfl, ⟨x_4, h_5, (g.fcts [0, 1] rfl)⟩, q3_of g hK ht hW⟩, g.2.2.1.F ht⟩) g.2.2.1.2.2 dX10_runOwnRow_17
set_option maxHeartbeats 4000000 in
set_option maxRecDepth 100000 in
theorem r_X10_tellOfSpare (l : Launch) (dC : Nat → ClassId) (dI : Nat → Nat → Nat) (L : List Nat) (kd : Nat → Nat) (tys : List (ClassId × FieldType)) (f0 : Nat → va_E) (sz : Nat) (hWT : WT L kd tys f0) (a0_ : Nat) (ma0_ : a0_ ∈ L) (ka0_ : kd a0_ = 10) : Met l yX10_tellOfSpare (.code yX10_tellOfSpare cX10_tellOfSpare 3 none :: lw_g) ({ frames := 0, cells := 0, slots := 0, locals := 0 }) (va_Pc [.ref a0_] (P3 (dC, dI) L tys f0 sz)) (va_Qv (fun (f : Nat → va_E) => (Fs L kd f [(10, 8, a0_, .int 1)])) (Q3 (dC, dI) L kd tys [(10, 2), (10, 3), (10, 4), (10, 5), (10, 8)] [] f0 sz) (pA L sz)) 0 0 (pA L sz) := by
  refine Met.ofW (cc := cX10_tellOfSpare) (maxL := 3) (ret := none) (by decide) rfl ?_
  intro p e s m args below meth c s₁ B hml hv
  obtain ⟨rfl, hsz, hP, hK, hD0⟩ := hv
  have hx := B.exec
  have hb := B.bytes
  have hr := B.returns
  have hts := atoms_spec (ws := (.code yX10_tellOfSpare cX10_tellOfSpare 3 none :: lw_g)) B.pre
  have hown : s.vm.findClass RX10 = some m.cls := findClass_of_methodNamed B.named
  have hlocks := B.notSynchronized
  subst hsz
  have g : G3 (dC, dI) L kd tys s f0 [(10, 2), (10, 3), (10, 4), (10, 5), (10, 8)] [] f0 s.heap [] [] := G3.start hP hD0 hWT Fs.nil
  have hl := lv_entry ([.ref a0_]) (n := 3) (Nat.le_of_ble_eq_true rfl)
  rw [lg_entry_eq]
  generalize (lg_sl ([.ref a0_]) ++ List.replicate (3 - (lg_sl ([.ref a0_])).length) Slot.unset).toArray = ls at hl ⊢
  have hl : lv_has ls 3 [(0, .ref a0_)] := hl
  refine W_q (fun Q hQ => ?_)
  refine lv_aload_n hx hb dX10_tellOfSpare_0 rfl (lv_at hl 0 rfl) ?_
  refine g_getr (K := 3) (C := RX10) (T := TX10) (N := 10) hx hb hts (mc_ inX10) hown hK g ma0_ ka0_ (by decide) rfl 2 (by decide) rfl (hts _ (List.mem_cons_of_mem _ t_914)) (fun _ h9 => h9) rfl dX10_tellOfSpare_1 (fun a_1 ma_1 ka_1 g => ?_)
  refine lv_astore_n (lv' := [(1, .ref a_1), (0, .ref a0_)]) hx hb dX10_tellOfSpare_4 rfl hl (by decide) rfl (fun ls hl => ?_)
  refine lv_aload_n hx hb dX10_tellOfSpare_5 rfl (lv_at hl 1 rfl) ?_
  refine lv_aload_n hx hb dX10_tellOfSpare_6 rfl (lv_at hl 1 rfl) ?_
  refine g_getr (K := 3) (C := RX10) (T := TX10) (N := 10) hx hb hts (mc_ inX10) hown hK g ma0_ ka0_ (by decide) rfl 3 (by decide) rfl (hts _ (List.mem_cons_of_mem _ t_916)) (fun _ h9 => h9) rfl dX10_tellOfSpare_7 (fun a_2 ma_2 ka_2 g => ?_)
  refine g_put (C := RX10) (T := TX10) (N := 10) hx hb hts (mc_ inX10) tyX10 tyX10_ok nmX10 hown hK g ma0_ ka0_ (by decide) rfl 2 (by decide) (hts _ (List.mem_cons_of_mem _ t_914)) (fun _ h9 => h9) rfl rfl (okV_r ma_2 ka_2 (by decide)) rfl rfl (by decide) (Or.inr (Or.inl (by decide))) (fx' := [(10, 3, a0_, .ref a_2)]) rfl dX10_tellOfSpare_10 (fun f H locs hM_3 g => ?_)
  refine lv_aload_n hx hb dX10_tellOfSpare_13 rfl (lv_at hl 1 rfl) ?_
  refine lv_aload_n hx hb dX10_tellOfSpare_14 rfl (lv_at hl 0 rfl) ?_
  refine g_put (C := RX10) (T := TX10) (N := 10) hx hb hts (mc_ inX10) tyX10 tyX10_ok nmX10 hown hK g ma0_ ka0_ (by decide) rfl 3 (by decide) (hts _ (List.mem_cons_of_mem _ t_916)) (fun _ h9 => h9) rfl rfl (okV_r ma_1 ka_1 (by decide)) rfl rfl (by decide) (Or.inr (Or.inl (by decide))) (fx' := [(10, 2, a0_, .ref a_2)]) rfl dX10_tellOfSpare_15 (fun f H locs hM_4 g => ?_)
  refine lv_aload_n hx hb dX10_tellOfSpare_18 rfl (lv_at hl 1 rfl) ?_
  refine g_getr (K := 4) (C := RX10) (T := TX10) (N := 10) hx hb hts (mc_ inX10) hown hK g ma0_ ka0_ (by decide) rfl 4 (by decide) rfl (hts _ (List.mem_cons_of_mem _ t_917)) (fun _ h9 => h9) rfl dX10_tellOfSpare_19 (fun a_5 ma_5 ka_5 g => ?_)
  refine lv_astore_n (lv' := [(2, .ref a_5), (1, .ref a_1), (0, .ref a0_)]) hx hb dX10_tellOfSpare_22 rfl hl (by decide) rfl (fun ls hl => ?_)
  refine lv_aload_n hx hb dX10_tellOfSpare_23 rfl (lv_at hl 2 rfl) ?_
  refine lv_aload_n hx hb dX10_tellOfSpare_24 rfl (lv_at hl 2 rfl) ?_
  refine g_getr (K := 4) (C := RX10) (T := TX10) (N := 10) hx hb hts (mc_ inX10) hown hK g ma0_ ka0_ (by decide) rfl 5 (by decide) rfl (hts _ (List.mem_cons_of_mem _ t_919)) (fun _ h9 => h9) rfl dX10_tellOfSpare_25 (fun a_6 ma_6 ka_6 g => ?_)
  refine g_put (C := RX10) (T := TX10) (N := 10) hx hb hts (mc_ inX10) tyX10 tyX10_ok nmX10 hown hK g ma0_ ka0_ (by decide) rfl 4 (by decide) (hts _ (List.mem_cons_of_mem _ t_917)) (fun _ h9 => h9) rfl rfl (okV_r ma_6 ka_6 (by decide)) rfl rfl (by decide) (Or.inr (Or.inl (by decide))) (fx' := [(10, 5, a0_, .ref a_6), (10, 3, a0_, .ref a_1), (10, 2, a0_, .ref a_2)]) rfl dX10_tellOfSpare_28 (fun f H locs hM_7 g => ?_)
  refine lv_aload_n hx hb dX10_tellOfSpare_31 rfl (lv_at hl 2 rfl) ?_
  refine lv_aload_n hx hb dX10_tellOfSpare_32 rfl (lv_at hl 0 rfl) ?_
  refine g_put (C := RX10) (T := TX10) (N := 10) hx hb hts (mc_ inX10) tyX10 tyX10_ok nmX10 hown hK g ma0_ ka0_ (by decide) rfl 5 (by decide) (hts _ (List.mem_cons_of_mem _ t_919)) (fun _ h9 => h9) rfl rfl (okV_r ma_5 ka_5 (by decide)) rfl rfl (by decide) (Or.inr (Or.inl (by decide))) (fx' := [(10, 4, a0_, .ref a_6), (10, 3, a0_, .ref a_1), (10, 2, a0_, .ref a_2)]) rfl dX10_tellOfSpare_33 (fun f H locs hM_8 g => ?_)
  refine lv_aload_n hx hb dX10_tellOfSpare_36 rfl (lv_at hl 2 rfl) ?_
  refine lv_iconst (v := 1) hx hb dX10_tellOfSpare_37 (by decide) ?_
  have kb_1 : bd 1 1 (1 : Int32) := ⟨by decide, by decide⟩
  refine g_put (C := RX10) (T := TX10) (N := 10) hx hb hts (mc_ inX10) tyX10 tyX10_ok nmX10 hown hK g ma0_ ka0_ (by decide) rfl 8 (by decide) (hts _ (List.mem_cons_of_mem _ t_924)) (fun _ h9 => h9) rfl rfl (okV_i (bd_sub kb_1 (by decide))) rfl rfl (by decide) (Or.inr (Or.inl (by decide))) (fx' := [(10, 5, a0_, .ref a_5), (10, 4, a0_, .ref a_6), (10, 3, a0_, .ref a_1), (10, 2, a0_, .ref a_2)]) rfl dX10_tellOfSpare_38 (fun f H locs hM_9 g => ?_)
  subst hQ
  exact W.vret hx hb hr (fun t ht hW => ⟨⟨_, rfl, (g.fcts [0] rfl), q3_of g hK ht hW⟩, g.2.2.1.F ht⟩) g.2.2.1.2.2 dX10_tellOfSpare_41
set_option maxHeartbeats 4000000 in
set_option maxRecDepth 100000 in
theorem r_X10_countSpare (l : Launch) (dC : Nat → ClassId) (dI : Nat → Nat → Nat) (L : List Nat) (kd : Nat → Nat) (tys : List (ClassId × FieldType)) (f0 : Nat → va_E) (sz : Nat) (hWT : WT L kd tys f0) (a0_ : Nat) (ma0_ : a0_ ∈ L) (ka0_ : kd a0_ = 10) : Met l yX10_countSpare (.code yX10_countSpare cX10_countSpare 1 none :: lw_g) ({ frames := 0, cells := 0, slots := 0, locals := 0 }) (va_Pc [.ref a0_] (P3 (dC, dI) L tys f0 sz)) (va_Qv (fun (f : Nat → va_E) => (True)) (Q3 (dC, dI) L kd tys [(10, 6), (10, 7)] [] f0 sz) (pA L sz)) 0 0 (pA L sz) := by
  refine Met.ofW (cc := cX10_countSpare) (maxL := 1) (ret := none) (by decide) rfl ?_
  intro p e s m args below meth c s₁ B hml hv
  obtain ⟨rfl, hsz, hP, hK, hD0⟩ := hv
  have hx := B.exec
  have hb := B.bytes
  have hr := B.returns
  have hts := atoms_spec (ws := (.code yX10_countSpare cX10_countSpare 1 none :: lw_g)) B.pre
  have hown : s.vm.findClass RX10 = some m.cls := findClass_of_methodNamed B.named
  have hlocks := B.notSynchronized
  subst hsz
  have g : G3 (dC, dI) L kd tys s f0 [(10, 6), (10, 7)] [] f0 s.heap [] [] := G3.start hP hD0 hWT Fs.nil
  have hl := lv_entry ([.ref a0_]) (n := 1) (Nat.le_of_ble_eq_true rfl)
  rw [lg_entry_eq]
  generalize (lg_sl ([.ref a0_]) ++ List.replicate (1 - (lg_sl ([.ref a0_])).length) Slot.unset).toArray = ls at hl ⊢
  have hl : lv_has ls 1 [(0, .ref a0_)] := hl
  refine W_q (fun Q hQ => ?_)
  refine lv_aload_n hx hb dX10_countSpare_0 rfl (lv_at hl 0 rfl) ?_
  refine lv_dup hx hb dX10_countSpare_1 rfl ?_
  refine g_geti (C := RX10) (T := TX10) (N := 10) hx hb hts (mc_ inX10) hown hK g ma0_ ka0_ (by decide) rfl 6 (by decide) rfl (hts _ (List.mem_cons_of_mem _ t_920)) (fun _ h9 => h9) rfl dX10_countSpare_2 (fun x_1 bx_1 g => ?_)
  refine lv_iconst (v := 1) hx hb dX10_countSpare_5 (by decide) ?_
  have kb_1 : bd 1 1 (1 : Int32) := ⟨by decide, by decide⟩
  refine lv_iadd hx hb dX10_countSpare_6 ?_
  refine lv_topi (fun y_2 ey_2 => ?_)
  refine g_put (C := RX10) (T := TX10) (N := 10) hx hb hts (mc_ inX10) tyX10 tyX10_ok nmX10 hown hK g ma0_ ka0_ (by decide) rfl 6 (by decide) (hts _ (List.mem_cons_of_mem _ t_920)) (fun _ h9 => h9) rfl rfl (okV_i (bdT y_2)) rfl rfl (by decide) (Or.inr (Or.inl (by decide))) (fx' := []) rfl dX10_countSpare_7 (fun f H locs hM_3 g => ?_)
  refine lv_aload_n hx hb dX10_countSpare_10 rfl (lv_at hl 0 rfl) ?_
  refine lv_dup hx hb dX10_countSpare_11 rfl ?_
  refine g_geti (C := RX10) (T := TX10) (N := 10) hx hb hts (mc_ inX10) hown hK g ma0_ ka0_ (by decide) rfl 7 (by decide) rfl (hts _ (List.mem_cons_of_mem _ t_922)) (fun _ h9 => h9) rfl dX10_countSpare_12 (fun x_4 bx_4 g => ?_)
  refine lv_aload_n hx hb dX10_countSpare_15 rfl (lv_at hl 0 rfl) ?_
  refine g_getr (K := 4) (C := RX10) (T := TX10) (N := 10) hx hb hts (mc_ inX10) hown hK g ma0_ ka0_ (by decide) rfl 5 (by decide) rfl (hts _ (List.mem_cons_of_mem _ t_919)) (fun _ h9 => h9) rfl dX10_countSpare_16 (fun a_5 ma_5 ka_5 g => ?_)
  refine g_geti (C := RX4) (T := TX4) (N := 17) hx hb hts (mc_ inX4) hown hK g ma_5 ka_5 (by decide) rfl 0 (by decide) rfl (hts _ (List.mem_cons_of_mem _ t_837)) (fun _ h9 => h9) rfl dX10_countSpare_19 (fun x_6 bx_6 g => ?_)
  refine lv_iconst (v := (-1)) hx hb dX10_countSpare_22 (by decide) ?_
  have kb_m1 : bd (-1) (-1) ((-1) : Int32) := ⟨by decide, by decide⟩
  refine lv_icmp_ne (tgt := 30) hx hb dX10_countSpare_23 (by decide) (fun c_7 => ?_) (fun c_7 => ?_)
  · have fc_7 := neq_f c_7
    refine lv_iconst (v := 0) hx hb dX10_countSpare_30 (by decide) ?_
    have kb_0 : bd 0 0 (0 : Int32) := ⟨by decide, by decide⟩
    refine lv_iadd hx hb dX10_countSpare_31 ?_
    refine lv_topi (fun y_8 ey_8 => ?_)
    have ty_8 := add_bd ey_8 (bdT x_4) kb_0 (by decide)
    have b_9 : bd (-2147483648) 2147483647 y_8 := add_rg ty_8 (bdT x_4) kb_0 (by decide)
    refine g_put (C := RX10) (T := TX10) (N := 10) hx hb hts (mc_ inX10) tyX10 tyX10_ok nmX10 hown hK g ma0_ ka0_ (by decide) rfl 7 (by decide) (hts _ (List.mem_cons_of_mem _ t_922)) (fun _ h9 => h9) rfl rfl (okV_i b_9) rfl rfl (by decide) (Or.inr (Or.inl (by decide))) (fx' := [(4, 0, a_5, .int x_6), (10, 5, a0_, .ref a_5), (10, 6, a0_, .int y_2)]) rfl dX10_countSpare_32 (fun f H locs hM_10 g => ?_)
    subst hQ
    exact W.vret hx hb hr (fun t ht hW => ⟨⟨_, rfl, trivial, q3_of g hK ht hW⟩, g.2.2.1.F ht⟩) g.2.2.1.2.2 dX10_countSpare_35
  · have fc_7 := eq_f c_7
    have b_11 : bd (-1) (-1) x_6 := eqX fc_7 (bdT x_6) kb_m1 (by decide)
    refine lv_iconst (v := 1) hx hb dX10_countSpare_26 (by decide) ?_
    refine lv_goto (tgt := 31) hx hb dX10_countSpare_27 (by decide) ?_
    refine lv_iadd hx hb dX10_countSpare_31 ?_
    refine lv_topi (fun y_12 ey_12 => ?_)
    refine g_put (C := RX10) (T := TX10) (N := 10) hx hb hts (mc_ inX10) tyX10 tyX10_ok nmX10 hown hK g ma0_ ka0_ (by decide) rfl 7 (by decide) (hts _ (List.mem_cons_of_mem _ t_922)) (fun _ h9 => h9) rfl rfl (okV_i (bdT y_12)) rfl rfl (by decide) (Or.inr (Or.inl (by decide))) (fx' := [(4, 0, a_5, .int x_6), (10, 5, a0_, .ref a_5), (10, 6, a0_, .int y_2)]) rfl dX10_countSpare_32 (fun f H locs hM_13 g => ?_)
    subst hQ
    exact W.vret hx hb hr (fun t ht hW => ⟨⟨_, rfl, trivial, q3_of g hK ht hW⟩, g.2.2.1.F ht⟩) g.2.2.1.2.2 dX10_countSpare_35
set_option maxHeartbeats 4000000 in
set_option maxRecDepth 100000 in
theorem r_X10_drawNext (l : Launch) (dC : Nat → ClassId) (dI : Nat → Nat → Nat) (L : List Nat) (kd : Nat → Nat) (tys : List (ClassId × FieldType)) (f0 : Nat → va_E) (sz : Nat) (hWT : WT L kd tys f0) (a0_ : Nat) (ma0_ : a0_ ∈ L) (ka0_ : kd a0_ = 10) : Met l yX10_drawNext (.code yX10_drawNext cX10_drawNext 1 (some .int) :: lw_g) ({ frames := 0, cells := 0, slots := 0, locals := 0 }) (va_Pc [.ref a0_] (P3 (dC, dI) L tys f0 sz)) (va_Qi (fun (r : Int32) (f : Nat → va_E) => (bd 0 32767 r ∧ True)) (Q3 (dC, dI) L kd tys [(10, 9)] [] f0 sz) (pA L sz)) 0 0 (pA L sz) := by
  refine Met.ofW (cc := cX10_drawNext) (maxL := 1) (ret := (some .int)) (by decide) rfl ?_
  intro p e s m args below meth c s₁ B hml hv
  obtain ⟨rfl, hsz, hP, hK, hD0⟩ := hv
  have hx := B.exec
  have hb := B.bytes
  have hr := B.returns
  have hts := atoms_spec (ws := (.code yX10_drawNext cX10_drawNext 1 (some .int) :: lw_g)) B.pre
  have hown : s.vm.findClass RX10 = some m.cls := findClass_of_methodNamed B.named
  have hlocks := B.notSynchronized
  subst hsz
  have g : G3 (dC, dI) L kd tys s f0 [(10, 9)] [] f0 s.heap [] [] := G3.start hP hD0 hWT Fs.nil
  have hl := lv_entry ([.ref a0_]) (n := 1) (Nat.le_of_ble_eq_true rfl)
  rw [lg_entry_eq]
  generalize (lg_sl ([.ref a0_]) ++ List.replicate (1 - (lg_sl ([.ref a0_])).length) Slot.unset).toArray = ls at hl ⊢
  have hl : lv_has ls 1 [(0, .ref a0_)] := hl
  refine W_q (fun Q hQ => ?_)
  refine lv_aload_n hx hb dX10_drawNext_0 rfl (lv_at hl 0 rfl) ?_
  refine lv_ldc (v := 1103515245) hx hb hown (hts _ (List.mem_cons_of_mem _ t_1682)) dX10_drawNext_1 ?_
  refine lv_aload_n hx hb dX10_drawNext_3 rfl (lv_at hl 0 rfl) ?_
  refine g_geti (C := RX10) (T := TX10) (N := 10) hx hb hts (mc_ inX10) hown hK g ma0_ ka0_ (by decide) rfl 9 (by decide) rfl (hts _ (List.mem_cons_of_mem _ t_926)) (fun _ h9 => h9) rfl dX10_drawNext_4 (fun x_1 bx_1 g => ?_)
  refine lv_imul hx hb dX10_drawNext_7 ?_
  refine lv_topi (fun y_2 ey_2 => ?_)
  refine lv_sipush (v := 12345) hx hb dX10_drawNext_8 (by decide) ?_
  have kb_12345 : bd 12345 12345 (12345 : Int32) := ⟨by decide, by decide⟩
  refine lv_iadd hx hb dX10_drawNext_11 ?_
  refine lv_topi (fun y_3 ey_3 => ?_)
  refine g_put (C := RX10) (T := TX10) (N := 10) hx hb hts (mc_ inX10) tyX10 tyX10_ok nmX10 hown hK g ma0_ ka0_ (by decide) rfl 9 (by decide) (hts _ (List.mem_cons_of_mem _ t_926)) (fun _ h9 => h9) rfl rfl (okV_i (bdT y_3)) rfl rfl (by decide) (Or.inr (Or.inl (by decide))) (fx' := []) rfl dX10_drawNext_12 (fun f H locs hM_4 g => ?_)
  refine lv_aload_n hx hb dX10_drawNext_15 rfl (lv_at hl 0 rfl) ?_
  refine g_getk (C := RX10) (T := TX10) (N := 10) hx hb hts (mc_ inX10) hown hK g rfl 9 (by decide) rfl (hts _ (List.mem_cons_of_mem _ t_926)) (fun _ h9 => h9) 0 rfl dX10_drawNext_16 ?_
  refine lv_bipush (v := 16) hx hb dX10_drawNext_19 (by decide) ?_
  refine lv_iushr hx hb dX10_drawNext_21 rfl ?_
  refine lv_topi (fun y_5 ey_5 => ?_)
  refine lv_sipush (v := 32767) hx hb dX10_drawNext_22 (by decide) ?_
  have kb_32767 : bd 32767 32767 (32767 : Int32) := ⟨by decide, by decide⟩
  refine lv_iand hx hb dX10_drawNext_25 ?_
  refine lv_topi (fun y_6 ey_6 => ?_)
  have b_7 : bd 0 32767 y_6 := and_rg ey_6 (bdT y_5) kb_32767 (by decide)
  subst hQ
  exact W.iret (v := y_6) hx hb hr (fun t ht hW => ⟨⟨_, _, rfl, ⟨b_7, trivial⟩, q3_of g hK ht hW⟩, g.2.2.1.F ht⟩) g.2.2.1.2.2 dX10_drawNext_26
set_option maxHeartbeats 4000000 in
set_option maxRecDepth 100000 in
theorem r_X10_drawArgument (l : Launch) (dC : Nat → ClassId) (dI : Nat → Nat → Nat) (L : List Nat) (kd : Nat → Nat) (tys : List (ClassId × FieldType)) (f0 : Nat → va_E) (sz : Nat) (hWT : WT L kd tys f0) (a0_ : Nat) (ma0_ : a0_ ∈ L) (ka0_ : kd a0_ = 10) (a1_ : Nat) (ma1_ : a1_ ∈ L) (ka1_ : kd a1_ = 6) (x2_ : Int32) (bx2_ : bd 0 0 x2_) : Met l yX10_drawArgument (.code yX10_drawArgument cX10_drawArgument 5 (some .int) :: lw_g) ({ frames := 1, cells := 0, slots := 0, locals := 21 }) (va_Pc [.ref a0_, .ref a1_, .int x2_] (P3 (dC, dI) L tys f0 sz)) (va_Qi (fun (r : Int32) (f : Nat → va_E) => (True)) (Q3 (dC, dI) L kd tys [(10, 9)] [] f0 sz) (pA L sz)) 0 0 (pA L sz) := by
  refine Met.ofW (cc := cX10_drawArgument) (maxL := 5) (ret := (some .int)) (by decide) rfl ?_
  intro p e s m args below meth c s₁ B hml hv
  obtain ⟨rfl, hsz, hP, hK, hD0⟩ := hv
  have hx := B.exec
  have hb := B.bytes
  have hr := B.returns
  have hts := atoms_spec (ws := (.code yX10_drawArgument cX10_drawArgument 5 (some .int) :: lw_g)) B.pre
  have hown : s.vm.findClass RX10 = some m.cls := findClass_of_methodNamed B.named
  have hlocks := B.notSynchronized
  subst hsz
  have g : G3 (dC, dI) L kd tys s f0 [(10, 9)] [] f0 s.heap [] [] := G3.start hP hD0 hWT Fs.nil
  have hl := lv_entry ([.ref a0_, .ref a1_, .int x2_]) (n := 5) (Nat.le_of_ble_eq_true rfl)
  rw [lg_entry_eq]
  generalize (lg_sl ([.ref a0_, .ref a1_, .int x2_]) ++ List.replicate (5 - (lg_sl ([.ref a0_, .ref a1_, .int x2_])).length) Slot.unset).toArray = ls at hl ⊢
  have hl : lv_has ls 5 [(0, .ref a0_), (1, .ref a1_), (2, .int x2_)] := hl
  refine W_q (fun Q hQ => ?_)
  refine lv_iload_n hx hb dX10_drawArgument_0 rfl (lv_at hl 2 rfl) ?_
  refine lv_aload_n hx hb dX10_drawArgument_1 rfl (lv_at hl 1 rfl) ?_
  refine g_geti (C := RX6) (T := TX6) (N := 13) hx hb hts (mc_ inX6) hown hK g ma1_ ka1_ (by decide) rfl 3 (by decide) rfl (hts _ (List.mem_cons_of_mem _ t_566)) (fun _ h9 => h9) rfl dX10_drawArgument_2 (fun x_1 bx_1 g => ?_)
  refine lv_icmp_lt (tgt := 10) hx hb dX10_drawArgument_5 (by decide) (fun c_2 => ?_) (fun c_2 => ?_)
  · have fc_2 := lt_f c_2
    have b_3 : bd 1 3 x_1 := ltR fc_2 bx2_ bx_1 (by decide)
    refine lv_aload_n hx hb dX10_drawArgument_10 rfl (lv_at hl 0 rfl) ?_
    refine g_calli (va_runV (As := []) (rest := []) ⟨hx, hb, hml, hown, hts⟩ (r_X10_drawNext l dC dI L kd tys f0 s.heap.size g.2.2.2.1 a0_ ma0_ ka0_) (cwV 0 hts (gV_ t_1678 t_1680 t_80 t_194 t_1681) rfl rfl rfl (by decide +kernel) ⟨(Nat.le_of_ble_eq_true rfl), (Nat.le_of_ble_eq_true rfl)⟩) (pre3V g hK ma0_ ka0_ (by decide) (q := (RX10, TX10, 10)) rfl) rfl rfl hl.1 rfl (lv_room (Nat.le_of_ble_eq_true rfl)) dX10_drawArgument_11 ⟨(Nat.le_of_ble_eq_true rfl), (Nat.le_of_ble_eq_true rfl)⟩) g hK (by decide) (by decide) (fx' := [(6, 3, a1_, .int x_1)]) rfl (fun r_4 fr_4 H locs hp hMr_4 g => ?_)
    obtain ⟨h_5, -⟩ := hp
    refine lv_iconst (v := 4) hx hb dX10_drawArgument_14 (by decide) ?_
    have kb_4 : bd 4 4 (4 : Int32) := ⟨by decide, by decide⟩
    refine lv_irem hx hb dX10_drawArgument_15 (by decide) ?_
    refine lv_topi (fun y_6 ey_6 => ?_)
    have b_7 : bd 0 3 y_6 := rem_rg ey_6 h_5 kb_4 (by decide)
    by_cases e_8 : y_6 = 0
    · refine lv_topi (fun z_9 ez_9 => ?_)
      obtain rfl : z_9 = 0 := ez_9.trans e_8
      have kb_0 : bd 0 0 (0 : Int32) := ⟨by decide, by decide⟩
      have b_10 : bd 0 0 y_6 := eqX (eq_f e_8) b_7 kb_0 (by decide)
      refine lv_tableIn (off := 28) (tgt := 44) hx hb dX10_drawArgument_16 (by decide) (by decide) rfl (by decide) ?_
      refine lv_aload_n hx hb dX10_drawArgument_44 rfl (lv_at hl 1 rfl) ?_
      refine g_getr (K := 134) (C := RX6) (T := TX6) (N := 13) hx hb hts (mc_ inX6) hown hK g ma1_ ka1_ (by decide) rfl 4 (by decide) rfl (hts _ (List.mem_cons_of_mem _ t_571)) (fun _ h9 => h9) rfl dX10_drawArgument_45 (fun a_11 ma_11 ka_11 g => ?_)
      refine lv_iload_n hx hb dX10_drawArgument_48 rfl (lv_at hl 2 rfl) ?_
      refine g_iald hx hb hK g ma_11 ka_11 (by decide) rfl (in_bd bx2_ (by decide)) dX10_drawArgument_49 (fun x_12 bx_12 cx_12 => ?_)
      subst hQ
      exact W.iret (v := x_12) hx hb hr (fun t ht hW => ⟨⟨_, _, rfl, trivial, q3_of g hK ht hW⟩, g.2.2.1.F ht⟩) g.2.2.1.2.2 dX10_drawArgument_50
    by_cases e_13 : y_6 = 1
    · refine lv_topi (fun z_14 ez_14 => ?_)
      obtain rfl : z_14 = 1 := ez_14.trans e_13
      have kb_1 : bd 1 1 (1 : Int32) := ⟨by decide, by decide⟩
      have b_15 : bd 1 1 y_6 := eqX (eq_f e_13) b_7 kb_1 (by decide)
      refine lv_tableIn (off := 35) (tgt := 51) hx hb dX10_drawArgument_16 (by decide) (by decide) rfl (by decide) ?_
      refine lv_aload_n hx hb dX10_drawArgument_51 rfl (lv_at hl 1 rfl) ?_
      refine g_getr (K := 135) (C := RX6) (T := TX6) (N := 13) hx hb hts (mc_ inX6) hown hK g ma1_ ka1_ (by decide) rfl 5 (by decide) rfl (hts _ (List.mem_cons_of_mem _ t_574)) (fun _ h9 => h9) rfl dX10_drawArgument_52 (fun a_16 ma_16 ka_16 g => ?_)
      refine lv_iload_n hx hb dX10_drawArgument_55 rfl (lv_at hl 2 rfl) ?_
      refine g_iald hx hb hK g ma_16 ka_16 (by decide) rfl (in_bd bx2_ (by decide)) dX10_drawArgument_56 (fun x_17 bx_17 cx_17 => ?_)
      subst hQ
      exact W.iret (v := x_17) hx hb hr (fun t ht hW => ⟨⟨_, _, rfl, trivial, q3_of g hK ht hW⟩, g.2.2.1.F ht⟩) g.2.2.1.2.2 dX10_drawArgument_57
    by_cases e_18 : y_6 = 2
    · refine lv_topi (fun z_19 ez_19 => ?_)
      obtain rfl : z_19 = 2 := ez_19.trans e_18
      have kb_2 : bd 2 2 (2 : Int32) := ⟨by decide, by decide⟩
      have b_20 : bd 2 2 y_6 := eqX (eq_f e_18) b_7 kb_2 (by decide)
      refine lv_tableIn (off := 42) (tgt := 58) hx hb dX10_drawArgument_16 (by decide) (by decide) rfl (by decide) ?_
      refine lv_aload_n hx hb dX10_drawArgument_58 rfl (lv_at hl 1 rfl) ?_
      refine lv_iload_n hx hb dX10_drawArgument_59 rfl (lv_at hl 2 rfl) ?_
      refine g_calli (va_runV (As := [.int x2_]) (rest := []) ⟨hx, hb, hml, hown, hts⟩ (r_X6_firstOf l dC dI L kd tys fr_4 H.size g.2.2.2.1 a1_ ma1_ ka1_ x2_) (cwV 1 hts (gV_ t_1692 t_1693 t_1694 t_193 t_1695) rfl rfl rfl (by decide +kernel) ⟨(Nat.le_of_ble_eq_true rfl), (Nat.le_of_ble_eq_true rfl)⟩) (pre3V g hK ma1_ ka1_ (by decide) (q := (RX6, TX6, 13)) rfl) rfl rfl hl.1 rfl (lv_room (Nat.le_of_ble_eq_true rfl)) dX10_drawArgument_60 ⟨(Nat.le_of_ble_eq_true rfl), (Nat.le_of_ble_eq_true rfl)⟩) g hK (by decide) (by decide) (fx' := [(6, 3, a1_, .int x_1)]) rfl (fun r_21 fr_21 H locs hp hMr_21 g => ?_)
      subst hQ
      exact W.iret (v := r_21) hx hb hr (fun t ht hW => ⟨⟨_, _, rfl, trivial, q3_of g hK ht hW⟩, g.2.2.1.F ht⟩) g.2.2.1.2.2 dX10_drawArgument_63
    refine lv_tableOut (tgt := 64) hx hb dX10_drawArgument_16 (by have a0 : y_6.toInt ≠ 0 := fun h => e_8 (Int32.toInt_inj.mp (h.trans (by decide))); have a1 : y_6.toInt ≠ 1 := fun h => e_13 (Int32.toInt_inj.mp (h.trans (by decide))); have a2 : y_6.toInt ≠ 2 := fun h => e_18 (Int32.toInt_inj.mp (h.trans (by decide))); omega) (by decide) ?_
    refine lv_aload_n hx hb dX10_drawArgument_64 rfl (lv_at hl 1 rfl) ?_
    refine g_getr (K := 135) (C := RX6) (T := TX6) (N := 13) hx hb hts (mc_ inX6) hown hK g ma1_ ka1_ (by decide) rfl 5 (by decide) rfl (hts _ (List.mem_cons_of_mem _ t_574)) (fun _ h9 => h9) rfl dX10_drawArgument_65 (fun a_22 ma_22 ka_22 g => ?_)
    refine lv_iload_n hx hb dX10_drawArgument_68 rfl (lv_at hl 2 rfl) ?_
    refine g_iald hx hb hK g ma_22 ka_22 (by decide) rfl (in_bd bx2_ (by decide)) dX10_drawArgument_69 (fun x_23 bx_23 cx_23 => ?_)
    refine lv_i2l hx hb dX10_drawArgument_70 rfl ?_
    refine lv_topl (fun y_24 ey_24 => ?_)
    refine lv_aload_n hx hb dX10_drawArgument_71 rfl (lv_at hl 1 rfl) ?_
    refine g_getr (K := 134) (C := RX6) (T := TX6) (N := 13) hx hb hts (mc_ inX6) hown hK g ma1_ ka1_ (by decide) rfl 4 (by decide) rfl (hts _ (List.mem_cons_of_mem _ t_571)) (fun _ h9 => h9) rfl dX10_drawArgument_72 (fun a_25 ma_25 ka_25 g => ?_)
    refine lv_iload_n hx hb dX10_drawArgument_75 rfl (lv_at hl 2 rfl) ?_
    refine g_iald hx hb hK g ma_25 ka_25 (by decide) rfl (in_bd bx2_ (by decide)) dX10_drawArgument_76 (fun x_26 bx_26 cx_26 => ?_)
    refine lv_i2l hx hb dX10_drawArgument_77 rfl ?_
    refine lv_topl (fun y_27 ey_27 => ?_)
    refine lv_lsub hx hb dX10_drawArgument_78 ?_
    refine lv_topl (fun y_28 ey_28 => ?_)
    refine lv_lconst (v := 1) hx hb dX10_drawArgument_79 (by decide) ?_
    refine lv_ladd hx hb dX10_drawArgument_80 ?_
    refine lv_topl (fun y_29 ey_29 => ?_)
    refine lv_lconst (v := 1) hx hb dX10_drawArgument_81 (by decide) ?_
    refine va_mmax_long hx hb (hml.trans hl.1.symm) hown (hts _ (List.mem_cons_of_mem _ t_1696)) (hts _ (List.mem_cons_of_mem _ t_1697)) (hts _ (List.mem_cons_of_mem _ t_204)) (hts _ (List.mem_cons_of_mem _ t_1698)) (Nat.le_of_ble_eq_true rfl) (Nat.le_of_ble_eq_true rfl) (Nat.le_of_ble_eq_true rfl) (Nat.le_of_ble_eq_true rfl) dX10_drawArgument_82 ?_
    refine lv_topl (fun y_30 ey_30 => ?_)
    refine lv_lstore_n (lv' := [(3, .long y_30), (0, .ref a0_), (1, .ref a1_), (2, .int x2_)]) hx hb dX10_drawArgument_85 rfl hl (by decide) rfl (fun ls hl => ?_)
    refine lv_aload_n hx hb dX10_drawArgument_86 rfl (lv_at hl 2 rfl) ?_
    refine g_getk (C := RX6) (T := TX6) (N := 13) hx hb hts (mc_ inX6) hown hK g rfl 4 (by decide) rfl (hts _ (List.mem_cons_of_mem _ t_571)) (fun _ h9 => h9) 0 rfl dX10_drawArgument_87 ?_
    refine lv_iload_n hx hb dX10_drawArgument_90 rfl (lv_at hl 3 rfl) ?_
    refine g_iald hx hb hK g ma_25 ka_25 (by decide) rfl (in_bd bx2_ (by decide)) dX10_drawArgument_91 (fun x_31 bx_31 cx_31 => ?_)
    obtain rfl : x_26 = x_31 := el_same cx_26 cx_31 rfl
    refine lv_i2l hx hb dX10_drawArgument_92 rfl ?_
    refine lv_topl (fun y_32 ey_32 => ?_)
    refine lv_aload_n hx hb dX10_drawArgument_93 rfl (lv_at hl 1 rfl) ?_
    refine g_calli (va_runV (As := []) (rest := [.long y_32]) ⟨hx, hb, hml, hown, hts⟩ (r_X10_drawNext l dC dI L kd tys fr_4 H.size g.2.2.2.1 a0_ ma0_ ka0_) (cwV 0 hts (gV_ t_1678 t_1680 t_80 t_194 t_1681) rfl rfl rfl (by decide +kernel) ⟨(Nat.le_of_ble_eq_true rfl), (Nat.le_of_ble_eq_true rfl)⟩) (pre3V g hK ma0_ ka0_ (by decide) (q := (RX10, TX10, 10)) rfl) rfl rfl hl.1 rfl (lv_room (Nat.le_of_ble_eq_true rfl)) dX10_drawArgument_94 ⟨(Nat.le_of_ble_eq_true rfl), (Nat.le_of_ble_eq_true rfl)⟩) g hK (by decide) (by decide) (fx' := [(6, 4, a1_, .ref a_25), (6, 5, a1_, .ref a_22), (6, 3, a1_, .int x_1)]) rfl (fun r_33 fr_33 H locs hp hMr_33 g => ?_)
    obtain ⟨h_34, -⟩ := hp
    refine lv_i2l hx hb dX10_drawArgument_97 rfl ?_
    refine lv_topl (fun y_35 ey_35 => ?_)
    refine lv_lload_n hx hb dX10_drawArgument_98 rfl (lv_at hl 0 rfl) ?_
    refine lv_lrem hx hb dX10_drawArgument_99 (mxl1 ey_30) ?_
    refine lv_topl (fun y_36 ey_36 => ?_)
    refine lv_ladd hx hb dX10_drawArgument_100 ?_
    refine lv_topl (fun y_37 ey_37 => ?_)
    refine lv_l2i hx hb dX10_drawArgument_101 rfl ?_
    refine lv_topi (fun y_38 ey_38 => ?_)
    subst hQ
    exact W.iret (v := y_38) hx hb hr (fun t ht hW => ⟨⟨_, _, rfl, trivial, q3_of g hK ht hW⟩, g.2.2.1.F ht⟩) g.2.2.1.2.2 dX10_drawArgument_102
  · have fc_2 := nlt_f c_2
    have b_39 : bd 0 0 x_1 := leL fc_2 bx_1 bx2_ (by decide)
    refine lv_iconst (v := 0) hx hb dX10_drawArgument_8 (by decide) ?_
    subst hQ
    exact W.iret (v := 0) hx hb hr (fun t ht hW => ⟨⟨_, _, rfl, trivial, q3_of g hK ht hW⟩, g.2.2.1.F ht⟩) g.2.2.1.2.2 dX10_drawArgument_9
