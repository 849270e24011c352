set_option maxHeartbeats 4000000 in
set_option maxRecDepth 100000 in
theorem r_X10_holds_16 (l : Launch) (dC : Nat → ClassId) (dI : Nat → Nat → Nat) (L : List Nat) (kd : Nat → Nat) (tys : List (ClassId × FieldType)) (f0 : Nat → va_E) (sz : Nat) (hWT : WT L kd tys f0) (a0_ : Nat) (ma0_ : a0_ ∈ L) (ka0_ : kd a0_ = 10) (a1_ : Nat) (ma1_ : a1_ ∈ L) (ka1_ : kd a1_ = 4) (x2_ : Int32) (bx2_ : bd 0 499 x2_) (x3_ : Int32) (bx3_ : bd 0 2 x3_) (q0_ : Nat) (mq0_ : q0_ ∈ L) (kq0_ : kd q0_ = 1) (q1_ : Nat) (mq1_ : q1_ ∈ L) (kq1_ : kd q1_ = 7) (q2_ : Nat) (mq2_ : q2_ ∈ L) (kq2_ : kd q2_ = 9) (y0_ : Int32) (by0_ : bd 2 2 y0_) (y1_ : Int32) (by1_ : bd 0 0 y1_) (y2_ : Int32) (by2_ : bd (-1) 2147483647 y2_) (y3_ : Int32) (by3_ : bd (-1) 2147483647 y3_) (y4_ : Int32) (by4_ : bd 1 8 y4_) (y5_ : Int32) (by5_ : bd 1 3 y5_) (y6_ : Int32) (by6_ : bd 0 9 y6_) (y7_ : Int32) (by7_ : bd (-1) 2147483647 y7_) (y8_ : Int32) (by8_ : bd (-1) 2147483647 y8_) (hGcq1_ : cOK f0 q1_) (hfx : Fs L kd f0 [(10, 1, a0_, .ref q0_), (1, 0, q0_, .ref q1_), (1, 1, q0_, .ref q2_), (4, 15, a1_, .int y0_), (4, 0, a1_, .int y1_), (4, 2, a1_, .int y2_), (4, 1, a1_, .int y3_), (7, 1, q1_, .int y4_), (4, 6, a1_, .int y5_), (4, 14, a1_, .int y6_), (4, 4, a1_, .int y7_), (4, 3, a1_, .int y8_)]) : Met l yX10_holds (.code yX10_holds cX10_holds 4 (some .boolean) :: lw_g) ({ frames := 2, cells := 0, slots := 0, locals := 50 }) (va_Pc [.ref a0_, .ref a1_, .int x2_, .int x3_] (P3 (dC, dI) L tys f0 sz)) (va_Qi (fun (r : Int32) (f : Nat → va_E) => (r = 0 ∧ ∃ z0_ : Int32, bd (-1) 2147483647 z0_ ∧ ∃ z1_ : Int32, bd (-1) 2147483647 z1_ ∧ ∃ z2_ : Int32, bd 0 7 z2_ ∧ Fs L kd f [(4, 2, a1_, .int z0_), (4, 1, a1_, .int z1_), (4, 0, a1_, .int z2_), (1, 12, q0_, .int 0), (1, 5, q0_, .int 1)]) ∨ (r = 1 ∧ ∃ z0_ : Int32, bd 1 1 z0_ ∧ Fs L kd f [(1, 15, q0_, .int z0_), (1, 12, q0_, .int 0), (1, 5, q0_, .int 1), (4, 0, a1_, .int y1_), (4, 2, a1_, .int y2_), (4, 1, a1_, .int y3_)])) (Q3 (dC, dI) L kd tys [(1, 5), (1, 6), (1, 8), (1, 11), (1, 12), (1, 13), (1, 14), (1, 15), (1, 16), (1, 17), (4, 0), (4, 1), (4, 2), (4, 5)] [100, 116, 117, 146] f0 sz) (pA L sz)) 0 0 (pA L sz) := by
  refine Met.ofW (cc := cX10_holds) (maxL := 4) (ret := (some .boolean)) (by decide) rfl ?_
  intro p e s m args below meth c s₁ B hml hv
  obtain ⟨rfl, hsz, hP, hK, hD0⟩ := hv
  have hx := B.exec
  have hb := B.bytes
  have hr := B.returns
  have hts := atoms_spec (ws := (.code yX10_holds cX10_holds 4 (some .boolean) :: lw_g)) B.pre
  have hown : s.vm.findClass RX10 = some m.cls := findClass_of_methodNamed B.named
  have hlocks := B.notSynchronized
  subst hsz
  have g : G3 (dC, dI) L kd tys s f0 [(1, 5), (1, 6), (1, 8), (1, 11), (1, 12), (1, 13), (1, 14), (1, 15), (1, 16), (1, 17), (4, 0), (4, 1), (4, 2), (4, 5)] [100, 116, 117, 146] f0 s.heap [] [(10, 1, a0_, .ref q0_), (1, 0, q0_, .ref q1_), (1, 1, q0_, .ref q2_), (4, 15, a1_, .int y0_), (4, 0, a1_, .int y1_), (4, 2, a1_, .int y2_), (4, 1, a1_, .int y3_), (7, 1, q1_, .int y4_), (4, 6, a1_, .int y5_), (4, 14, a1_, .int y6_), (4, 4, a1_, .int y7_), (4, 3, a1_, .int y8_)] := G3.start hP hD0 hWT hfx
  have hl := lv_entry ([.ref a0_, .ref a1_, .int x2_, .int x3_]) (n := 4) (Nat.le_of_ble_eq_true rfl)
  rw [lg_entry_eq]
  generalize (lg_sl ([.ref a0_, .ref a1_, .int x2_, .int x3_]) ++ List.replicate (4 - (lg_sl ([.ref a0_, .ref a1_, .int x2_, .int x3_])).length) Slot.unset).toArray = ls at hl ⊢
  have hl : lv_has ls 4 [(0, .ref a0_), (1, .ref a1_), (2, .int x2_), (3, .int x3_)] := hl
  refine W_q (fun Q hQ => ?_)
  refine lv_aload_n hx hb dX10_holds_0 rfl (lv_at hl 0 rfl) ?_
  refine g_getk (C := RX10) (T := TX10) (N := 10) hx hb hts (mc_ inX10) hown hK g rfl 1 (by decide) rfl (hts _ (List.mem_cons_of_mem _ t_913)) (fun _ h9 => h9) 0 rfl dX10_holds_1 ?_
  refine lv_aload_n hx hb dX10_holds_4 rfl (lv_at hl 0 rfl) ?_
  refine g_getr (K := 7) (C := RX10) (T := TX10) (N := 10) hx hb hts (mc_ inX10) hown hK g ma0_ ka0_ (by decide) rfl 0 (by decide) rfl (hts _ (List.mem_cons_of_mem _ t_912)) (fun _ h9 => h9) rfl dX10_holds_5 (fun a_1 ma_1 ka_1 g => ?_)
  refine g_getr (K := 141) (C := RX7) (T := TX7) (N := 19) hx hb hts (mc_ inX7) hown hK g ma_1 ka_1 (by decide) rfl 8 (by decide) rfl (hts _ (List.mem_cons_of_mem _ t_652)) (fun _ h9 => h9) rfl dX10_holds_8 (fun a_2 ma_2 ka_2 g => ?_)
  refine lv_iload_n hx hb dX10_holds_11 rfl (lv_at hl 2 rfl) ?_
  refine g_iald hx hb hK g ma_2 ka_2 (by decide) rfl (in_bd bx2_ (by decide)) dX10_holds_12 (fun x_3 bx_3 cx_3 => ?_)
  refine lv_aload_n hx hb dX10_holds_13 rfl (lv_at hl 1 rfl) ?_
  refine g_geti (C := RX4) (T := TX4) (N := 17) hx hb hts (mc_ inX4) hown hK g ma1_ ka1_ (by decide) rfl 16 (by decide) rfl (hts _ (List.mem_cons_of_mem _ t_876)) (fun _ h9 => h9) rfl dX10_holds_14 (fun x_4 bx_4 g => ?_)
  have go_ := g
  refine g_callv (va_runV (As := [.int x_3, .int x_4]) (rest := []) ⟨hx, hb, hml, hown, hts⟩ (r_X1_readyToAsk l dC dI L kd tys f0 s.heap.size g.2.2.2.1 q0_ mq0_ kq0_ x_3 x_4) (cwV 2 hts (gV_ t_1551 t_1552 t_1553 t_195 t_1554) rfl rfl rfl (by decide +kernel) ⟨(Nat.le_of_ble_eq_true rfl), (Nat.le_of_ble_eq_true rfl)⟩) (pre3V g hK mq0_ kq0_ (by decide) (q := (RX1, TX1, 18)) rfl) rfl rfl hl.1 rfl (lv_room (Nat.le_of_ble_eq_true rfl)) dX10_holds_17 ⟨(Nat.le_of_ble_eq_true rfl), (Nat.le_of_ble_eq_true rfl)⟩) g hK (by decide) (by decide) (fx' := [(4, 16, a1_, .int x_4), (7, 8, a_1, .ref a_2), (10, 0, a0_, .ref a_1), (10, 1, a0_, .ref q0_), (1, 0, q0_, .ref q1_), (1, 1, q0_, .ref q2_), (4, 15, a1_, .int y0_), (4, 0, a1_, .int y1_), (4, 2, a1_, .int y2_), (4, 1, a1_, .int y3_), (7, 1, q1_, .int y4_), (4, 6, a1_, .int y5_), (4, 14, a1_, .int y6_), (4, 4, a1_, .int y7_), (4, 3, a1_, .int y8_)]) rfl (fun fr_5 H locs hp hMr_5 g => ?_)
  have hF_6 := hp
  have hG_7 := cOK.frame hMr_5 go_.2.2.2.1 mq1_ kq1_ (by decide) (by decide) hGcq1_
  have g := g.more hF_6
  refine lv_aload_n hx hb dX10_holds_20 rfl (lv_at hl 0 rfl) ?_
  refine g_getk (C := RX10) (T := TX10) (N := 10) hx hb hts (mc_ inX10) hown hK g rfl 1 (by decide) rfl (hts _ (List.mem_cons_of_mem _ t_913)) (fun _ h9 => h9) 7 rfl dX10_holds_21 ?_
  have kb_0 : bd 0 0 (0 : Int32) := ⟨by decide, by decide⟩
  have kb_1 : bd 1 1 (1 : Int32) := ⟨by decide, by decide⟩
  have go_ := g
  refine g_callv (va_runV (As := []) (rest := []) ⟨hx, hb, hml, hown, hts⟩ (r_X1_go_2 l dC dI L kd tys fr_5 H.size g.2.2.2.1 q0_ mq0_ kq0_ q1_ mq1_ kq1_ q2_ mq2_ kq2_ 0 kb_0 1 kb_1 y4_ by4_ hG_7 (g.fcts [8, 9, 1, 3, 14] rfl)) (cwV 0 hts (gV_ t_1555 t_1556 t_1557 t_195 t_1558) rfl rfl rfl (by decide +kernel) ⟨(Nat.le_of_ble_eq_true rfl), (Nat.le_of_ble_eq_true rfl)⟩) (pre3V g hK mq0_ kq0_ (by decide) (q := (RX1, TX1, 18)) rfl) rfl rfl hl.1 rfl (lv_room (Nat.le_of_ble_eq_true rfl)) dX10_holds_24 ⟨(Nat.le_of_ble_eq_true rfl), (Nat.le_of_ble_eq_true rfl)⟩) g hK (by decide) (by decide) (fx' := [(1, 12, q0_, .int 0), (1, 6, q0_, .int x_4), (1, 5, q0_, .int 1), (4, 16, a1_, .int x_4), (7, 8, a_1, .ref a_2), (10, 0, a0_, .ref a_1), (10, 1, a0_, .ref q0_), (1, 0, q0_, .ref q1_), (1, 1, q0_, .ref q2_), (4, 15, a1_, .int y0_), (4, 0, a1_, .int y1_), (4, 2, a1_, .int y2_), (4, 1, a1_, .int y3_), (7, 1, q1_, .int y4_), (4, 6, a1_, .int y5_), (4, 14, a1_, .int y6_), (4, 4, a1_, .int y7_), (4, 3, a1_, .int y8_)]) rfl (fun fr_8 H locs hp hMr_8 g => ?_)
  have hG_9 := cOK.frame hMr_8 go_.2.2.2.1 mq1_ kq1_ (by decide) (by decide) hG_7
  refine lv_aload_n hx hb dX10_holds_27 rfl (lv_at hl 0 rfl) ?_
  refine g_getk (C := RX10) (T := TX10) (N := 10) hx hb hts (mc_ inX10) hown hK g rfl 1 (by decide) rfl (hts _ (List.mem_cons_of_mem _ t_913)) (fun _ h9 => h9) 6 rfl dX10_holds_28 ?_
  refine g_geti (C := RX1) (T := TX1) (N := 18) hx hb hts (mc_ inX1) hown hK g mq0_ kq0_ (by decide) rfl 15 (by decide) rfl (hts _ (List.mem_cons_of_mem _ t_751)) (fun _ h9 => h9) rfl dX10_holds_31 (fun x_10 bx_10 g => ?_)
  refine lv_iconst (v := 1) hx hb dX10_holds_34 (by decide) ?_
  refine lv_icmp_ne (tgt := 54) hx hb dX10_holds_35 (by decide) (fun c_11 => ?_) (fun c_11 => ?_)
  · have fc_11 := neq_f c_11
    refine lv_aload_n hx hb dX10_holds_54 rfl (lv_at hl 0 rfl) ?_
    refine g_getk (C := RX10) (T := TX10) (N := 10) hx hb hts (mc_ inX10) hown hK g rfl 1 (by decide) rfl (hts _ (List.mem_cons_of_mem _ t_913)) (fun _ h9 => h9) 7 rfl dX10_holds_55 ?_
    refine g_getk (C := RX1) (T := TX1) (N := 18) hx hb hts (mc_ inX1) hown hK g rfl 15 (by decide) rfl (hts _ (List.mem_cons_of_mem _ t_751)) (fun _ h9 => h9) 0 rfl dX10_holds_58 ?_
    refine lv_iconst (v := 2) hx hb dX10_holds_61 (by decide) ?_
    have kb_2 : bd 2 2 (2 : Int32) := ⟨by decide, by decide⟩
    refine lv_icmp_ne (tgt := 76) hx hb dX10_holds_62 (by decide) (fun c_12 => ?_) (fun c_12 => ?_)
    · have fc_12 := neq_f c_12
      refine lv_aload_n hx hb dX10_holds_76 rfl (lv_at hl 1 rfl) ?_
      refine lv_aload_n hx hb dX10_holds_77 rfl (lv_at hl 0 rfl) ?_
      refine g_getk (C := RX10) (T := TX10) (N := 10) hx hb hts (mc_ inX10) hown hK g rfl 1 (by decide) rfl (hts _ (List.mem_cons_of_mem _ t_913)) (fun _ h9 => h9) 7 rfl dX10_holds_78 ?_
      refine g_getk (C := RX1) (T := TX1) (N := 18) hx hb hts (mc_ inX1) hown hK g rfl 15 (by decide) rfl (hts _ (List.mem_cons_of_mem _ t_751)) (fun _ h9 => h9) 0 rfl dX10_holds_81 ?_
      refine lv_iconst (v := 4) hx hb dX10_holds_84 (by decide) ?_
      have kb_4 : bd 4 4 (4 : Int32) := ⟨by decide, by decide⟩
      refine lv_icmp_ne (tgt := 92) hx hb dX10_holds_85 (by decide) (fun c_13 => ?_) (fun c_13 => ?_)
      · have fc_13 := neq_f c_13
        refine lv_bipush (v := 7) hx hb dX10_holds_92 (by decide) ?_
        refine lv_iload_n hx hb dX10_holds_94 rfl (lv_at hl 2 rfl) ?_
        refine lv_iload_n hx hb dX10_holds_95 rfl (lv_at hl 3 rfl) ?_
        have go_ := g
        refine g_callv (va_runV (As := [.int 7, .int x2_, .int x3_]) (rest := []) ⟨hx, hb, hml, hown, hts⟩ (r_X4_breakBy l dC dI L kd tys fr_8 H.size g.2.2.2.1 a1_ ma1_ ka1_ 7 x2_ x3_) (cwV 3 hts (gV_ t_1606 t_1607 t_1608 t_197 t_1609) rfl rfl rfl (by decide +kernel) ⟨(Nat.le_of_ble_eq_true rfl), (Nat.le_of_ble_eq_true rfl)⟩) (pre3V g hK ma1_ ka1_ (by decide) (q := (RX4, TX4, 17)) rfl) rfl rfl hl.1 rfl (lv_room (Nat.le_of_ble_eq_true rfl)) dX10_holds_96 ⟨(Nat.le_of_ble_eq_true rfl), (Nat.le_of_ble_eq_true rfl)⟩) g hK (by decide) (by decide) (fx' := [(1, 15, q0_, .int x_10), (1, 12, q0_, .int 0), (1, 6, q0_, .int x_4), (1, 5, q0_, .int 1), (4, 16, a1_, .int x_4), (7, 8, a_1, .ref a_2), (10, 0, a0_, .ref a_1), (10, 1, a0_, .ref q0_), (1, 0, q0_, .ref q1_), (1, 1, q0_, .ref q2_), (4, 15, a1_, .int y0_), (7, 1, q1_, .int y4_), (4, 6, a1_, .int y5_), (4, 14, a1_, .int y6_), (4, 4, a1_, .int y7_), (4, 3, a1_, .int y8_)]) rfl (fun fr_14 H locs hp hMr_14 g => ?_)
        have hF_15 := hp
        have hG_16 := cOK.frame hMr_14 go_.2.2.2.1 mq1_ kq1_ (by decide) (by decide) hG_9
        have g := g.more hF_15
        refine lv_iconst (v := 0) hx hb dX10_holds_99 (by decide) ?_
        have kb_7 : bd 7 7 (7 : Int32) := ⟨by decide, by decide⟩
        subst hQ
        exact W.zret (v := 0) hx hb hr (nar_z (bd_sub kb_0 (by decide) : bd 0 1 _).1 (bd_sub kb_0 (by decide) : bd 0 1 _).2) (fun t ht hW => ⟨⟨_, _, rfl, Or.inl ⟨rfl, x3_, (bd_sub bx3_ (by decide)), x2_, (bd_sub bx2_ (by decide)), 7, (bd_sub kb_7 (by decide)), (g.fcts [0, 1, 2, 4, 6] rfl)⟩, q3_of g hK ht hW⟩, g.2.2.1.F ht⟩) g.2.2.1.2.2 dX10_holds_100
      · have fc_13 := eq_f c_13
        have b_17 : bd 4 4 x_10 := eqX fc_13 (bdT x_10) kb_4 (by decide)
        refine lv_iconst (v := 5) hx hb dX10_holds_88 (by decide) ?_
        refine lv_goto (tgt := 94) hx hb dX10_holds_89 (by decide) ?_
        refine lv_iload_n hx hb dX10_holds_94 rfl (lv_at hl 2 rfl) ?_
        refine lv_iload_n hx hb dX10_holds_95 rfl (lv_at hl 3 rfl) ?_
        have go_ := g
        refine g_callv (va_runV (As := [.int 5, .int x2_, .int x3_]) (rest := []) ⟨hx, hb, hml, hown, hts⟩ (r_X4_breakBy l dC dI L kd tys fr_8 H.size g.2.2.2.1 a1_ ma1_ ka1_ 5 x2_ x3_) (cwV 3 hts (gV_ t_1606 t_1607 t_1608 t_197 t_1609) rfl rfl rfl (by decide +kernel) ⟨(Nat.le_of_ble_eq_true rfl), (Nat.le_of_ble_eq_true rfl)⟩) (pre3V g hK ma1_ ka1_ (by decide) (q := (RX4, TX4, 17)) rfl) rfl rfl hl.1 rfl (lv_room (Nat.le_of_ble_eq_true rfl)) dX10_holds_96 ⟨(Nat.le_of_ble_eq_true rfl), (Nat.le_of_ble_eq_true rfl)⟩) g hK (by decide) (by decide) (fx' := [(1, 15, q0_, .int x_10), (1, 12, q0_, .int 0), (1, 6, q0_, .int x_4), (1, 5, q0_, .int 1), (4, 16, a1_, .int x_4), (7, 8, a_1, .ref a_2), (10, 0, a0_, .ref a_1), (10, 1, a0_, .ref q0_), (1, 0, q0_, .ref q1_), (1, 1, q0_, .ref q2_), (4, 15, a1_, .int y0_), (7, 1, q1_, .int y4_), (4, 6, a1_, .int y5_), (4, 14, a1_, .int y6_), (4, 4, a1_, .int y7_), (4, 3, a1_, .int y8_)]) rfl (fun fr_18 H locs hp hMr_18 g => ?_)
        have hF_19 := hp
        have hG_20 := cOK.frame hMr_18 go_.2.2.2.1 mq1_ kq1_ (by decide) (by decide) hG_9
        have g := g.more hF_19
        refine lv_iconst (v := 0) hx hb dX10_holds_99 (by decide) ?_
        have kb_5 : bd 5 5 (5 : Int32) := ⟨by decide, by decide⟩
        subst hQ
        exact W.zret (v := 0) hx hb hr (nar_z (bd_sub kb_0 (by decide) : bd 0 1 _).1 (bd_sub kb_0 (by decide) : bd 0 1 _).2) (fun t ht hW => ⟨⟨_, _, rfl, Or.inl ⟨rfl, x3_, (bd_sub bx3_ (by decide)), x2_, (bd_sub bx2_ (by decide)), 5, (bd_sub kb_5 (by decide)), (g.fcts [0, 1, 2, 4, 6] rfl)⟩, q3_of g hK ht hW⟩, g.2.2.1.F ht⟩) g.2.2.1.2.2 dX10_holds_100
    · have fc_12 := eq_f c_12
      have b_21 : bd 2 2 x_10 := eqX fc_12 (bdT x_10) kb_2 (by decide)
      refine lv_aload_n hx hb dX10_holds_65 rfl (lv_at hl 1 rfl) ?_
      refine lv_aload_n hx hb dX10_holds_66 rfl (lv_at hl 0 rfl) ?_
      refine g_getk (C := RX10) (T := TX10) (N := 10) hx hb hts (mc_ inX10) hown hK g rfl 1 (by decide) rfl (hts _ (List.mem_cons_of_mem _ t_913)) (fun _ h9 => h9) 7 rfl dX10_holds_67 ?_
      refine g_getl (C := RX1) (T := TX1) (N := 18) hx hb hts (mc_ inX1) hown hK g mq0_ kq0_ (by decide) rfl 17 (by decide) rfl (hts _ (List.mem_cons_of_mem _ t_755)) (fun _ h9 => h9) rfl dX10_holds_70 (fun x_22 g => ?_)
      have go_ := g
      refine g_put (C := RX4) (T := TX4) (N := 17) hx hb hts (mc_ inX4) tyX4 tyX4_ok nmX4 hown hK g ma1_ ka1_ (by decide) rfl 5 (by decide) (hts _ (List.mem_cons_of_mem _ t_848)) (fun _ h9 => h9) rfl rfl okV_l rfl rfl (by decide) (Or.inr (Or.inl (by decide))) (fx' := [(1, 17, q0_, .long x_22), (1, 15, q0_, .int x_10), (1, 12, q0_, .int 0), (1, 6, q0_, .int x_4), (1, 5, q0_, .int 1), (4, 16, a1_, .int x_4), (7, 8, a_1, .ref a_2), (10, 0, a0_, .ref a_1), (10, 1, a0_, .ref q0_), (1, 0, q0_, .ref q1_), (1, 1, q0_, .ref q2_), (4, 15, a1_, .int y0_), (4, 0, a1_, .int y1_), (4, 2, a1_, .int y2_), (4, 1, a1_, .int y3_), (7, 1, q1_, .int y4_), (4, 6, a1_, .int y5_), (4, 14, a1_, .int y6_), (4, 4, a1_, .int y7_), (4, 3, a1_, .int y8_)]) rfl dX10_holds_73 (fun f H locs hM_23 g => ?_)
      have hG_24 := cOK.frame hM_23 go_.2.2.2.1 mq1_ kq1_ (by decide) (by decide) hG_9
      refine lv_aload_n hx hb dX10_holds_76 rfl (lv_at hl 1 rfl) ?_
      refine lv_aload_n hx hb dX10_holds_77 rfl (lv_at hl 0 rfl) ?_
      refine g_getk (C := RX10) (T := TX10) (N := 10) hx hb hts (mc_ inX10) hown hK g rfl 1 (by decide) rfl (hts _ (List.mem_cons_of_mem _ t_913)) (fun _ h9 => h9) 9 rfl dX10_holds_78 ?_
      refine g_getk (C := RX1) (T := TX1) (N := 18) hx hb hts (mc_ inX1) hown hK g rfl 15 (by decide) rfl (hts _ (List.mem_cons_of_mem _ t_751)) (fun _ h9 => h9) 2 rfl dX10_holds_81 ?_
      refine lv_iconst (v := 4) hx hb dX10_holds_84 (by decide) ?_
      have kb_4 : bd 4 4 (4 : Int32) := ⟨by decide, by decide⟩
      refine lv_icmp_ne (tgt := 92) hx hb dX10_holds_85 (by decide) (fun c_25 => ?_) (fun c_25 => ?_)
      · have fc_25 := neq_f c_25
        refine lv_bipush (v := 7) hx hb dX10_holds_92 (by decide) ?_
        refine lv_iload_n hx hb dX10_holds_94 rfl (lv_at hl 2 rfl) ?_
        refine lv_iload_n hx hb dX10_holds_95 rfl (lv_at hl 3 rfl) ?_
        have go_ := g
        refine g_callv (va_runV (As := [.int 7, .int x2_, .int x3_]) (rest := []) ⟨hx, hb, hml, hown, hts⟩ (r_X4_breakBy l dC dI L kd tys f H.size g.2.2.2.1 a1_ ma1_ ka1_ 7 x2_ x3_) (cwV 3 hts (gV_ t_1606 t_1607 t_1608 t_197 t_1609) rfl rfl rfl (by decide +kernel) ⟨(Nat.le_of_ble_eq_true rfl), (Nat.le_of_ble_eq_true rfl)⟩) (pre3V g hK ma1_ ka1_ (by decide) (q := (RX4, TX4, 17)) rfl) rfl rfl hl.1 rfl (lv_room (Nat.le_of_ble_eq_true rfl)) dX10_holds_96 ⟨(Nat.le_of_ble_eq_true rfl), (Nat.le_of_ble_eq_true rfl)⟩) g hK (by decide) (by decide) (fx' := [(4, 5, a1_, .long x_22), (1, 17, q0_, .long x_22), (1, 15, q0_, .int x_10), (1, 12, q0_, .int 0), (1, 6, q0_, .int x_4), (1, 5, q0_, .int 1), (4, 16, a1_, .int x_4), (7, 8, a_1, .ref a_2), (10, 0, a0_, .ref a_1), (10, 1, a0_, .ref q0_), (1, 0, q0_, .ref q1_), (1, 1, q0_, .ref q2_), (4, 15, a1_, .int y0_), (7, 1, q1_, .int y4_), (4, 6, a1_, .int y5_), (4, 14, a1_, .int y6_), (4, 4, a1_, .int y7_), (4, 3, a1_, .int y8_)]) rfl (fun fr_26 H locs hp hMr_26 g => ?_)
        have hF_27 := hp
        have hG_28 := cOK.frame hMr_26 go_.2.2.2.1 mq1_ kq1_ (by decide) (by decide) hG_24
        have g := g.more hF_27
        refine lv_iconst (v := 0) hx hb dX10_holds_99 (by decide) ?_
        have kb_7 : bd 7 7 (7 : Int32) := ⟨by decide, by decide⟩
        subst hQ
        exact W.zret (v := 0) hx hb hr (nar_z (bd_sub kb_0 (by decide) : bd 0 1 _).1 (bd_sub kb_0 (by decide) : bd 0 1 _).2) (fun t ht hW => ⟨⟨_, _, rfl, Or.inl ⟨rfl, x3_, (bd_sub bx3_ (by decide)), x2_, (bd_sub bx2_ (by decide)), 7, (bd_sub kb_7 (by decide)), (g.fcts [0, 1, 2, 6, 8] rfl)⟩, q3_of g hK ht hW⟩, g.2.2.1.F ht⟩) g.2.2.1.2.2 dX10_holds_100
      · have fc_25 := eq_f c_25
        have b_29 : bd 4 2 x_10 := eqX fc_25 b_21 kb_4 (by decide)
        exact bd_no b_29 (by decide)
  · have fc_11 := eq_f c_11
    have b_30 : bd 1 1 x_10 := eqX fc_11 (bdT x_10) kb_1 (by decide)
    refine lv_aload_n hx hb dX10_holds_38 rfl (lv_at hl 0 rfl) ?_
    refine g_getk (C := RX10) (T := TX10) (N := 10) hx hb hts (mc_ inX10) hown hK g rfl 1 (by decide) rfl (hts _ (List.mem_cons_of_mem _ t_913)) (fun _ h9 => h9) 7 rfl dX10_holds_39 ?_
    refine g_geti (C := RX1) (T := TX1) (N := 18) hx hb hts (mc_ inX1) hown hK g mq0_ kq0_ (by decide) rfl 16 (by decide) rfl (hts _ (List.mem_cons_of_mem _ t_753)) (fun _ h9 => h9) rfl dX10_holds_42 (fun x_31 bx_31 g => ?_)
    refine lv_if_eq (tgt := 52) hx hb dX10_holds_45 (by decide) (fun c_32 => ?_) (fun c_32 => ?_)
    · have fc_32 := eq_f c_32
      have b_33 : bd 0 0 x_31 := eqX fc_32 (bdT x_31) kb_0 (by decide)
      refine lv_iconst (v := 0) hx hb dX10_holds_52 (by decide) ?_
      subst hQ
      exact W.zret (v := 0) hx hb hr (nar_z (bd_sub kb_0 (by decide) : bd 0 1 _).1 (bd_sub kb_0 (by decide) : bd 0 1 _).2) (fun t ht hW => ⟨⟨_, _, rfl, Or.inl ⟨rfl, y2_, by2_, y3_, by3_, y1_, (bd_sub by1_ (by decide)), (g.fcts [13, 14, 12, 2, 4] rfl)⟩, q3_of g hK ht hW⟩, g.2.2.1.F ht⟩) g.2.2.1.2.2 dX10_holds_53
    · have fc_32 := neq_f c_32
      refine lv_iconst (v := 1) hx hb dX10_holds_48 (by decide) ?_
      refine lv_goto (tgt := 53) hx hb dX10_holds_49 (by decide) ?_
      subst hQ
      exact W.zret (v := 1) hx hb hr (nar_z (bd_sub kb_1 (by decide) : bd 0 1 _).1 (bd_sub kb_1 (by decide) : bd 0 1 _).2) (fun t ht hW => ⟨⟨_, _, rfl, Or.inr (⟨rfl, x_10, b_30, (g.fcts [1, 2, 4, 12, 13, 14] rfl)⟩), q3_of g hK ht hW⟩, g.2.2.1.F ht⟩) g.2.2.1.2.2 dX10_holds_53
set_option maxHeartbeats 4000000 in
set_option maxRecDepth 100000 in
theorem r_X10_askThrows_2 (l : Launch) (dC : Nat → ClassId) (dI : Nat → Nat → Nat) (L : List Nat) (kd : Nat → Nat) (tys : List (ClassId × FieldType)) (f0 : Nat → va_E) (sz : Nat) (hWT : WT L kd tys f0) (a0_ : Nat) (ma0_ : a0_ ∈ L) (ka0_ : kd a0_ = 10) (a1_ : Nat) (ma1_ : a1_ ∈ L) (ka1_ : kd a1_ = 4) (x2_ : Int32) (bx2_ : bd 0 2 x2_) (x3_ : Int32) (bx3_ : bd 0 95 x3_) (q0_ : Nat) (mq0_ : q0_ ∈ L) (kq0_ : kd q0_ = 1) (q1_ : Nat) (mq1_ : q1_ ∈ L) (kq1_ : kd q1_ = 7) (q2_ : Nat) (mq2_ : q2_ ∈ L) (kq2_ : kd q2_ = 9) (y0_ : Int32) (by0_ : bd 0 8 y0_) (y1_ : Int32) (by1_ : bd 1 20 y1_) (y2_ : Int32) (by2_ : bd 1 1 y2_) (y3_ : Int32) (by3_ : bd 0 0 y3_) (y4_ : Int32) (by4_ : bd 0 0 y4_) (y5_ : Int32) (by5_ : bd (-1) 2147483647 y5_) (y6_ : Int32) (by6_ : bd (-1) 2147483647 y6_) (y7_ : Int32) (by7_ : bd 1 8 y7_) (y8_ : Int32) (by8_ : bd 1 3 y8_) (y9_ : Int32) (by9_ : bd 0 9 y9_) (y10_ : Int32) (by10_ : bd (-1) 2147483647 y10_) (y11_ : Int32) (by11_ : bd (-1) 2147483647 y11_) (hGcq1_ : cOK f0 q1_) (hfx : Fs L kd f0 [(10, 1, a0_, .ref q0_), (1, 0, q0_, .ref q1_), (1, 1, q0_, .ref q2_), (4, 0, a1_, .int y0_), (1, 11, q0_, .int y1_), (1, 12, q0_, .int y2_), (1, 6, q0_, .int y3_), (1, 5, q0_, .int y4_), (4, 2, a1_, .int y5_), (4, 1, a1_, .int y6_), (7, 1, q1_, .int y7_), (4, 6, a1_, .int y8_), (4, 14, a1_, .int y9_), (4, 4, a1_, .int y10_), (4, 3, a1_, .int y11_)]) : Met l yX10_askThrows (.code yX10_askThrows cX10_askThrows 11 none :: lw_g) ({ frames := 3, cells := 0, slots := 0, locals := 73 }) (va_Pc [.ref a0_, .ref a1_, .int x2_, .int x3_] (P3 (dC, dI) L tys f0 sz)) (va_Qv (fun (f : Nat → va_E) => (∃ z0_ : Int32, bd 0 8 z0_ ∧ ∃ z1_ : Int32, bd (-1) 2147483647 z1_ ∧ ∃ z2_ : Int32, bd (-1) 2147483647 z2_ ∧ Fs L kd f [(4, 0, a1_, .int z0_), (4, 2, a1_, .int z1_), (4, 1, a1_, .int z2_)])) (Q3 (dC, dI) L kd tys [(1, 5), (1, 6), (1, 8), (1, 11), (1, 12), (1, 13), (1, 14), (1, 15), (1, 16), (1, 17), (4, 0), (4, 1), (4, 2), (4, 5)] [100, 116, 117, 146] f0 sz) (pA L sz)) 0 0 (pA L sz) := by
  refine Met.ofW (cc := cX10_askThrows) (maxL := 11) (ret := none) (by decide) rfl ?_
  intro p e s m args below meth c s₁ B hml hv
  obtain ⟨rfl, hsz, hP, hK, hD0⟩ := hv
  have hx := B.exec
  have hb := B.bytes
  have hr := B.returns
  have hts := atoms_spec (ws := (.code yX10_askThrows cX10_askThrows 11 none :: lw_g)) B.pre
  have hown : s.vm.findClass RX10 = some m.cls := findClass_of_methodNamed B.named
  have hlocks := B.notSynchronized
  subst hsz
  have g : G3 (dC, dI) L kd tys s f0 [(1, 5), (1, 6), (1, 8), (1, 11), (1, 12), (1, 13), (1, 14), (1, 15), (1, 16), (1, 17), (4, 0), (4, 1), (4, 2), (4, 5)] [100, 116, 117, 146] f0 s.heap [] [(10, 1, a0_, .ref q0_), (1, 0, q0_, .ref q1_), (1, 1, q0_, .ref q2_), (4, 0, a1_, .int y0_), (1, 11, q0_, .int y1_), (1, 12, q0_, .int y2_), (1, 6, q0_, .int y3_), (1, 5, q0_, .int y4_), (4, 2, a1_, .int y5_), (4, 1, a1_, .int y6_), (7, 1, q1_, .int y7_), (4, 6, a1_, .int y8_), (4, 14, a1_, .int y9_), (4, 4, a1_, .int y10_), (4, 3, a1_, .int y11_)] := G3.start hP hD0 hWT hfx
  have hl := lv_entry ([.ref a0_, .ref a1_, .int x2_, .int x3_]) (n := 11) (Nat.le_of_ble_eq_true rfl)
  rw [lg_entry_eq]
  generalize (lg_sl ([.ref a0_, .ref a1_, .int x2_, .int x3_]) ++ List.replicate (11 - (lg_sl ([.ref a0_, .ref a1_, .int x2_, .int x3_])).length) Slot.unset).toArray = ls at hl ⊢
  have hl : lv_has ls 11 [(0, .ref a0_), (1, .ref a1_), (2, .int x2_), (3, .int x3_)] := hl
  refine W_q (fun Q hQ => ?_)
  refine lv_aload_n hx hb dX10_askThrows_0 rfl (lv_at hl 1 rfl) ?_
  refine g_getk (C := RX4) (T := TX4) (N := 17) hx hb hts (mc_ inX4) hown hK g rfl 0 (by decide) rfl (hts _ (List.mem_cons_of_mem _ t_837)) (fun _ h9 => h9) 3 rfl dX10_askThrows_1 ?_
  have kb_0 : bd 0 0 (0 : Int32) := ⟨by decide, by decide⟩
  refine lv_if_ne (tgt := 15) hx hb dX10_askThrows_4 (by decide) (fun c_1 => ?_) (fun c_1 => ?_)
  · have fc_1 := neq_f c_1
    have b_2 : bd 1 8 y0_ := neX fc_1 by0_ kb_0 (by decide)
    subst hQ
    exact W.vret hx hb hr (fun t ht hW => ⟨⟨_, rfl, ⟨y0_, (bd_sub b_2 (by decide)), y5_, by5_, y6_, by6_, (g.fcts [3, 8, 9] rfl)⟩, q3_of g hK ht hW⟩, g.2.2.1.F ht⟩) g.2.2.1.2.2 dX10_askThrows_15
  · have fc_1 := eq_f c_1
    have b_3 : bd 0 0 y0_ := eqX fc_1 by0_ kb_0 (by decide)
    refine lv_aload_n hx hb dX10_askThrows_7 rfl (lv_at hl 1 rfl) ?_
    refine g_geti (C := RX4) (T := TX4) (N := 17) hx hb hts (mc_ inX4) hown hK g ma1_ ka1_ (by decide) rfl 15 (by decide) rfl (hts _ (List.mem_cons_of_mem _ t_875)) (fun _ h9 => h9) rfl dX10_askThrows_8 (fun x_4 bx_4 g => ?_)
    refine lv_iconst (v := 2) hx hb dX10_askThrows_11 (by decide) ?_
    have kb_2 : bd 2 2 (2 : Int32) := ⟨by decide, by decide⟩
    refine lv_icmp_eq (tgt := 16) hx hb dX10_askThrows_12 (by decide) (fun c_5 => ?_) (fun c_5 => ?_)
    · have fc_5 := eq_f c_5
      have b_6 : bd 2 2 x_4 := eqX fc_5 (bdT x_4) kb_2 (by decide)
      refine lv_aload_n hx hb dX10_askThrows_16 rfl (lv_at hl 1 rfl) ?_
      refine g_getl (C := RX4) (T := TX4) (N := 17) hx hb hts (mc_ inX4) hown hK g ma1_ ka1_ (by decide) rfl 5 (by decide) rfl (hts _ (List.mem_cons_of_mem _ t_848)) (fun _ h9 => h9) rfl dX10_askThrows_17 (fun x_7 g => ?_)
      refine lv_lstore (lv' := [(4, .long x_7), (0, .ref a0_), (1, .ref a1_), (2, .int x2_), (3, .int x3_)]) hx hb dX10_askThrows_20 hl (by decide) rfl (fun ls hl => ?_)
      refine lv_iload_n hx hb dX10_askThrows_22 rfl (lv_at hl 4 rfl) ?_
      refine lv_istore (lv' := [(6, .int x3_), (4, .long x_7), (0, .ref a0_), (1, .ref a1_), (2, .int x2_), (3, .int x3_)]) hx hb dX10_askThrows_23 hl (by decide) rfl (fun ls hl => ?_)
      refine lv_iconst (v := 0) hx hb dX10_askThrows_25 (by decide) ?_
      refine lv_istore (lv' := [(7, .int 0), (6, .int x3_), (4, .long x_7), (0, .ref a0_), (1, .ref a1_), (2, .int x2_), (3, .int x3_)]) hx hb dX10_askThrows_26 hl (by decide) rfl (fun ls hl => ?_)
      have loop_8 : ∀ (n : Nat) (v28_7 : Int32) (v28_6 : Int32) (w28_4_0_a1_ : Int32) (w28_1_12_q0_ : Int32) (w28_1_5_q0_ : Int32) (w28_4_2_a1_ : Int32) (w28_4_1_a1_ : Int32), bd 0 8 v28_7 → bd (-1) 95 v28_6 → bd 0 0 w28_4_0_a1_ → bd 0 1 w28_1_12_q0_ → bd 0 1 w28_1_5_q0_ → bd (-1) 2147483647 w28_4_2_a1_ → bd (-1) 2147483647 w28_4_1_a1_ → (8 - v28_7.toInt < (n : Int)) → ∀ (f : Nat → va_E) (H : Heap) (locs : List Loc) (ls : Array Slot), G3 (dC, dI) L kd tys s f0 [(1, 5), (1, 6), (1, 8), (1, 11), (1, 12), (1, 13), (1, 14), (1, 15), (1, 16), (1, 17), (4, 0), (4, 1), (4, 2), (4, 5)] [100, 116, 117, 146] f H locs [(4, 15, a1_, .int x_4), (10, 1, a0_, .ref q0_), (1, 0, q0_, .ref q1_), (1, 1, q0_, .ref q2_), (4, 0, a1_, .int w28_4_0_a1_), (1, 12, q0_, .int w28_1_12_q0_), (1, 5, q0_, .int w28_1_5_q0_), (4, 2, a1_, .int w28_4_2_a1_), (4, 1, a1_, .int w28_4_1_a1_), (7, 1, q1_, .int y7_), (4, 6, a1_, .int y8_), (4, 14, a1_, .int y9_), (4, 4, a1_, .int y10_), (4, 3, a1_, .int y11_)] → cOK f q1_ → lv_has ls 11 [(7, .int v28_7), (6, .int v28_6), (4, .long x_7), (0, .ref a0_), (1, .ref a1_), (2, .int x2_), (3, .int x3_)] → W p l e ({ frames := 3, cells := 0, slots := 0, locals := 73 } : Room) s m [.ref a0_, .ref a1_, .int x2_, .int x3_].toArray below meth c H locs 0 0 Q (F0 m 28 ls []) := by
        intro n28
        induction n28 with
        | zero =>
          intro v28_7 v28_6 w28_4_0_a1_ w28_1_12_q0_ w28_1_5_q0_ w28_4_2_a1_ w28_4_1_a1_ bv28_7 bv28_6 bw28_4_0_a1_ bw28_1_12_q0_ bw28_1_5_q0_ bw28_4_2_a1_ bw28_4_1_a1_ hm28 f H locs ls g hG28_c_q1_ hl
          exact absurd hm28 (by have h9_v28_7 := bv28_7; unfold bd at h9_v28_7; have h9_v28_6 := bv28_6; unfold bd at h9_v28_6; have h9_w28_4_0_a1_ := bw28_4_0_a1_; unfold bd at h9_w28_4_0_a1_; have h9_w28_1_12_q0_ := bw28_1_12_q0_; unfold bd at h9_w28_1_12_q0_; have h9_w28_1_5_q0_ := bw28_1_5_q0_; unfold bd at h9_w28_1_5_q0_; have h9_w28_4_2_a1_ := bw28_4_2_a1_; unfold bd at h9_w28_4_2_a1_; have h9_w28_4_1_a1_ := bw28_4_1_a1_; unfold bd at h9_w28_4_1_a1_; omega)
        | succ n28 ih28 =>
          intro v28_7 v28_6 w28_4_0_a1_ w28_1_12_q0_ w28_1_5_q0_ w28_4_2_a1_ w28_4_1_a1_ bv28_7 bv28_6 bw28_4_0_a1_ bw28_1_12_q0_ bw28_1_5_q0_ bw28_4_2_a1_ bw28_4_1_a1_ hm28 f H locs ls g hG28_c_q1_ hl
          refine lv_iload hx hb dX10_askThrows_28 (lv_at hl 0 rfl) ?_
          refine lv_bipush (v := 8) hx hb dX10_askThrows_30 (by decide) ?_
          have kb_8 : bd 8 8 (8 : Int32) := ⟨by decide, by decide⟩
          refine lv_icmp_ge (tgt := 166) hx hb dX10_askThrows_32 (by decide) (fun c_9 => ?_) (fun c_9 => ?_)
          · have fc_9 := le_f c_9
            have b_10 : bd 8 8 v28_7 := leR fc_9 kb_8 bv28_7 (by decide)
            refine lv_aload_n hx hb dX10_askThrows_166 rfl (lv_at hl 4 rfl) ?_
            refine lv_iconst (v := 3) hx hb dX10_askThrows_167 (by decide) ?_
            have kb_3 : bd 3 3 (3 : Int32) := ⟨by decide, by decide⟩
            have go_ := g
            refine g_put (C := RX4) (T := TX4) (N := 17) hx hb hts (mc_ inX4) tyX4 tyX4_ok nmX4 hown hK g ma1_ ka1_ (by decide) rfl 0 (by decide) (hts _ (List.mem_cons_of_mem _ t_837)) (fun _ h9 => h9) rfl rfl (okV_i (bd_sub kb_3 (by decide))) rfl rfl (by decide) (Or.inr (Or.inl (by decide))) (fx' := [(4, 15, a1_, .int x_4), (10, 1, a0_, .ref q0_), (1, 0, q0_, .ref q1_), (1, 1, q0_, .ref q2_), (1, 12, q0_, .int w28_1_12_q0_), (1, 5, q0_, .int w28_1_5_q0_), (4, 2, a1_, .int w28_4_2_a1_), (4, 1, a1_, .int w28_4_1_a1_), (7, 1, q1_, .int y7_), (4, 6, a1_, .int y8_), (4, 14, a1_, .int y9_), (4, 4, a1_, .int y10_), (4, 3, a1_, .int y11_)]) rfl dX10_askThrows_168 (fun f H locs hM_11 g => ?_)
            have hG_12 := cOK.frame hM_11 go_.2.2.2.1 mq1_ kq1_ (by decide) (by decide) hG28_c_q1_
            subst hQ
            exact W.vret hx hb hr (fun t ht hW => ⟨⟨_, rfl, ⟨3, (bd_sub kb_3 (by decide)), w28_4_2_a1_, bw28_4_2_a1_, w28_4_1_a1_, bw28_4_1_a1_, (g.fcts [0, 7, 8] rfl)⟩, q3_of g hK ht hW⟩, g.2.2.1.F ht⟩) g.2.2.1.2.2 dX10_askThrows_171
          · have fc_9 := nle_f c_9
            have b_13 : bd 0 7 v28_7 := ltL fc_9 bv28_7 kb_8 (by decide)
            refine lv_iload hx hb dX10_askThrows_35 (lv_at hl 1 rfl) ?_
            refine lv_iconst (v := (-1)) hx hb dX10_askThrows_37 (by decide) ?_
            have kb_m1 : bd (-1) (-1) ((-1) : Int32) := ⟨by decide, by decide⟩
            refine lv_icmp_eq (tgt := 166) hx hb dX10_askThrows_38 (by decide) (fun c_14 => ?_) (fun c_14 => ?_)
            · have fc_14 := eq_f c_14
              have b_15 : bd (-1) (-1) v28_6 := eqX fc_14 bv28_6 kb_m1 (by decide)
              refine lv_aload_n hx hb dX10_askThrows_166 rfl (lv_at hl 4 rfl) ?_
              refine lv_iconst (v := 3) hx hb dX10_askThrows_167 (by decide) ?_
              have kb_3 : bd 3 3 (3 : Int32) := ⟨by decide, by decide⟩
              have go_ := g
              refine g_put (C := RX4) (T := TX4) (N := 17) hx hb hts (mc_ inX4) tyX4 tyX4_ok nmX4 hown hK g ma1_ ka1_ (by decide) rfl 0 (by decide) (hts _ (List.mem_cons_of_mem _ t_837)) (fun _ h9 => h9) rfl rfl (okV_i (bd_sub kb_3 (by decide))) rfl rfl (by decide) (Or.inr (Or.inl (by decide))) (fx' := [(4, 15, a1_, .int x_4), (10, 1, a0_, .ref q0_), (1, 0, q0_, .ref q1_), (1, 1, q0_, .ref q2_), (1, 12, q0_, .int w28_1_12_q0_), (1, 5, q0_, .int w28_1_5_q0_), (4, 2, a1_, .int w28_4_2_a1_), (4, 1, a1_, .int w28_4_1_a1_), (7, 1, q1_, .int y7_), (4, 6, a1_, .int y8_), (4, 14, a1_, .int y9_), (4, 4, a1_, .int y10_), (4, 3, a1_, .int y11_)]) rfl dX10_askThrows_168 (fun f H locs hM_16 g => ?_)
              have hG_17 := cOK.frame hM_16 go_.2.2.2.1 mq1_ kq1_ (by decide) (by decide) hG28_c_q1_
              subst hQ
              exact W.vret hx hb hr (fun t ht hW => ⟨⟨_, rfl, ⟨3, (bd_sub kb_3 (by decide)), w28_4_2_a1_, bw28_4_2_a1_, w28_4_1_a1_, bw28_4_1_a1_, (g.fcts [0, 7, 8] rfl)⟩, q3_of g hK ht hW⟩, g.2.2.1.F ht⟩) g.2.2.1.2.2 dX10_askThrows_171
            · have fc_14 := neq_f c_14
              have b_18 : bd 0 95 v28_6 := neX fc_14 bv28_6 kb_m1 (by decide)
              refine lv_aload_n hx hb dX10_askThrows_41 rfl (lv_at hl 3 rfl) ?_
              refine lv_iload hx hb dX10_askThrows_42 (lv_at hl 1 rfl) ?_
              have go_ := g
              refine g_calli (va_runV (As := [.int v28_6]) (rest := []) ⟨hx, hb, hml, hown, hts⟩ (r_X10_lastMark l dC dI L kd tys f H.size g.2.2.2.1 a0_ ma0_ ka0_ v28_6 b_18) (cwV 1 hts (gV_ t_1620 t_1622 t_71 t_194 t_1623) rfl rfl rfl (by decide +kernel) ⟨(Nat.le_of_ble_eq_true rfl), (Nat.le_of_ble_eq_true rfl)⟩) (pre3V g hK ma0_ ka0_ (by decide) (q := (RX10, TX10, 10)) rfl) rfl rfl hl.1 rfl (lv_room (Nat.le_of_ble_eq_true rfl)) dX10_askThrows_44 ⟨(Nat.le_of_ble_eq_true rfl), (Nat.le_of_ble_eq_true rfl)⟩) g hK (by decide) (by decide) (fx' := [(4, 15, a1_, .int x_4), (10, 1, a0_, .ref q0_), (1, 0, q0_, .ref q1_), (1, 1, q0_, .ref q2_), (4, 0, a1_, .int w28_4_0_a1_), (1, 12, q0_, .int w28_1_12_q0_), (1, 5, q0_, .int w28_1_5_q0_), (4, 2, a1_, .int w28_4_2_a1_), (4, 1, a1_, .int w28_4_1_a1_), (7, 1, q1_, .int y7_), (4, 6, a1_, .int y8_), (4, 14, a1_, .int y9_), (4, 4, a1_, .int y10_), (4, 3, a1_, .int y11_)]) rfl (fun r_19 fr_19 H locs hp hMr_19 g => ?_)
              obtain ⟨h_20, -⟩ := hp
              have hG_21 := cOK.frame hMr_19 go_.2.2.2.1 mq1_ kq1_ (by decide) (by decide) hG28_c_q1_
              refine lv_istore (lv' := [(8, .int r_19), (7, .int v28_7), (6, .int v28_6), (4, .long x_7), (0, .ref a0_), (1, .ref a1_), (2, .int x2_), (3, .int x3_)]) hx hb dX10_askThrows_47 hl (by decide) rfl (fun ls hl => ?_)
              refine lv_aload_n hx hb dX10_askThrows_49 rfl (lv_at hl 4 rfl) ?_
              refine g_getr (K := 7) (C := RX10) (T := TX10) (N := 10) hx hb hts (mc_ inX10) hown hK g ma0_ ka0_ (by decide) rfl 0 (by decide) rfl (hts _ (List.mem_cons_of_mem _ t_912)) (fun _ h9 => h9) rfl dX10_askThrows_50 (fun a_22 ma_22 ka_22 g => ?_)
              refine g_getr (K := 137) (C := RX7) (T := TX7) (N := 19) hx hb hts (mc_ inX7) hown hK g ma_22 ka_22 (by decide) rfl 2 (by decide) rfl (hts _ (List.mem_cons_of_mem _ t_634)) (fun _ h9 => h9) rfl dX10_askThrows_53 (fun a_23 ma_23 ka_23 g => ?_)
              refine lv_iload hx hb dX10_askThrows_56 (lv_at hl 2 rfl) ?_
              refine g_aald hx hb hK g ma_23 ka_23 (by decide) rfl (by decide) (in_bd b_18 (by decide)) dX10_askThrows_58 (fun a_24 ma_24 ua_24 wa_24 => ?_)
              have ka_24 : kd a_24 = 6 := by omega
              refine g_geti (C := RX6) (T := TX6) (N := 13) hx hb hts (mc_ inX6) hown hK g ma_24 ka_24 (by decide) rfl 11 (by decide) rfl (hts _ (List.mem_cons_of_mem _ t_590)) (fun _ h9 => h9) rfl dX10_askThrows_59 (fun x_25 bx_25 g => ?_)
              refine lv_istore (lv' := [(9, .int x_25), (8, .int r_19), (7, .int v28_7), (6, .int v28_6), (4, .long x_7), (0, .ref a0_), (1, .ref a1_), (2, .int x2_), (3, .int x3_)]) hx hb dX10_askThrows_62 hl (by decide) rfl (fun ls hl => ?_)
              have loop_26 : ∀ (n : Nat) (v64_9 : Int32) (w64_4_0_a1_ : Int32) (w64_1_12_q0_ : Int32) (w64_1_5_q0_ : Int32) (w64_4_2_a1_ : Int32) (w64_4_1_a1_ : Int32), bd 0 500 v64_9 → bd 0 0 w64_4_0_a1_ → bd 0 1 w64_1_12_q0_ → bd 0 1 w64_1_5_q0_ → bd (-1) 2147483647 w64_4_2_a1_ → bd (-1) 2147483647 w64_4_1_a1_ → (500 - v64_9.toInt < (n : Int)) → ∀ (f : Nat → va_E) (H : Heap) (locs : List Loc) (ls : Array Slot), G3 (dC, dI) L kd tys s f0 [(1, 5), (1, 6), (1, 8), (1, 11), (1, 12), (1, 13), (1, 14), (1, 15), (1, 16), (1, 17), (4, 0), (4, 1), (4, 2), (4, 5)] [100, 116, 117, 146] f H locs [(6, 11, a_24, .int x_25), (7, 2, a_22, .ref a_23), (10, 0, a0_, .ref a_22), (4, 15, a1_, .int x_4), (10, 1, a0_, .ref q0_), (1, 0, q0_, .ref q1_), (1, 1, q0_, .ref q2_), (4, 0, a1_, .int w64_4_0_a1_), (1, 12, q0_, .int w64_1_12_q0_), (1, 5, q0_, .int w64_1_5_q0_), (4, 2, a1_, .int w64_4_2_a1_), (4, 1, a1_, .int w64_4_1_a1_), (7, 1, q1_, .int y7_), (4, 6, a1_, .int y8_), (4, 14, a1_, .int y9_), (4, 4, a1_, .int y10_), (4, 3, a1_, .int y11_)] → cOK f q1_ → lv_has ls 11 [(9, .int v64_9), (8, .int r_19), (7, .int v28_7), (6, .int v28_6), (4, .long x_7), (0, .ref a0_), (1, .ref a1_), (2, .int x2_), (3, .int x3_)] → W p l e ({ frames := 3, cells := 0, slots := 0, locals := 73 } : Room) s m [.ref a0_, .ref a1_, .int x2_, .int x3_].toArray below meth c H locs 0 0 Q (F0 m 64 ls []) := by
                intro n64
                induction n64 with
                | zero =>
                  intro v64_9 w64_4_0_a1_ w64_1_12_q0_ w64_1_5_q0_ w64_4_2_a1_ w64_4_1_a1_ bv64_9 bw64_4_0_a1_ bw64_1_12_q0_ bw64_1_5_q0_ bw64_4_2_a1_ bw64_4_1_a1_ hm64 f H locs ls g hG64_c_q1_ hl
                  exact absurd hm64 (by have h9_v64_9 := bv64_9; unfold bd at h9_v64_9; have h9_w64_4_0_a1_ := bw64_4_0_a1_; unfold bd at h9_w64_4_0_a1_; have h9_w64_1_12_q0_ := bw64_1_12_q0_; unfold bd at h9_w64_1_12_q0_; have h9_w64_1_5_q0_ := bw64_1_5_q0_; unfold bd at h9_w64_1_5_q0_; have h9_w64_4_2_a1_ := bw64_4_2_a1_; unfold bd at h9_w64_4_2_a1_; have h9_w64_4_1_a1_ := bw64_4_1_a1_; unfold bd at h9_w64_4_1_a1_; omega)
                | succ n64 ih64 =>
                  intro v64_9 w64_4_0_a1_ w64_1_12_q0_ w64_1_5_q0_ w64_4_2_a1_ w64_4_1_a1_ bv64_9 bw64_4_0_a1_ bw64_1_12_q0_ bw64_1_5_q0_ bw64_4_2_a1_ bw64_4_1_a1_ hm64 f H locs ls g hG64_c_q1_ hl
                  refine lv_iload hx hb dX10_askThrows_64 (lv_at hl 0 rfl) ?_
                  refine lv_iload hx hb dX10_askThrows_66 (lv_at hl 1 rfl) ?_
                  refine lv_icmp_gt (tgt := 152) hx hb dX10_askThrows_68 (by decide) (fun c_27 => ?_) (fun c_27 => ?_)
                  · have fc_27 := lt_f c_27
                    refine lv_aload_n hx hb dX10_askThrows_152 rfl (lv_at hl 5 rfl) ?_
                    refine lv_iload hx hb dX10_askThrows_153 (lv_at hl 3 rfl) ?_
                    have go_ := g
                    refine g_calli (va_runV (As := [.int v28_6]) (rest := []) ⟨hx, hb, hml, hown, hts⟩ (r_X10_upwards l dC dI L kd tys f H.size g.2.2.2.1 a0_ ma0_ ka0_ v28_6) (cwV 1 hts (gV_ t_1625 t_1627 t_72 t_194 t_1628) rfl rfl rfl (by decide +kernel) ⟨(Nat.le_of_ble_eq_true rfl), (Nat.le_of_ble_eq_true rfl)⟩) (pre3V g hK ma0_ ka0_ (by decide) (q := (RX10, TX10, 10)) rfl) rfl rfl hl.1 rfl (lv_room (Nat.le_of_ble_eq_true rfl)) dX10_askThrows_155 ⟨(Nat.le_of_ble_eq_true rfl), (Nat.le_of_ble_eq_true rfl)⟩) g hK (by decide) (by decide) (fx' := [(6, 11, a_24, .int x_25), (7, 2, a_22, .ref a_23), (10, 0, a0_, .ref a_22), (4, 15, a1_, .int x_4), (10, 1, a0_, .ref q0_), (1, 0, q0_, .ref q1_), (1, 1, q0_, .ref q2_), (4, 0, a1_, .int w64_4_0_a1_), (1, 12, q0_, .int w64_1_12_q0_), (1, 5, q0_, .int w64_1_5_q0_), (4, 2, a1_, .int w64_4_2_a1_), (4, 1, a1_, .int w64_4_1_a1_), (7, 1, q1_, .int y7_), (4, 6, a1_, .int y8_), (4, 14, a1_, .int y9_), (4, 4, a1_, .int y10_), (4, 3, a1_, .int y11_)]) rfl (fun r_28 fr_28 H locs hp hMr_28 g => ?_)
                    obtain ⟨h_29, -⟩ := hp
                    have hG_30 := cOK.frame hMr_28 go_.2.2.2.1 mq1_ kq1_ (by decide) (by decide) hG64_c_q1_
                    refine lv_istore (lv' := [(6, .int r_28), (9, .int v64_9), (8, .int r_19), (7, .int v28_7), (4, .long x_7), (0, .ref a0_), (1, .ref a1_), (2, .int x2_), (3, .int x3_)]) hx hb dX10_askThrows_158 hl (by decide) rfl (fun ls hl => ?_)
                    have kb_1 : bd 1 1 (1 : Int32) := ⟨by decide, by decide⟩
                    obtain ⟨y_31, ey_31⟩ : ∃ z : Int32, z = v28_7 + 1 := ⟨_, rfl⟩
                    refine lv_iinc (v := y_31) (lv' := [(7, .int y_31), (6, .int r_28), (9, .int v64_9), (8, .int r_19), (4, .long x_7), (0, .ref a0_), (1, .ref a1_), (2, .int x2_), (3, .int x3_)]) hx hb dX10_askThrows_160 hl (k := 3) rfl (by rw [ey_31]; rfl) (by decide) rfl (fun ls hl => ?_)
                    have ty_31 := add_bd ey_31 b_13 kb_1 (by decide)
                    have b_32 : bd 1 8 y_31 := add_rg ty_31 b_13 kb_1 (by decide)
                    refine lv_goto (tgt := 28) hx hb dX10_askThrows_163 (by decide) ?_
                    have hl9 := lv_sub hl [0, 1, 4, 5, 6, 7, 8] (by rfl : lv_pick [(7, .int y_31), (6, .int r_28), (9, .int v64_9), (8, .int r_19), (4, .long x_7), (0, .ref a0_), (1, .ref a1_), (2, .int x2_), (3, .int x3_)] [0, 1, 4, 5, 6, 7, 8] = [(7, .int y_31), (6, .int r_28), (4, .long x_7), (0, .ref a0_), (1, .ref a1_), (2, .int x2_), (3, .int x3_)])
                    have g9 := g.sub (fx' := [(4, 15, a1_, .int x_4), (10, 1, a0_, .ref q0_), (1, 0, q0_, .ref q1_), (1, 1, q0_, .ref q2_), (4, 0, a1_, .int w64_4_0_a1_), (1, 12, q0_, .int w64_1_12_q0_), (1, 5, q0_, .int w64_1_5_q0_), (4, 2, a1_, .int w64_4_2_a1_), (4, 1, a1_, .int w64_4_1_a1_), (7, 1, q1_, .int y7_), (4, 6, a1_, .int y8_), (4, 14, a1_, .int y9_), (4, 4, a1_, .int y10_), (4, 3, a1_, .int y11_)]) [3, 4, 5, 6, 7, 8, 9, 10, 11, 12, 13, 14, 15, 16] rfl
                    exact ih28  y_31 r_28 w64_4_0_a1_ w64_1_12_q0_ w64_1_5_q0_ w64_4_2_a1_ w64_4_1_a1_ (bd_sub b_32 (by decide)) h_29 bw64_4_0_a1_ bw64_1_12_q0_ bw64_1_5_q0_ bw64_4_2_a1_ bw64_4_1_a1_ (by have h9_0 := b_32; unfold bd at h9_0; have h9_1 := bv28_6; unfold bd at h9_1; have h9_2 := bv28_7; unfold bd at h9_2; have h9_3 := bw28_1_12_q0_; unfold bd at h9_3; have h9_4 := bw28_1_5_q0_; unfold bd at h9_4; have h9_5 := bw28_4_0_a1_; unfold bd at h9_5; have h9_6 := bw28_4_1_a1_; unfold bd at h9_6; have h9_7 := bw28_4_2_a1_; unfold bd at h9_7; have h9_8 := bw64_1_12_q0_; unfold bd at h9_8; have h9_9 := bw64_1_5_q0_; unfold bd at h9_9; have h9_10 := bw64_4_0_a1_; unfold bd at h9_10; have h9_11 := bw64_4_1_a1_; unfold bd at h9_11; have h9_12 := bw64_4_2_a1_; unfold bd at h9_12; have h9_13 := h_29; unfold bd at h9_13; have h9_14 := kb_0; unfold bd at h9_14; have h9_15 := kb_1; unfold bd at h9_15; have h9_16 := kb_2; unfold bd at h9_16; have h9_17 := kb_8; unfold bd at h9_17; have h9_18 := kb_m1; unfold bd at h9_18; omega) _ _ _ _ g9 hG_30 hl9
                  · have fc_27 := nlt_f c_27
                    have b_33 : bd 0 499 v64_9 := leL fc_27 bv64_9 h_20 (by decide)
                    have b_34 : bd 0 499 r_19 := leR fc_27 bv64_9 h_20 (by decide)
                    refine lv_aload_n hx hb dX10_askThrows_71 rfl (lv_at hl 5 rfl) ?_
                    refine g_getk (C := RX10) (T := TX10) (N := 10) hx hb hts (mc_ inX10) hown hK g rfl 0 (by decide) rfl (hts _ (List.mem_cons_of_mem _ t_912)) (fun _ h9 => h9) 2 rfl dX10_askThrows_72 ?_
                    refine g_getr (K := 140) (C := RX7) (T := TX7) (N := 19) hx hb hts (mc_ inX7) hown hK g ma_22 ka_22 (by decide) rfl 7 (by decide) rfl (hts _ (List.mem_cons_of_mem _ t_650)) (fun _ h9 => h9) rfl dX10_askThrows_75 (fun a_35 ma_35 ka_35 g => ?_)
                    refine lv_iload hx hb dX10_askThrows_78 (lv_at hl 0 rfl) ?_
                    refine g_iald hx hb hK g ma_35 ka_35 (by decide) rfl (in_bd b_33 (by decide)) dX10_askThrows_80 (fun x_36 bx_36 cx_36 => ?_)
                    refine lv_iconst (v := 4) hx hb dX10_askThrows_81 (by decide) ?_
                    have kb_4 : bd 4 4 (4 : Int32) := ⟨by decide, by decide⟩
                    refine lv_icmp_ne (tgt := 105) hx hb dX10_askThrows_82 (by decide) (fun c_37 => ?_) (fun c_37 => ?_)
                    · have fc_37 := neq_f c_37
                      refine lv_iconst (v := 0) hx hb dX10_askThrows_105 (by decide) ?_
                      refine lv_istore (lv' := [(10, .int 0), (9, .int v64_9), (8, .int r_19), (7, .int v28_7), (6, .int v28_6), (4, .long x_7), (0, .ref a0_), (1, .ref a1_), (2, .int x2_), (3, .int x3_)]) hx hb dX10_askThrows_106 hl (by decide) rfl (fun ls hl => ?_)
                      refine lv_iload hx hb dX10_askThrows_108 (lv_at hl 0 rfl) ?_
                      refine lv_if_eq (tgt := 146) hx hb dX10_askThrows_110 (by decide) (fun c_ => ?_) (fun c_ => absurd (by decide) c_)
                      have kb_1 : bd 1 1 (1 : Int32) := ⟨by decide, by decide⟩
                      obtain ⟨y_38, ey_38⟩ : ∃ z : Int32, z = v64_9 + 1 := ⟨_, rfl⟩
                      refine lv_iinc (v := y_38) (lv' := [(9, .int y_38), (10, .int 0), (8, .int r_19), (7, .int v28_7), (6, .int v28_6), (4, .long x_7), (0, .ref a0_), (1, .ref a1_), (2, .int x2_), (3, .int x3_)]) hx hb dX10_askThrows_146 hl (k := 1) rfl (by rw [ey_38]; rfl) (by decide) rfl (fun ls hl => ?_)
                      have ty_38 := add_bd ey_38 b_33 kb_1 (by decide)
                      have b_39 : bd 1 500 y_38 := add_rg ty_38 b_33 kb_1 (by decide)
                      refine lv_goto (tgt := 64) hx hb dX10_askThrows_149 (by decide) ?_
                      have hl9 := lv_sub hl [0, 2, 3, 4, 5, 6, 7, 8, 9] (by rfl : lv_pick [(9, .int y_38), (10, .int 0), (8, .int r_19), (7, .int v28_7), (6, .int v28_6), (4, .long x_7), (0, .ref a0_), (1, .ref a1_), (2, .int x2_), (3, .int x3_)] [0, 2, 3, 4, 5, 6, 7, 8, 9] = [(9, .int y_38), (8, .int r_19), (7, .int v28_7), (6, .int v28_6), (4, .long x_7), (0, .ref a0_), (1, .ref a1_), (2, .int x2_), (3, .int x3_)])
                      have g9 := g.sub (fx' := [(6, 11, a_24, .int x_25), (7, 2, a_22, .ref a_23), (10, 0, a0_, .ref a_22), (4, 15, a1_, .int x_4), (10, 1, a0_, .ref q0_), (1, 0, q0_, .ref q1_), (1, 1, q0_, .ref q2_), (4, 0, a1_, .int w64_4_0_a1_), (1, 12, q0_, .int w64_1_12_q0_), (1, 5, q0_, .int w64_1_5_q0_), (4, 2, a1_, .int w64_4_2_a1_), (4, 1, a1_, .int w64_4_1_a1_), (7, 1, q1_, .int y7_), (4, 6, a1_, .int y8_), (4, 14, a1_, .int y9_), (4, 4, a1_, .int y10_), (4, 3, a1_, .int y11_)]) [1, 2, 3, 4, 5, 6, 7, 8, 9, 10, 11, 12, 13, 14, 15, 16, 17] rfl
                      exact ih64  y_38 w64_4_0_a1_ w64_1_12_q0_ w64_1_5_q0_ w64_4_2_a1_ w64_4_1_a1_ (bd_sub b_39 (by decide)) bw64_4_0_a1_ bw64_1_12_q0_ bw64_1_5_q0_ bw64_4_2_a1_ bw64_4_1_a1_ (by have h9_0 := b_39; unfold bd at h9_0; have h9_1 := bv64_9; unfold bd at h9_1; have h9_2 := bw64_1_12_q0_; unfold bd at h9_2; have h9_3 := bw64_1_5_q0_; unfold bd at h9_3; have h9_4 := bw64_4_0_a1_; unfold bd at h9_4; have h9_5 := bw64_4_1_a1_; unfold bd at h9_5; have h9_6 := bw64_4_2_a1_; unfold bd at h9_6; have h9_7 := kb_0; unfold bd at h9_7; have h9_8 := kb_1; unfold bd at h9_8; have h9_9 := kb_2; unfold bd at h9_9; have h9_10 := kb_4; unfold bd at h9_10; have h9_11 := kb_8; unfold bd at h9_11; have h9_12 := kb_m1; unfold bd at h9_12; omega) _ _ _ _ g9 hG64_c_q1_ hl9
                    · have fc_37 := eq_f c_37
                      have b_40 : bd 4 4 x_36 := eqX fc_37 (bdT x_36) kb_4 (by decide)
                      refine lv_aload_n hx hb dX10_askThrows_85 rfl (lv_at hl 5 rfl) ?_
                      refine g_getk (C := RX10) (T := TX10) (N := 10) hx hb hts (mc_ inX10) hown hK g rfl 0 (by decide) rfl (hts _ (List.mem_cons_of_mem _ t_912)) (fun _ h9 => h9) 3 rfl dX10_askThrows_86 ?_
                      refine g_getr (K := 145) (C := RX7) (T := TX7) (N := 19) hx hb hts (mc_ inX7) hown hK g ma_22 ka_22 (by decide) rfl 12 (by decide) rfl (hts _ (List.mem_cons_of_mem _ t_665)) (fun _ h9 => h9) rfl dX10_askThrows_89 (fun a_41 ma_41 ka_41 g => ?_)
                      refine lv_iload hx hb dX10_askThrows_92 (lv_at hl 0 rfl) ?_
                      refine g_lald hx hb hK g ma_41 ka_41 (by decide) rfl (in_bd b_33 (by decide)) dX10_askThrows_94 (fun x_42 => ?_)
                      refine lv_lload hx hb dX10_askThrows_95 (lv_at hl 4 rfl) ?_
                      refine W.lcmp hx hb dX10_askThrows_97 ?_
                      refine lv_if_ne (tgt := 105) hx hb dX10_askThrows_98 (by decide) (fun c_43 => ?_) (fun c_43 => ?_)
                      · refine lv_iconst (v := 0) hx hb dX10_askThrows_105 (by decide) ?_
                        refine lv_istore (lv' := [(10, .int 0), (9, .int v64_9), (8, .int r_19), (7, .int v28_7), (6, .int v28_6), (4, .long x_7), (0, .ref a0_), (1, .ref a1_), (2, .int x2_), (3, .int x3_)]) hx hb dX10_askThrows_106 hl (by decide) rfl (fun ls hl => ?_)
                        refine lv_iload hx hb dX10_askThrows_108 (lv_at hl 0 rfl) ?_
                        refine lv_if_eq (tgt := 146) hx hb dX10_askThrows_110 (by decide) (fun c_ => ?_) (fun c_ => absurd (by decide) c_)
                        have kb_1 : bd 1 1 (1 : Int32) := ⟨by decide, by decide⟩
                        obtain ⟨y_44, ey_44⟩ : ∃ z : Int32, z = v64_9 + 1 := ⟨_, rfl⟩
                        refine lv_iinc (v := y_44) (lv' := [(9, .int y_44), (10, .int 0), (8, .int r_19), (7, .int v28_7), (6, .int v28_6), (4, .long x_7), (0, .ref a0_), (1, .ref a1_), (2, .int x2_), (3, .int x3_)]) hx hb dX10_askThrows_146 hl (k := 1) rfl (by rw [ey_44]; rfl) (by decide) rfl (fun ls hl => ?_)
                        have ty_44 := add_bd ey_44 b_33 kb_1 (by decide)
                        have b_45 : bd 1 500 y_44 := add_rg ty_44 b_33 kb_1 (by decide)
                        refine lv_goto (tgt := 64) hx hb dX10_askThrows_149 (by decide) ?_
                        have hl9 := lv_sub hl [0, 2, 3, 4, 5, 6, 7, 8, 9] (by rfl : lv_pick [(9, .int y_44), (10, .int 0), (8, .int r_19), (7, .int v28_7), (6, .int v28_6), (4, .long x_7), (0, .ref a0_), (1, .ref a1_), (2, .int x2_), (3, .int x3_)] [0, 2, 3, 4, 5, 6, 7, 8, 9] = [(9, .int y_44), (8, .int r_19), (7, .int v28_7), (6, .int v28_6), (4, .long x_7), (0, .ref a0_), (1, .ref a1_), (2, .int x2_), (3, .int x3_)])
                        have g9 := g.sub (fx' := [(6, 11, a_24, .int x_25), (7, 2, a_22, .ref a_23), (10, 0, a0_, .ref a_22), (4, 15, a1_, .int x_4), (10, 1, a0_, .ref q0_), (1, 0, q0_, .ref q1_), (1, 1, q0_, .ref q2_), (4, 0, a1_, .int w64_4_0_a1_), (1, 12, q0_, .int w64_1_12_q0_), (1, 5, q0_, .int w64_1_5_q0_), (4, 2, a1_, .int w64_4_2_a1_), (4, 1, a1_, .int w64_4_1_a1_), (7, 1, q1_, .int y7_), (4, 6, a1_, .int y8_), (4, 14, a1_, .int y9_), (4, 4, a1_, .int y10_), (4, 3, a1_, .int y11_)]) [2, 3, 4, 5, 6, 7, 8, 9, 10, 11, 12, 13, 14, 15, 16, 17, 18] rfl
                        exact ih64  y_44 w64_4_0_a1_ w64_1_12_q0_ w64_1_5_q0_ w64_4_2_a1_ w64_4_1_a1_ (bd_sub b_45 (by decide)) bw64_4_0_a1_ bw64_1_12_q0_ bw64_1_5_q0_ bw64_4_2_a1_ bw64_4_1_a1_ (by have h9_0 := b_45; unfold bd at h9_0; have h9_1 := bv64_9; unfold bd at h9_1; have h9_2 := bw64_1_12_q0_; unfold bd at h9_2; have h9_3 := bw64_1_5_q0_; unfold bd at h9_3; have h9_4 := bw64_4_0_a1_; unfold bd at h9_4; have h9_5 := bw64_4_1_a1_; unfold bd at h9_5; have h9_6 := bw64_4_2_a1_; unfold bd at h9_6; have h9_7 := kb_0; unfold bd at h9_7; have h9_8 := kb_1; unfold bd at h9_8; have h9_9 := kb_2; unfold bd at h9_9; have h9_10 := kb_4; unfold bd at h9_10; have h9_11 := kb_8; unfold bd at h9_11; have h9_12 := kb_m1; unfold bd at h9_12; omega) _ _ _ _ g9 hG64_c_q1_ hl9
                      · refine lv_iconst (v := 1) hx hb dX10_askThrows_101 (by decide) ?_
                        refine lv_goto (tgt := 106) hx hb dX10_askThrows_102 (by decide) ?_
                        refine lv_istore (lv' := [(10, .int 1), (9, .int v64_9), (8, .int r_19), (7, .int v28_7), (6, .int v28_6), (4, .long x_7), (0, .ref a0_), (1, .ref a1_), (2, .int x2_), (3, .int x3_)]) hx hb dX10_askThrows_106 hl (by decide) rfl (fun ls hl => ?_)
                        refine lv_iload hx hb dX10_askThrows_108 (lv_at hl 0 rfl) ?_
                        refine lv_if_eq (tgt := 146) hx hb dX10_askThrows_110 (by decide) (fun c_ => absurd c_ (by decide)) (fun c_ => ?_)
                        refine lv_aload_n hx hb dX10_askThrows_113 rfl (lv_at hl 6 rfl) ?_
                        refine g_getk (C := RX10) (T := TX10) (N := 10) hx hb hts (mc_ inX10) hown hK g rfl 0 (by decide) rfl (hts _ (List.mem_cons_of_mem _ t_912)) (fun _ h9 => h9) 4 rfl dX10_askThrows_114 ?_
                        refine g_getr (K := 141) (C := RX7) (T := TX7) (N := 19) hx hb hts (mc_ inX7) hown hK g ma_22 ka_22 (by decide) rfl 8 (by decide) rfl (hts _ (List.mem_cons_of_mem _ t_652)) (fun _ h9 => h9) rfl dX10_askThrows_117 (fun a_46 ma_46 ka_46 g => ?_)
                        refine lv_iload hx hb dX10_askThrows_120 (lv_at hl 1 rfl) ?_
                        refine g_iald hx hb hK g ma_46 ka_46 (by decide) rfl (in_bd b_33 (by decide)) dX10_askThrows_122 (fun x_47 bx_47 cx_47 => ?_)
                        refine lv_iconst (v := (-1)) hx hb dX10_askThrows_123 (by decide) ?_
                        refine lv_icmp_eq (tgt := 145) hx hb dX10_askThrows_124 (by decide) (fun c_48 => ?_) (fun c_48 => ?_)
                        · have fc_48 := eq_f c_48
                          have b_49 : bd (-1) (-1) x_47 := eqX fc_48 (bdT x_47) kb_m1 (by decide)
                          subst hQ
                          exact W.vret hx hb hr (fun t ht hW => ⟨⟨_, rfl, ⟨w64_4_0_a1_, (bd_sub bw64_4_0_a1_ (by decide)), w64_4_2_a1_, bw64_4_2_a1_, w64_4_1_a1_, bw64_4_1_a1_, (g.fcts [10, 13, 14] rfl)⟩, q3_of g hK ht hW⟩, g.2.2.1.F ht⟩) g.2.2.1.2.2 dX10_askThrows_145
                        · have fc_48 := neq_f c_48
                          refine lv_aload_n hx hb dX10_askThrows_127 rfl (lv_at hl 6 rfl) ?_
                          refine lv_aload_n hx hb dX10_askThrows_128 rfl (lv_at hl 7 rfl) ?_
                          refine lv_iload hx hb dX10_askThrows_129 (lv_at hl 1 rfl) ?_
                          refine lv_iload_n hx hb dX10_askThrows_131 rfl (lv_at hl 8 rfl) ?_
                          have go_ := g
                          refine g_calli (va_runV (As := [.ref a1_, .int v64_9, .int x2_]) (rest := []) ⟨hx, hb, hml, hown, hts⟩ (r_X10_holds_16 l dC dI L kd tys f H.size g.2.2.2.1 a0_ ma0_ ka0_ a1_ ma1_ ka1_ v64_9 b_33 x2_ bx2_ q0_ mq0_ kq0_ q1_ mq1_ kq1_ q2_ mq2_ kq2_ x_4 b_6 w64_4_0_a1_ bw64_4_0_a1_ w64_4_2_a1_ bw64_4_2_a1_ w64_4_1_a1_ bw64_4_1_a1_ y7_ by7_ y8_ by8_ y9_ by9_ y10_ by10_ y11_ by11_ hG64_c_q1_ (g.fcts [7, 8, 9, 6, 10, 13, 14, 15, 16, 17, 18, 19] rfl)) (cwV 3 hts (gV_ t_1547 t_1549 t_57 t_194 t_1550) rfl rfl rfl (by decide +kernel) ⟨(Nat.le_of_ble_eq_true rfl), (Nat.le_of_ble_eq_true rfl)⟩) (pre3V g hK ma0_ ka0_ (by decide) (q := (RX10, TX10, 10)) rfl) rfl rfl hl.1 rfl (lv_room (Nat.le_of_ble_eq_true rfl)) dX10_askThrows_132 ⟨(Nat.le_of_ble_eq_true rfl), (Nat.le_of_ble_eq_true rfl)⟩) g hK (by decide) (by decide) (fx' := [(7, 8, a_22, .ref a_46), (7, 12, a_22, .ref a_41), (7, 7, a_22, .ref a_35), (6, 11, a_24, .int x_25), (7, 2, a_22, .ref a_23), (10, 0, a0_, .ref a_22), (4, 15, a1_, .int x_4), (10, 1, a0_, .ref q0_), (1, 0, q0_, .ref q1_), (1, 1, q0_, .ref q2_), (7, 1, q1_, .int y7_), (4, 6, a1_, .int y8_), (4, 14, a1_, .int y9_), (4, 4, a1_, .int y10_), (4, 3, a1_, .int y11_)]) rfl (fun r_50 fr_50 H locs hp hMr_50 g => ?_)
                          rcases hp with ⟨h_51, x_52, h_53, x_54, h_55, x_56, h_57, hF_58⟩ | ⟨h_59, x_60, h_61, hF_62⟩
                          · have hG_63 := cOK.frame hMr_50 go_.2.2.2.1 mq1_ kq1_ (by decide) (by decide) hG64_c_q1_
                            obtain rfl : r_50 = 0 := h_51
                            have g := g.more hF_58
                            refine lv_if_ne (tgt := 145) hx hb dX10_askThrows_135 (by decide) (fun c_ => absurd c_ (by decide)) (fun c_ => ?_)
                            refine lv_aload_n hx hb dX10_askThrows_138 rfl (lv_at hl 7 rfl) ?_
                            refine g_getk (C := RX4) (T := TX4) (N := 17) hx hb hts (mc_ inX4) hown hK g rfl 0 (by decide) rfl (hts _ (List.mem_cons_of_mem _ t_837)) (fun _ h9 => h9) 2 rfl dX10_askThrows_139 ?_
                            refine lv_if_eq (tgt := 146) hx hb dX10_askThrows_142 (by decide) (fun c_64 => ?_) (fun c_64 => ?_)
                            · have fc_64 := eq_f c_64
                              have b_65 : bd 0 0 x_56 := eqX fc_64 h_57 kb_0 (by decide)
                              have kb_1 : bd 1 1 (1 : Int32) := ⟨by decide, by decide⟩
                              obtain ⟨y_66, ey_66⟩ : ∃ z : Int32, z = v64_9 + 1 := ⟨_, rfl⟩
                              refine lv_iinc (v := y_66) (lv' := [(9, .int y_66), (10, .int 1), (8, .int r_19), (7, .int v28_7), (6, .int v28_6), (4, .long x_7), (0, .ref a0_), (1, .ref a1_), (2, .int x2_), (3, .int x3_)]) hx hb dX10_askThrows_146 hl (k := 1) rfl (by rw [ey_66]; rfl) (by decide) rfl (fun ls hl => ?_)
                              have ty_66 := add_bd ey_66 b_33 kb_1 (by decide)
                              have b_67 : bd 1 500 y_66 := add_rg ty_66 b_33 kb_1 (by decide)
                              refine lv_goto (tgt := 64) hx hb dX10_askThrows_149 (by decide) ?_
                              have hl9 := lv_sub hl [0, 2, 3, 4, 5, 6, 7, 8, 9] (by rfl : lv_pick [(9, .int y_66), (10, .int 1), (8, .int r_19), (7, .int v28_7), (6, .int v28_6), (4, .long x_7), (0, .ref a0_), (1, .ref a1_), (2, .int x2_), (3, .int x3_)] [0, 2, 3, 4, 5, 6, 7, 8, 9] = [(9, .int y_66), (8, .int r_19), (7, .int v28_7), (6, .int v28_6), (4, .long x_7), (0, .ref a0_), (1, .ref a1_), (2, .int x2_), (3, .int x3_)])
                              have g9 := g.sub (fx' := [(6, 11, a_24, .int x_25), (7, 2, a_22, .ref a_23), (10, 0, a0_, .ref a_22), (4, 15, a1_, .int x_4), (10, 1, a0_, .ref q0_), (1, 0, q0_, .ref q1_), (1, 1, q0_, .ref q2_), (4, 0, a1_, .int x_56), (1, 12, q0_, .int 0), (1, 5, q0_, .int 1), (4, 2, a1_, .int x_52), (4, 1, a1_, .int x_54), (7, 1, q1_, .int y7_), (4, 6, a1_, .int y8_), (4, 14, a1_, .int y9_), (4, 4, a1_, .int y10_), (4, 3, a1_, .int y11_)]) [8, 9, 10, 11, 12, 13, 14, 2, 3, 4, 0, 1, 15, 16, 17, 18, 19] rfl
                              exact ih64  y_66 x_56 0 1 x_52 x_54 (bd_sub b_67 (by decide)) b_65 (bd_sub kb_0 (by decide)) (bd_sub kb_1 (by decide)) h_53 h_55 (by have h9_0 := b_65; unfold bd at h9_0; have h9_1 := b_67; unfold bd at h9_1; have h9_2 := bv64_9; unfold bd at h9_2; have h9_3 := bw64_1_12_q0_; unfold bd at h9_3; have h9_4 := bw64_1_5_q0_; unfold bd at h9_4; have h9_5 := bw64_4_0_a1_; unfold bd at h9_5; have h9_6 := bw64_4_1_a1_; unfold bd at h9_6; have h9_7 := bw64_4_2_a1_; unfold bd at h9_7; have h9_8 := h_53; unfold bd at h9_8; have h9_9 := h_55; unfold bd at h9_9; have h9_10 := kb_0; unfold bd at h9_10; have h9_11 := kb_1; unfold bd at h9_11; have h9_12 := kb_2; unfold bd at h9_12; have h9_13 := kb_4; unfold bd at h9_13; have h9_14 := kb_8; unfold bd at h9_14; have h9_15 := kb_m1; unfold bd at h9_15; omega) _ _ _ _ g9 hG_63 hl9
                            · have fc_64 := neq_f c_64
                              have b_68 : bd 1 7 x_56 := neX fc_64 h_57 kb_0 (by decide)
                              subst hQ
                              exact W.vret hx hb hr (fun t ht hW => ⟨⟨_, rfl, ⟨x_56, (bd_sub b_68 (by decide)), x_52, h_53, x_54, h_55, (g.fcts [2, 0, 1] rfl)⟩, q3_of g hK ht hW⟩, g.2.2.1.F ht⟩) g.2.2.1.2.2 dX10_askThrows_145
                          · have hG_69 := cOK.frame hMr_50 go_.2.2.2.1 mq1_ kq1_ (by decide) (by decide) hG64_c_q1_
                            obtain rfl : r_50 = 1 := h_59
                            have g := g.more hF_62
                            refine lv_if_ne (tgt := 145) hx hb dX10_askThrows_135 (by decide) (fun c_ => ?_) (fun c_ => absurd c_ (by decide))
                            subst hQ
                            exact W.vret hx hb hr (fun t ht hW => ⟨⟨_, rfl, ⟨w64_4_0_a1_, (bd_sub bw64_4_0_a1_ (by decide)), w64_4_2_a1_, bw64_4_2_a1_, w64_4_1_a1_, bw64_4_1_a1_, (g.fcts [3, 4, 5] rfl)⟩, q3_of g hK ht hW⟩, g.2.2.1.F ht⟩) g.2.2.1.2.2 dX10_askThrows_145
              have hl9 := lv_sub hl [0, 1, 2, 3, 4, 5, 6, 7, 8] (by rfl : lv_pick [(9, .int x_25), (8, .int r_19), (7, .int v28_7), (6, .int v28_6), (4, .long x_7), (0, .ref a0_), (1, .ref a1_), (2, .int x2_), (3, .int x3_)] [0, 1, 2, 3, 4, 5, 6, 7, 8] = [(9, .int x_25), (8, .int r_19), (7, .int v28_7), (6, .int v28_6), (4, .long x_7), (0, .ref a0_), (1, .ref a1_), (2, .int x2_), (3, .int x3_)])
              have g9 := g.sub (fx' := [(6, 11, a_24, .int x_25), (7, 2, a_22, .ref a_23), (10, 0, a0_, .ref a_22), (4, 15, a1_, .int x_4), (10, 1, a0_, .ref q0_), (1, 0, q0_, .ref q1_), (1, 1, q0_, .ref q2_), (4, 0, a1_, .int w28_4_0_a1_), (1, 12, q0_, .int w28_1_12_q0_), (1, 5, q0_, .int w28_1_5_q0_), (4, 2, a1_, .int w28_4_2_a1_), (4, 1, a1_, .int w28_4_1_a1_), (7, 1, q1_, .int y7_), (4, 6, a1_, .int y8_), (4, 14, a1_, .int y9_), (4, 4, a1_, .int y10_), (4, 3, a1_, .int y11_)]) [0, 1, 2, 3, 4, 5, 6, 7, 8, 9, 10, 11, 12, 13, 14, 15, 16] rfl
              exact loop_26 (1003) x_25 w28_4_0_a1_ w28_1_12_q0_ w28_1_5_q0_ w28_4_2_a1_ w28_4_1_a1_ bx_25 bw28_4_0_a1_ bw28_1_12_q0_ bw28_1_5_q0_ bw28_4_2_a1_ bw28_4_1_a1_ (by have h9_0 := bw28_1_12_q0_; unfold bd at h9_0; have h9_1 := bw28_1_5_q0_; unfold bd at h9_1; have h9_2 := bw28_4_0_a1_; unfold bd at h9_2; have h9_3 := bw28_4_1_a1_; unfold bd at h9_3; have h9_4 := bw28_4_2_a1_; unfold bd at h9_4; have h9_5 := bx_25; unfold bd at h9_5; have h9_6 := kb_0; unfold bd at h9_6; have h9_7 := kb_2; unfold bd at h9_7; have h9_8 := kb_8; unfold bd at h9_8; have h9_9 := kb_m1; unfold bd at h9_9; omega) _ _ _ _ g9 hG_21 hl9
      have hl9 := lv_sub hl [0, 1, 2, 3, 4, 5, 6] (by rfl : lv_pick [(7, .int 0), (6, .int x3_), (4, .long x_7), (0, .ref a0_), (1, .ref a1_), (2, .int x2_), (3, .int x3_)] [0, 1, 2, 3, 4, 5, 6] = [(7, .int 0), (6, .int x3_), (4, .long x_7), (0, .ref a0_), (1, .ref a1_), (2, .int x2_), (3, .int x3_)])
      have g9 := g.sub (fx' := [(4, 15, a1_, .int x_4), (10, 1, a0_, .ref q0_), (1, 0, q0_, .ref q1_), (1, 1, q0_, .ref q2_), (4, 0, a1_, .int y0_), (1, 12, q0_, .int y2_), (1, 5, q0_, .int y4_), (4, 2, a1_, .int y5_), (4, 1, a1_, .int y6_), (7, 1, q1_, .int y7_), (4, 6, a1_, .int y8_), (4, 14, a1_, .int y9_), (4, 4, a1_, .int y10_), (4, 3, a1_, .int y11_)]) [1, 2, 3, 4, 5, 7, 9, 10, 11, 12, 13, 14, 15, 16] rfl
      exact loop_8 (19) 0 x3_ y0_ y2_ y4_ y5_ y6_ (bd_sub kb_0 (by decide)) (bd_sub bx3_ (by decide)) b_3 (bd_sub by2_ (by decide)) (bd_sub by4_ (by decide)) by5_ by6_ (by have h9_0 := b_3; unfold bd at h9_0; have h9_1 := bx3_; unfold bd at h9_1; have h9_2 := by2_; unfold bd at h9_2; have h9_3 := by4_; unfold bd at h9_3; have h9_4 := by5_; unfold bd at h9_4; have h9_5 := by6_; unfold bd at h9_5; have h9_6 := kb_0; unfold bd at h9_6; have h9_7 := kb_2; unfold bd at h9_7; omega) _ _ _ _ g9 hGcq1_ hl9
    · have fc_5 := neq_f c_5
      subst hQ
      exact W.vret hx hb hr (fun t ht hW => ⟨⟨_, rfl, ⟨y0_, (bd_sub b_3 (by decide)), y5_, by5_, y6_, by6_, (g.fcts [4, 9, 10] rfl)⟩, q3_of g hK ht hW⟩, g.2.2.1.F ht⟩) g.2.2.1.2.2 dX10_askThrows_15
set_option maxHeartbeats 4000000 in
set_option maxRecDepth 100000 in
theorem r_X10_findChanges_2 (l : Launch) (dC : Nat → ClassId) (dI : Nat → Nat → Nat) (L : List Nat) (kd : Nat → Nat) (tys : List (ClassId × FieldType)) (f0 : Nat → va_E) (sz : Nat) (hWT : WT L kd tys f0) (a0_ : Nat) (ma0_ : a0_ ∈ L) (ka0_ : kd a0_ = 10) (a1_ : Nat) (ma1_ : a1_ ∈ L) (ka1_ : kd a1_ = 4) (x2_ : Int32) (bx2_ : bd 0 2 x2_) (x3_ : Int32) (bx3_ : bd 0 95 x3_) (y0_ : Int32) (by0_ : bd 0 8 y0_) (y1_ : Int32) (by1_ : bd (-1) 2147483647 y1_) (y2_ : Int32) (by2_ : bd (-1) 2147483647 y2_) (y3_ : Int32) (by3_ : bd 1 3 y3_) (y4_ : Int32) (by4_ : bd 0 9 y4_) (y5_ : Int32) (by5_ : bd (-1) 2147483647 y5_) (y6_ : Int32) (by6_ : bd (-1) 2147483647 y6_) (hfx : Fs L kd f0 [(4, 0, a1_, .int y0_), (4, 2, a1_, .int y1_), (4, 1, a1_, .int y2_), (4, 6, a1_, .int y3_), (4, 14, a1_, .int y4_), (4, 4, a1_, .int y5_), (4, 3, a1_, .int y6_)]) : Met l yX10_findChanges (.code yX10_findChanges cX10_findChanges 7 none :: lw_g) ({ frames := 3, cells := 0, slots := 0, locals := 60 }) (va_Pc [.ref a0_, .ref a1_, .int x2_, .int x3_] (P3 (dC, dI) L tys f0 sz)) (va_Qv (fun (f : Nat → va_E) => (∃ z0_ : Int32, bd 0 8 z0_ ∧ ∃ z1_ : Int32, bd (-1) 2147483647 z1_ ∧ ∃ z2_ : Int32, bd (-1) 2147483647 z2_ ∧ Fs L kd f [(4, 0, a1_, .int z0_), (4, 4, a1_, .int z1_), (4, 3, a1_, .int z2_)])) (Q3 (dC, dI) L kd tys [(4, 0), (4, 3), (4, 4)] [] f0 sz) (pA L sz)) 0 0 (pA L sz) := by
  refine Met.ofW (cc := cX10_findChanges) (maxL := 7) (ret := none) (by decide) rfl ?_
  intro p e s m args below meth c s₁ B hml hv
  obtain ⟨rfl, hsz, hP, hK, hD0⟩ := hv
  have hx := B.exec
  have hb := B.bytes
  have hr := B.returns
  have hts := atoms_spec (ws := (.code yX10_findChanges cX10_findChanges 7 none :: lw_g)) B.pre
  have hown : s.vm.findClass RX10 = some m.cls := findClass_of_methodNamed B.named
  have hlocks := B.notSynchronized
  subst hsz
  have g : G3 (dC, dI) L kd tys s f0 [(4, 0), (4, 3), (4, 4)] [] f0 s.heap [] [(4, 0, a1_, .int y0_), (4, 2, a1_, .int y1_), (4, 1, a1_, .int y2_), (4, 6, a1_, .int y3_), (4, 14, a1_, .int y4_), (4, 4, a1_, .int y5_), (4, 3, a1_, .int y6_)] := G3.start hP hD0 hWT hfx
  have hl := lv_entry ([.ref a0_, .ref a1_, .int x2_, .int x3_]) (n := 7) (Nat.le_of_ble_eq_true rfl)
  rw [lg_entry_eq]
  generalize (lg_sl ([.ref a0_, .ref a1_, .int x2_, .int x3_]) ++ List.replicate (7 - (lg_sl ([.ref a0_, .ref a1_, .int x2_, .int x3_])).length) Slot.unset).toArray = ls at hl ⊢
  have hl : lv_has ls 7 [(0, .ref a0_), (1, .ref a1_), (2, .int x2_), (3, .int x3_)] := hl
  refine W_q (fun Q hQ => ?_)
  refine lv_aload_n hx hb dX10_findChanges_0 rfl (lv_at hl 1 rfl) ?_
  refine g_getk (C := RX4) (T := TX4) (N := 17) hx hb hts (mc_ inX4) hown hK g rfl 0 (by decide) rfl (hts _ (List.mem_cons_of_mem _ t_837)) (fun _ h9 => h9) 0 rfl dX10_findChanges_1 ?_
  have kb_0 : bd 0 0 (0 : Int32) := ⟨by decide, by decide⟩
  refine lv_if_eq (tgt := 8) hx hb dX10_findChanges_4 (by decide) (fun c_1 => ?_) (fun c_1 => ?_)
  · have fc_1 := eq_f c_1
    have b_2 : bd 0 0 y0_ := eqX fc_1 by0_ kb_0 (by decide)
    refine lv_aload_n hx hb dX10_findChanges_8 rfl (lv_at hl 0 rfl) ?_
    refine g_getr (K := 7) (C := RX10) (T := TX10) (N := 10) hx hb hts (mc_ inX10) hown hK g ma0_ ka0_ (by decide) rfl 0 (by decide) rfl (hts _ (List.mem_cons_of_mem _ t_912)) (fun _ h9 => h9) rfl dX10_findChanges_9 (fun a_3 ma_3 ka_3 g => ?_)
    refine g_getr (K := 136) (C := RX7) (T := TX7) (N := 19) hx hb hts (mc_ inX7) hown hK g ma_3 ka_3 (by decide) rfl 0 (by decide) rfl (hts _ (List.mem_cons_of_mem _ t_624)) (fun _ h9 => h9) rfl dX10_findChanges_12 (fun a_4 ma_4 ka_4 g => ?_)
    refine lv_aload_n hx hb dX10_findChanges_15 rfl (lv_at hl 1 rfl) ?_
    refine g_getr (K := 126) (C := RX4) (T := TX4) (N := 17) hx hb hts (mc_ inX4) hown hK g ma1_ ka1_ (by decide) rfl 7 (by decide) rfl (hts _ (List.mem_cons_of_mem _ t_854)) (fun _ h9 => h9) rfl dX10_findChanges_16 (fun a_5 ma_5 ka_5 g => ?_)
    refine lv_iload_n hx hb dX10_findChanges_19 rfl (lv_at hl 2 rfl) ?_
    refine g_iald hx hb hK g ma_5 ka_5 (by decide) rfl (in_bd bx2_ (by decide)) dX10_findChanges_20 (fun x_6 bx_6 cx_6 => ?_)
    refine g_aald hx hb hK g ma_4 ka_4 (by decide) rfl (by decide) (in_bd bx_6 (by decide)) dX10_findChanges_21 (fun a_7 ma_7 ua_7 wa_7 => ?_)
    have ka_7 : kd a_7 = 9 := by omega
    refine lv_astore (lv' := [(4, .ref a_7), (0, .ref a0_), (1, .ref a1_), (2, .int x2_), (3, .int x3_)]) hx hb dX10_findChanges_22 hl (by decide) rfl (fun ls hl => ?_)
    refine lv_aload_n hx hb dX10_findChanges_24 rfl (lv_at hl 2 rfl) ?_
    refine g_getr (K := 128) (C := RX4) (T := TX4) (N := 17) hx hb hts (mc_ inX4) hown hK g ma1_ ka1_ (by decide) rfl 9 (by decide) rfl (hts _ (List.mem_cons_of_mem _ t_860)) (fun _ h9 => h9) rfl dX10_findChanges_25 (fun a_8 ma_8 ka_8 g => ?_)
    refine lv_iload_n hx hb dX10_findChanges_28 rfl (lv_at hl 3 rfl) ?_
    refine g_aald hx hb hK g ma_8 ka_8 (by decide) rfl (by decide) (in_bd bx2_ (by decide)) dX10_findChanges_29 (fun a_9 ma_9 ua_9 wa_9 => ?_)
    have ka_9 : kd a_9 = 101 := by omega
    refine lv_astore (lv' := [(5, .ref a_9), (4, .ref a_7), (0, .ref a0_), (1, .ref a1_), (2, .int x2_), (3, .int x3_)]) hx hb dX10_findChanges_30 hl (by decide) rfl (fun ls hl => ?_)
    refine lv_aload hx hb dX10_findChanges_32 (lv_at hl 1 rfl) ?_
    refine lv_aload_n hx hb dX10_findChanges_34 rfl (lv_at hl 3 rfl) ?_
    refine g_getr (K := 102) (C := RX4) (T := TX4) (N := 17) hx hb hts (mc_ inX4) hown hK g ma1_ ka1_ (by decide) rfl 11 (by decide) rfl (hts _ (List.mem_cons_of_mem _ t_866)) (fun _ h9 => h9) rfl dX10_findChanges_35 (fun a_10 ma_10 ka_10 g => ?_)
    refine lv_aload hx hb dX10_findChanges_38 (lv_at hl 0 rfl) ?_
    refine lv_iconst (v := 0) hx hb dX10_findChanges_40 (by decide) ?_
    refine g_calli (va_runV (As := [.ref a_10, .ref a_9, .int 0]) (rest := []) ⟨hx, hb, hml, hown, hts⟩ (r_X9_changedCell l dC dI L kd tys f0 s.heap.size g.2.2.2.1 a_7 ma_7 ka_7 a_10 ma_10 ka_10 a_9 ma_9 ka_9 0) (cwV 3 hts (gV_ t_1645 t_1646 t_1647 t_192 t_1648) rfl rfl rfl (by decide +kernel) ⟨(Nat.le_of_ble_eq_true rfl), (Nat.le_of_ble_eq_true rfl)⟩) (pre3V g hK ma_7 ka_7 (by decide) (q := (RX9, TX9, 13)) rfl) rfl rfl hl.1 rfl (lv_room (Nat.le_of_ble_eq_true rfl)) dX10_findChanges_41 ⟨(Nat.le_of_ble_eq_true rfl), (Nat.le_of_ble_eq_true rfl)⟩) g hK (by decide) (by decide) (fx' := [(4, 11, a1_, .ref a_10), (4, 9, a1_, .ref a_8), (4, 7, a1_, .ref a_5), (7, 0, a_3, .ref a_4), (10, 0, a0_, .ref a_3), (4, 0, a1_, .int y0_), (4, 2, a1_, .int y1_), (4, 1, a1_, .int y2_), (4, 6, a1_, .int y3_), (4, 14, a1_, .int y4_), (4, 4, a1_, .int y5_), (4, 3, a1_, .int y6_)]) rfl (fun r_11 fr_11 H locs hp hMr_11 g => ?_)
    obtain ⟨h_12, -⟩ := hp
    refine lv_istore (lv' := [(6, .int r_11), (5, .ref a_9), (4, .ref a_7), (0, .ref a0_), (1, .ref a1_), (2, .int x2_), (3, .int x3_)]) hx hb dX10_findChanges_44 hl (by decide) rfl (fun ls hl => ?_)
    refine lv_iload hx hb dX10_findChanges_46 (lv_at hl 0 rfl) ?_
    refine lv_iconst (v := (-1)) hx hb dX10_findChanges_48 (by decide) ?_
    have kb_m1 : bd (-1) (-1) ((-1) : Int32) := ⟨by decide, by decide⟩
    refine lv_icmp_ne (tgt := 53) hx hb dX10_findChanges_49 (by decide) (fun c_13 => ?_) (fun c_13 => ?_)
    · have fc_13 := neq_f c_13
      have b_14 : bd 0 23 r_11 := neX fc_13 h_12 kb_m1 (by decide)
      refine lv_aload_n hx hb dX10_findChanges_53 rfl (lv_at hl 3 rfl) ?_
      refine g_getk (C := RX10) (T := TX10) (N := 10) hx hb hts (mc_ inX10) hown hK g rfl 0 (by decide) rfl (hts _ (List.mem_cons_of_mem _ t_912)) (fun _ h9 => h9) 4 rfl dX10_findChanges_54 ?_
      refine g_getr (K := 137) (C := RX7) (T := TX7) (N := 19) hx hb hts (mc_ inX7) hown hK g ma_3 ka_3 (by decide) rfl 2 (by decide) rfl (hts _ (List.mem_cons_of_mem _ t_634)) (fun _ h9 => h9) rfl dX10_findChanges_57 (fun a_15 ma_15 ka_15 g => ?_)
      refine lv_iload_n hx hb dX10_findChanges_60 rfl (lv_at hl 6 rfl) ?_
      refine g_aald hx hb hK g ma_15 ka_15 (by decide) rfl (by decide) (in_bd bx3_ (by decide)) dX10_findChanges_61 (fun a_16 ma_16 ua_16 wa_16 => ?_)
      have ka_16 : kd a_16 = 6 := by omega
      refine g_geti (C := RX6) (T := TX6) (N := 13) hx hb hts (mc_ inX6) hown hK g ma_16 ka_16 (by decide) rfl 6 (by decide) rfl (hts _ (List.mem_cons_of_mem _ t_579)) (fun _ h9 => h9) rfl dX10_findChanges_62 (fun x_17 bx_17 g => ?_)
      refine lv_if_eq (tgt := 77) hx hb dX10_findChanges_65 (by decide) (fun c_18 => ?_) (fun c_18 => ?_)
      · have fc_18 := eq_f c_18
        have b_19 : bd 0 0 x_17 := eqX fc_18 bx_17 kb_0 (by decide)
        refine lv_aload hx hb dX10_findChanges_77 (lv_at hl 2 rfl) ?_
        refine lv_aload_n hx hb dX10_findChanges_79 rfl (lv_at hl 4 rfl) ?_
        refine g_getk (C := RX4) (T := TX4) (N := 17) hx hb hts (mc_ inX4) hown hK g rfl 11 (by decide) rfl (hts _ (List.mem_cons_of_mem _ t_866)) (fun _ h9 => h9) 2 rfl dX10_findChanges_80 ?_
        refine lv_aload hx hb dX10_findChanges_83 (lv_at hl 1 rfl) ?_
        refine lv_aload_n hx hb dX10_findChanges_85 rfl (lv_at hl 3 rfl) ?_
        refine lv_iload_n hx hb dX10_findChanges_86 rfl (lv_at hl 6 rfl) ?_
        refine g_calli (va_runV (As := [.int x3_]) (rest := [.ref a_9, .ref a_10, .ref a_7]) ⟨hx, hb, hml, hown, hts⟩ (r_X10_fieldsThatMayChange l dC dI L kd tys fr_11 H.size g.2.2.2.1 a0_ ma0_ ka0_ x3_ bx3_) (cwV 1 hts (gV_ t_1653 t_1655 t_76 t_194 t_1656) rfl rfl rfl (by decide +kernel) ⟨(Nat.le_of_ble_eq_true rfl), (Nat.le_of_ble_eq_true rfl)⟩) (pre3V g hK ma0_ ka0_ (by decide) (q := (RX10, TX10, 10)) rfl) rfl rfl hl.1 rfl (lv_room (Nat.le_of_ble_eq_true rfl)) dX10_findChanges_87 ⟨(Nat.le_of_ble_eq_true rfl), (Nat.le_of_ble_eq_true rfl)⟩) g hK (by decide) (by decide) (fx' := [(6, 6, a_16, .int x_17), (7, 2, a_3, .ref a_15), (4, 11, a1_, .ref a_10), (4, 9, a1_, .ref a_8), (4, 7, a1_, .ref a_5), (7, 0, a_3, .ref a_4), (10, 0, a0_, .ref a_3), (4, 0, a1_, .int y0_), (4, 2, a1_, .int y1_), (4, 1, a1_, .int y2_), (4, 6, a1_, .int y3_), (4, 14, a1_, .int y4_), (4, 4, a1_, .int y5_), (4, 3, a1_, .int y6_)]) rfl (fun r_20 fr_20 H locs hp hMr_20 g => ?_)
        refine g_calli (va_runV (As := [.ref a_10, .ref a_9, .int r_20]) (rest := []) ⟨hx, hb, hml, hown, hts⟩ (r_X9_changedCell l dC dI L kd tys fr_20 H.size g.2.2.2.1 a_7 ma_7 ka_7 a_10 ma_10 ka_10 a_9 ma_9 ka_9 r_20) (cwV 3 hts (gV_ t_1645 t_1646 t_1647 t_192 t_1648) rfl rfl rfl (by decide +kernel) ⟨(Nat.le_of_ble_eq_true rfl), (Nat.le_of_ble_eq_true rfl)⟩) (pre3V g hK ma_7 ka_7 (by decide) (q := (RX9, TX9, 13)) rfl) rfl rfl hl.1 rfl (lv_room (Nat.le_of_ble_eq_true rfl)) dX10_findChanges_90 ⟨(Nat.le_of_ble_eq_true rfl), (Nat.le_of_ble_eq_true rfl)⟩) g hK (by decide) (by decide) (fx' := [(6, 6, a_16, .int x_17), (7, 2, a_3, .ref a_15), (4, 11, a1_, .ref a_10), (4, 9, a1_, .ref a_8), (4, 7, a1_, .ref a_5), (7, 0, a_3, .ref a_4), (10, 0, a0_, .ref a_3), (4, 0, a1_, .int y0_), (4, 2, a1_, .int y1_), (4, 1, a1_, .int y2_), (4, 6, a1_, .int y3_), (4, 14, a1_, .int y4_), (4, 4, a1_, .int y5_), (4, 3, a1_, .int y6_)]) rfl (fun r_21 fr_21 H locs hp hMr_21 g => ?_)
        obtain ⟨h_22, -⟩ := hp
        refine lv_istore (lv' := [(6, .int r_21), (5, .ref a_9), (4, .ref a_7), (0, .ref a0_), (1, .ref a1_), (2, .int x2_), (3, .int x3_)]) hx hb dX10_findChanges_93 hl (by decide) rfl (fun ls hl => ?_)
        refine lv_iload hx hb dX10_findChanges_95 (lv_at hl 0 rfl) ?_
        refine lv_iconst (v := (-1)) hx hb dX10_findChanges_97 (by decide) ?_
        refine lv_icmp_eq (tgt := 109) hx hb dX10_findChanges_98 (by decide) (fun c_23 => ?_) (fun c_23 => ?_)
        · have fc_23 := eq_f c_23
          have b_24 : bd (-1) (-1) r_21 := eqX fc_23 h_22 kb_m1 (by decide)
          subst hQ
          exact W.vret hx hb hr (fun t ht hW => ⟨⟨_, rfl, ⟨y0_, (bd_sub b_2 (by decide)), y5_, by5_, y6_, by6_, (g.fcts [7, 12, 13] rfl)⟩, q3_of g hK ht hW⟩, g.2.2.1.F ht⟩) g.2.2.1.2.2 dX10_findChanges_109
        · have fc_23 := neq_f c_23
          have b_25 : bd 0 23 r_21 := neX fc_23 h_22 kb_m1 (by decide)
          refine lv_aload_n hx hb dX10_findChanges_101 rfl (lv_at hl 4 rfl) ?_
          refine lv_iconst (v := 4) hx hb dX10_findChanges_102 (by decide) ?_
          refine lv_iload_n hx hb dX10_findChanges_103 rfl (lv_at hl 5 rfl) ?_
          refine lv_iload hx hb dX10_findChanges_104 (lv_at hl 0 rfl) ?_
          refine g_callv (va_runV (As := [.int 4, .int x2_, .int r_21]) (rest := []) ⟨hx, hb, hml, hown, hts⟩ (r_X4_breakAt l dC dI L kd tys fr_21 H.size g.2.2.2.1 a1_ ma1_ ka1_ 4 x2_ r_21) (cwV 3 hts (gV_ t_1649 t_1650 t_1651 t_197 t_1652) rfl rfl rfl (by decide +kernel) ⟨(Nat.le_of_ble_eq_true rfl), (Nat.le_of_ble_eq_true rfl)⟩) (pre3V g hK ma1_ ka1_ (by decide) (q := (RX4, TX4, 17)) rfl) rfl rfl hl.1 rfl (lv_room (Nat.le_of_ble_eq_true rfl)) dX10_findChanges_106 ⟨(Nat.le_of_ble_eq_true rfl), (Nat.le_of_ble_eq_true rfl)⟩) g hK (by decide) (by decide) (fx' := [(6, 6, a_16, .int x_17), (7, 2, a_3, .ref a_15), (4, 11, a1_, .ref a_10), (4, 9, a1_, .ref a_8), (4, 7, a1_, .ref a_5), (7, 0, a_3, .ref a_4), (10, 0, a0_, .ref a_3), (4, 2, a1_, .int y1_), (4, 1, a1_, .int y2_), (4, 6, a1_, .int y3_), (4, 14, a1_, .int y4_)]) rfl (fun fr_26 H locs hp hMr_26 g => ?_)
          have hF_27 := hp
          have g := g.more hF_27
          have kb_4 : bd 4 4 (4 : Int32) := ⟨by decide, by decide⟩
          subst hQ
          exact W.vret hx hb hr (fun t ht hW => ⟨⟨_, rfl, ⟨4, (bd_sub kb_4 (by decide)), r_21, (bd_sub b_25 (by decide)), x2_, (bd_sub bx2_ (by decide)), (g.fcts [2, 0, 1] rfl)⟩, q3_of g hK ht hW⟩, g.2.2.1.F ht⟩) g.2.2.1.2.2 dX10_findChanges_109
      · have fc_18 := neq_f c_18
        have b_28 : bd 1 1 x_17 := neX fc_18 bx_17 kb_0 (by decide)
        refine lv_aload_n hx hb dX10_findChanges_68 rfl (lv_at hl 4 rfl) ?_
        refine lv_iconst (v := 5) hx hb dX10_findChanges_69 (by decide) ?_
        refine lv_iload_n hx hb dX10_findChanges_70 rfl (lv_at hl 5 rfl) ?_
        refine lv_iload hx hb dX10_findChanges_71 (lv_at hl 0 rfl) ?_
        refine g_callv (va_runV (As := [.int 5, .int x2_, .int r_11]) (rest := []) ⟨hx, hb, hml, hown, hts⟩ (r_X4_breakAt l dC dI L kd tys fr_11 H.size g.2.2.2.1 a1_ ma1_ ka1_ 5 x2_ r_11) (cwV 3 hts (gV_ t_1649 t_1650 t_1651 t_197 t_1652) rfl rfl rfl (by decide +kernel) ⟨(Nat.le_of_ble_eq_true rfl), (Nat.le_of_ble_eq_true rfl)⟩) (pre3V g hK ma1_ ka1_ (by decide) (q := (RX4, TX4, 17)) rfl) rfl rfl hl.1 rfl (lv_room (Nat.le_of_ble_eq_true rfl)) dX10_findChanges_73 ⟨(Nat.le_of_ble_eq_true rfl), (Nat.le_of_ble_eq_true rfl)⟩) g hK (by decide) (by decide) (fx' := [(6, 6, a_16, .int x_17), (7, 2, a_3, .ref a_15), (4, 11, a1_, .ref a_10), (4, 9, a1_, .ref a_8), (4, 7, a1_, .ref a_5), (7, 0, a_3, .ref a_4), (10, 0, a0_, .ref a_3), (4, 2, a1_, .int y1_), (4, 1, a1_, .int y2_), (4, 6, a1_, .int y3_), (4, 14, a1_, .int y4_)]) rfl (fun fr_29 H locs hp hMr_29 g => ?_)
        have hF_30 := hp
        have g := g.more hF_30
        have kb_5 : bd 5 5 (5 : Int32) := ⟨by decide, by decide⟩
        subst hQ
        exact W.vret hx hb hr (fun t ht hW => ⟨⟨_, rfl, ⟨5, (bd_sub kb_5 (by decide)), r_11, (bd_sub b_14 (by decide)), x2_, (bd_sub bx2_ (by decide)), (g.fcts [2, 0, 1] rfl)⟩, q3_of g hK ht hW⟩, g.2.2.1.F ht⟩) g.2.2.1.2.2 dX10_findChanges_76
    · have fc_13 := eq_f c_13
      have b_31 : bd (-1) (-1) r_11 := eqX fc_13 h_12 kb_m1 (by decide)
      subst hQ
      exact W.vret hx hb hr (fun t ht hW => ⟨⟨_, rfl, ⟨y0_, (bd_sub b_2 (by decide)), y5_, by5_, y6_, by6_, (g.fcts [5, 10, 11] rfl)⟩, q3_of g hK ht hW⟩, g.2.2.1.F ht⟩) g.2.2.1.2.2 dX10_findChanges_52
  · have fc_1 := neq_f c_1
    have b_32 : bd 1 8 y0_ := neX fc_1 by0_ kb_0 (by decide)
    subst hQ
    exact W.vret hx hb hr (fun t ht hW => ⟨⟨_, rfl, ⟨y0_, (bd_sub b_32 (by decide)), y5_, by5_, y6_, by6_, (g.fcts [0, 5, 6] rfl)⟩, q3_of g hK ht hW⟩, g.2.2.1.F ht⟩) g.2.2.1.2.2 dX10_findChanges_7
set_option maxHeartbeats 4000000 in
set_option maxRecDepth 100000 in
theorem r_X10_holds_17 (l : Launch) (dC : Nat → ClassId) (dI : Nat → Nat → Nat) (L : List Nat) (kd : Nat → Nat) (tys : List (ClassId × FieldType)) (f0 : Nat → va_E) (sz : Nat) (hWT : WT L kd tys f0) (a0_ : Nat) (ma0_ : a0_ ∈ L) (ka0_ : kd a0_ = 10) (a1_ : Nat) (ma1_ : a1_ ∈ L) (ka1_ : kd a1_ = 4) (x2_ : Int32) (bx2_ : bd 0 499 x2_) (x3_ : Int32) (bx3_ : bd 0 2 x3_) (q0_ : Nat) (mq0_ : q0_ ∈ L) (kq0_ : kd q0_ = 1) (q1_ : Nat) (mq1_ : q1_ ∈ L) (kq1_ : kd q1_ = 7) (q2_ : Nat) (mq2_ : q2_ ∈ L) (kq2_ : kd q2_ = 9) (y0_ : Int32) (by0_ : bd 1 1 y0_) (y1_ : Int32) (by1_ : bd 0 0 y1_) (y2_ : Int32) (by2_ : bd (-1) 2147483647 y2_) (y3_ : Int32) (by3_ : bd (-1) 2147483647 y3_) (y4_ : Int32) (by4_ : bd (-1) 2147483647 y4_) (y5_ : Int32) (by5_ : bd (-1) 2147483647 y5_) (y6_ : Int32) (by6_ : bd 1 8 y6_) (y7_ : Int32) (by7_ : bd 1 3 y7_) (y8_ : Int32) (by8_ : bd 0 9 y8_) (hGcq1_ : cOK f0 q1_) (hfx : Fs L kd f0 [(10, 1, a0_, .ref q0_), (1, 0, q0_, .ref q1_), (1, 1, q0_, .ref q2_), (4, 15, a1_, .int y0_), (4, 0, a1_, .int y1_), (4, 4, a1_, .int y2_), (4, 3, a1_, .int y3_), (4, 2, a1_, .int y4_), (4, 1, a1_, .int y5_), (7, 1, q1_, .int y6_), (4, 6, a1_, .int y7_), (4, 14, a1_, .int y8_)]) : Met l yX10_holds (.code yX10_holds cX10_holds 4 (some .boolean) :: lw_g) ({ frames := 2, cells := 0, slots := 0, locals := 50 }) (va_Pc [.ref a0_, .ref a1_, .int x2_, .int x3_] (P3 (dC, dI) L tys f0 sz)) (va_Qi (fun (r : Int32) (f : Nat → va_E) => (r = 0 ∧ ∃ z0_ : Int32, bd (-1) 2147483647 z0_ ∧ ∃ z1_ : Int32, bd (-1) 2147483647 z1_ ∧ ∃ z2_ : Int32, bd 0 7 z2_ ∧ Fs L kd f [(4, 2, a1_, .int z0_), (4, 1, a1_, .int z1_), (4, 0, a1_, .int z2_), (1, 12, q0_, .int 0), (1, 5, q0_, .int 1)]) ∨ (r = 1 ∧ ∃ z0_ : Int32, bd 1 1 z0_ ∧ Fs L kd f [(1, 15, q0_, .int z0_), (1, 12, q0_, .int 0), (1, 5, q0_, .int 1), (4, 0, a1_, .int y1_), (4, 2, a1_, .int y4_), (4, 1, a1_, .int y5_)])) (Q3 (dC, dI) L kd tys [(1, 5), (1, 6), (1, 8), (1, 11), (1, 12), (1, 13), (1, 14), (1, 15), (1, 16), (1, 17), (4, 0), (4, 1), (4, 2), (4, 5)] [100, 116, 117, 146] f0 sz) (pA L sz)) 0 0 (pA L sz) := by
  refine Met.ofW (cc := cX10_holds) (maxL := 4) (ret := (some .boolean)) (by decide) rfl ?_
  intro p e s m args below meth c s₁ B hml hv
  obtain ⟨rfl, hsz, hP, hK, hD0⟩ := hv
  have hx := B.exec
  have hb := B.bytes
  have hr := B.returns
  have hts := atoms_spec (ws := (.code yX10_holds cX10_holds 4 (some .boolean) :: lw_g)) B.pre
  have hown : s.vm.findClass RX10 = some m.cls := findClass_of_methodNamed B.named
  have hlocks := B.notSynchronized
  subst hsz
  have g : G3 (dC, dI) L kd tys s f0 [(1, 5), (1, 6), (1, 8), (1, 11), (1, 12), (1, 13), (1, 14), (1, 15), (1, 16), (1, 17), (4, 0), (4, 1), (4, 2), (4, 5)] [100, 116, 117, 146] f0 s.heap [] [(10, 1, a0_, .ref q0_), (1, 0, q0_, .ref q1_), (1, 1, q0_, .ref q2_), (4, 15, a1_, .int y0_), (4, 0, a1_, .int y1_), (4, 4, a1_, .int y2_), (4, 3, a1_, .int y3_), (4, 2, a1_, .int y4_), (4, 1, a1_, .int y5_), (7, 1, q1_, .int y6_), (4, 6, a1_, .int y7_), (4, 14, a1_, .int y8_)] := G3.start hP hD0 hWT hfx
  have hl := lv_entry ([.ref a0_, .ref a1_, .int x2_, .int x3_]) (n := 4) (Nat.le_of_ble_eq_true rfl)
  rw [lg_entry_eq]
  generalize (lg_sl ([.ref a0_, .ref a1_, .int x2_, .int x3_]) ++ List.replicate (4 - (lg_sl ([.ref a0_, .ref a1_, .int x2_, .int x3_])).length) Slot.unset).toArray = ls at hl ⊢
  have hl : lv_has ls 4 [(0, .ref a0_), (1, .ref a1_), (2, .int x2_), (3, .int x3_)] := hl
  refine W_q (fun Q hQ => ?_)
  refine lv_aload_n hx hb dX10_holds_0 rfl (lv_at hl 0 rfl) ?_
  refine g_getk (C := RX10) (T := TX10) (N := 10) hx hb hts (mc_ inX10) hown hK g rfl 1 (by decide) rfl (hts _ (List.mem_cons_of_mem _ t_913)) (fun _ h9 => h9) 0 rfl dX10_holds_1 ?_
  refine lv_aload_n hx hb dX10_holds_4 rfl (lv_at hl 0 rfl) ?_
  refine g_getr (K := 7) (C := RX10) (T := TX10) (N := 10) hx hb hts (mc_ inX10) hown hK g ma0_ ka0_ (by decide) rfl 0 (by decide) rfl (hts _ (List.mem_cons_of_mem _ t_912)) (fun _ h9 => h9) rfl dX10_holds_5 (fun a_1 ma_1 ka_1 g => ?_)
  refine g_getr (K := 141) (C := RX7) (T := TX7) (N := 19) hx hb hts (mc_ inX7) hown hK g ma_1 ka_1 (by decide) rfl 8 (by decide) rfl (hts _ (List.mem_cons_of_mem _ t_652)) (fun _ h9 => h9) rfl dX10_holds_8 (fun a_2 ma_2 ka_2 g => ?_)
  refine lv_iload_n hx hb dX10_holds_11 rfl (lv_at hl 2 rfl) ?_
  refine g_iald hx hb hK g ma_2 ka_2 (by decide) rfl (in_bd bx2_ (by decide)) dX10_holds_12 (fun x_3 bx_3 cx_3 => ?_)
  refine lv_aload_n hx hb dX10_holds_13 rfl (lv_at hl 1 rfl) ?_
  refine g_geti (C := RX4) (T := TX4) (N := 17) hx hb hts (mc_ inX4) hown hK g ma1_ ka1_ (by decide) rfl 16 (by decide) rfl (hts _ (List.mem_cons_of_mem _ t_876)) (fun _ h9 => h9) rfl dX10_holds_14 (fun x_4 bx_4 g => ?_)
  have go_ := g
  refine g_callv (va_runV (As := [.int x_3, .int x_4]) (rest := []) ⟨hx, hb, hml, hown, hts⟩ (r_X1_readyToAsk l dC dI L kd tys f0 s.heap.size g.2.2.2.1 q0_ mq0_ kq0_ x_3 x_4) (cwV 2 hts (gV_ t_1551 t_1552 t_1553 t_195 t_1554) rfl rfl rfl (by decide +kernel) ⟨(Nat.le_of_ble_eq_true rfl), (Nat.le_of_ble_eq_true rfl)⟩) (pre3V g hK mq0_ kq0_ (by decide) (q := (RX1, TX1, 18)) rfl) rfl rfl hl.1 rfl (lv_room (Nat.le_of_ble_eq_true rfl)) dX10_holds_17 ⟨(Nat.le_of_ble_eq_true rfl), (Nat.le_of_ble_eq_true rfl)⟩) g hK (by decide) (by decide) (fx' := [(4, 16, a1_, .int x_4), (7, 8, a_1, .ref a_2), (10, 0, a0_, .ref a_1), (10, 1, a0_, .ref q0_), (1, 0, q0_, .ref q1_), (1, 1, q0_, .ref q2_), (4, 15, a1_, .int y0_), (4, 0, a1_, .int y1_), (4, 4, a1_, .int y2_), (4, 3, a1_, .int y3_), (4, 2, a1_, .int y4_), (4, 1, a1_, .int y5_), (7, 1, q1_, .int y6_), (4, 6, a1_, .int y7_), (4, 14, a1_, .int y8_)]) rfl (fun fr_5 H locs hp hMr_5 g => ?_)
  have hF_6 := hp
  have hG_7 := cOK.frame hMr_5 go_.2.2.2.1 mq1_ kq1_ (by decide) (by decide) hGcq1_
  have g := g.more hF_6
  refine lv_aload_n hx hb dX10_holds_20 rfl (lv_at hl 0 rfl) ?_
  refine g_getk (C := RX10) (T := TX10) (N := 10) hx hb hts (mc_ inX10) hown hK g rfl 1 (by decide) rfl (hts _ (List.mem_cons_of_mem _ t_913)) (fun _ h9 => h9) 7 rfl dX10_holds_21 ?_
  have kb_0 : bd 0 0 (0 : Int32) := ⟨by decide, by decide⟩
  have kb_1 : bd 1 1 (1 : Int32) := ⟨by decide, by decide⟩
  have go_ := g
  refine g_callv (va_runV (As := []) (rest := []) ⟨hx, hb, hml, hown, hts⟩ (r_X1_go_2 l dC dI L kd tys fr_5 H.size g.2.2.2.1 q0_ mq0_ kq0_ q1_ mq1_ kq1_ q2_ mq2_ kq2_ 0 kb_0 1 kb_1 y6_ by6_ hG_7 (g.fcts [8, 9, 1, 3, 16] rfl)) (cwV 0 hts (gV_ t_1555 t_1556 t_1557 t_195 t_1558) rfl rfl rfl (by decide +kernel) ⟨(Nat.le_of_ble_eq_true rfl), (Nat.le_of_ble_eq_true rfl)⟩) (pre3V g hK mq0_ kq0_ (by decide) (q := (RX1, TX1, 18)) rfl) rfl rfl hl.1 rfl (lv_room (Nat.le_of_ble_eq_true rfl)) dX10_holds_24 ⟨(Nat.le_of_ble_eq_true rfl), (Nat.le_of_ble_eq_true rfl)⟩) g hK (by decide) (by decide) (fx' := [(1, 12, q0_, .int 0), (1, 6, q0_, .int x_4), (1, 5, q0_, .int 1), (4, 16, a1_, .int x_4), (7, 8, a_1, .ref a_2), (10, 0, a0_, .ref a_1), (10, 1, a0_, .ref q0_), (1, 0, q0_, .ref q1_), (1, 1, q0_, .ref q2_), (4, 15, a1_, .int y0_), (4, 0, a1_, .int y1_), (4, 4, a1_, .int y2_), (4, 3, a1_, .int y3_), (4, 2, a1_, .int y4_), (4, 1, a1_, .int y5_), (7, 1, q1_, .int y6_), (4, 6, a1_, .int y7_), (4, 14, a1_, .int y8_)]) rfl (fun fr_8 H locs hp hMr_8 g => ?_)
  have hG_9 := cOK.frame hMr_8 go_.2.2.2.1 mq1_ kq1_ (by decide) (by decide) hG_7
  refine lv_aload_n hx hb dX10_holds_27 rfl (lv_at hl 0 rfl) ?_
  refine g_getk (C := RX10) (T := TX10) (N := 10) hx hb hts (mc_ inX10) hown hK g rfl 1 (by decide) rfl (hts _ (List.mem_cons_of_mem _ t_913)) (fun _ h9 => h9) 6 rfl dX10_holds_28 ?_
  refine g_geti (C := RX1) (T := TX1) (N := 18) hx hb hts (mc_ inX1) hown hK g mq0_ kq0_ (by decide) rfl 15 (by decide) rfl (hts _ (List.mem_cons_of_mem _ t_751)) (fun _ h9 => h9) rfl dX10_holds_31 (fun x_10 bx_10 g => ?_)
  refine lv_iconst (v := 1) hx hb dX10_holds_34 (by decide) ?_
  refine lv_icmp_ne (tgt := 54) hx hb dX10_holds_35 (by decide) (fun c_11 => ?_) (fun c_11 => ?_)
  · have fc_11 := neq_f c_11
    refine lv_aload_n hx hb dX10_holds_54 rfl (lv_at hl 0 rfl) ?_
    refine g_getk (C := RX10) (T := TX10) (N := 10) hx hb hts (mc_ inX10) hown hK g rfl 1 (by decide) rfl (hts _ (List.mem_cons_of_mem _ t_913)) (fun _ h9 => h9) 7 rfl dX10_holds_55 ?_
    refine g_getk (C := RX1) (T := TX1) (N := 18) hx hb hts (mc_ inX1) hown hK g rfl 15 (by decide) rfl (hts _ (List.mem_cons_of_mem _ t_751)) (fun _ h9 => h9) 0 rfl dX10_holds_58 ?_
    refine lv_iconst (v := 2) hx hb dX10_holds_61 (by decide) ?_
    have kb_2 : bd 2 2 (2 : Int32) := ⟨by decide, by decide⟩
    refine lv_icmp_ne (tgt := 76) hx hb dX10_holds_62 (by decide) (fun c_12 => ?_) (fun c_12 => ?_)
    · have fc_12 := neq_f c_12
      refine lv_aload_n hx hb dX10_holds_76 rfl (lv_at hl 1 rfl) ?_
      refine lv_aload_n hx hb dX10_holds_77 rfl (lv_at hl 0 rfl) ?_
      refine g_getk (C := RX10) (T := TX10) (N := 10) hx hb hts (mc_ inX10) hown hK g rfl 1 (by decide) rfl (hts _ (List.mem_cons_of_mem _ t_913)) (fun _ h9 => h9) 7 rfl dX10_holds_78 ?_
      refine g_getk (C := RX1) (T := TX1) (N := 18) hx hb hts (mc_ inX1) hown hK g rfl 15 (by decide) rfl (hts _ (List.mem_cons_of_mem _ t_751)) (fun _ h9 => h9) 0 rfl dX10_holds_81 ?_
      refine lv_iconst (v := 4) hx hb dX10_holds_84 (by decide) ?_
      have kb_4 : bd 4 4 (4 : Int32) := ⟨by decide, by decide⟩
      refine lv_icmp_ne (tgt := 92) hx hb dX10_holds_85 (by decide) (fun c_13 => ?_) (fun c_13 => ?_)
      · have fc_13 := neq_f c_13
        refine lv_bipush (v := 7) hx hb dX10_holds_92 (by decide) ?_
        refine lv_iload_n hx hb dX10_holds_94 rfl (lv_at hl 2 rfl) ?_
        refine lv_iload_n hx hb dX10_holds_95 rfl (lv_at hl 3 rfl) ?_
        have go_ := g
        refine g_callv (va_runV (As := [.int 7, .int x2_, .int x3_]) (rest := []) ⟨hx, hb, hml, hown, hts⟩ (r_X4_breakBy l dC dI L kd tys fr_8 H.size g.2.2.2.1 a1_ ma1_ ka1_ 7 x2_ x3_) (cwV 3 hts (gV_ t_1606 t_1607 t_1608 t_197 t_1609) rfl rfl rfl (by decide +kernel) ⟨(Nat.le_of_ble_eq_true rfl), (Nat.le_of_ble_eq_true rfl)⟩) (pre3V g hK ma1_ ka1_ (by decide) (q := (RX4, TX4, 17)) rfl) rfl rfl hl.1 rfl (lv_room (Nat.le_of_ble_eq_true rfl)) dX10_holds_96 ⟨(Nat.le_of_ble_eq_true rfl), (Nat.le_of_ble_eq_true rfl)⟩) g hK (by decide) (by decide) (fx' := [(1, 15, q0_, .int x_10), (1, 12, q0_, .int 0), (1, 6, q0_, .int x_4), (1, 5, q0_, .int 1), (4, 16, a1_, .int x_4), (7, 8, a_1, .ref a_2), (10, 0, a0_, .ref a_1), (10, 1, a0_, .ref q0_), (1, 0, q0_, .ref q1_), (1, 1, q0_, .ref q2_), (4, 15, a1_, .int y0_), (4, 4, a1_, .int y2_), (4, 3, a1_, .int y3_), (7, 1, q1_, .int y6_), (4, 6, a1_, .int y7_), (4, 14, a1_, .int y8_)]) rfl (fun fr_14 H locs hp hMr_14 g => ?_)
        have hF_15 := hp
        have hG_16 := cOK.frame hMr_14 go_.2.2.2.1 mq1_ kq1_ (by decide) (by decide) hG_9
        have g := g.more hF_15
        refine lv_iconst (v := 0) hx hb dX10_holds_99 (by decide) ?_
        have kb_7 : bd 7 7 (7 : Int32) := ⟨by decide, by decide⟩
        subst hQ
        exact W.zret (v := 0) hx hb hr (nar_z (bd_sub kb_0 (by decide) : bd 0 1 _).1 (bd_sub kb_0 (by decide) : bd 0 1 _).2) (fun t ht hW => ⟨⟨_, _, rfl, Or.inl ⟨rfl, x3_, (bd_sub bx3_ (by decide)), x2_, (bd_sub bx2_ (by decide)), 7, (bd_sub kb_7 (by decide)), (g.fcts [0, 1, 2, 4, 6] rfl)⟩, q3_of g hK ht hW⟩, g.2.2.1.F ht⟩) g.2.2.1.2.2 dX10_holds_100
      · have fc_13 := eq_f c_13
        have b_17 : bd 4 4 x_10 := eqX fc_13 (bdT x_10) kb_4 (by decide)
        refine lv_iconst (v := 5) hx hb dX10_holds_88 (by decide) ?_
        refine lv_goto (tgt := 94) hx hb dX10_holds_89 (by decide) ?_
        refine lv_iload_n hx hb dX10_holds_94 rfl (lv_at hl 2 rfl) ?_
        refine lv_iload_n hx hb dX10_holds_95 rfl (lv_at hl 3 rfl) ?_
        have go_ := g
        refine g_callv (va_runV (As := [.int 5, .int x2_, .int x3_]) (rest := []) ⟨hx, hb, hml, hown, hts⟩ (r_X4_breakBy l dC dI L kd tys fr_8 H.size g.2.2.2.1 a1_ ma1_ ka1_ 5 x2_ x3_) (cwV 3 hts (gV_ t_1606 t_1607 t_1608 t_197 t_1609) rfl rfl rfl (by decide +kernel) ⟨(Nat.le_of_ble_eq_true rfl), (Nat.le_of_ble_eq_true rfl)⟩) (pre3V g hK ma1_ ka1_ (by decide) (q := (RX4, TX4, 17)) rfl) rfl rfl hl.1 rfl (lv_room (Nat.le_of_ble_eq_true rfl)) dX10_holds_96 ⟨(Nat.le_of_ble_eq_true rfl), (Nat.le_of_ble_eq_true rfl)⟩) g hK (by decide) (by decide) (fx' := [(1, 15, q0_, .int x_10), (1, 12, q0_, .int 0), (1, 6, q0_, .int x_4), (1, 5, q0_, .int 1), (4, 16, a1_, .int x_4), (7, 8, a_1, .ref a_2), (10, 0, a0_, .ref a_1), (10, 1, a0_, .ref q0_), (1, 0, q0_, .ref q1_), (1, 1, q0_, .ref q2_), (4, 15, a1_, .int y0_), (4, 4, a1_, .int y2_), (4, 3, a1_, .int y3_), (7, 1, q1_, .int y6_), (4, 6, a1_, .int y7_), (4, 14, a1_, .int y8_)]) rfl (fun fr_18 H locs hp hMr_18 g => ?_)
        have hF_19 := hp
        have hG_20 := cOK.frame hMr_18 go_.2.2.2.1 mq1_ kq1_ (by decide) (by decide) hG_9
        have g := g.more hF_19
        refine lv_iconst (v := 0) hx hb dX10_holds_99 (by decide) ?_
        have kb_5 : bd 5 5 (5 : Int32) := ⟨by decide, by decide⟩
        subst hQ
        exact W.zret (v := 0) hx hb hr (nar_z (bd_sub kb_0 (by decide) : bd 0 1 _).1 (bd_sub kb_0 (by decide) : bd 0 1 _).2) (fun t ht hW => ⟨⟨_, _, rfl, Or.inl ⟨rfl, x3_, (bd_sub bx3_ (by decide)), x2_, (bd_sub bx2_ (by decide)), 5, (bd_sub kb_5 (by decide)), (g.fcts [0, 1, 2, 4, 6] rfl)⟩, q3_of g hK ht hW⟩, g.2.2.1.F ht⟩) g.2.2.1.2.2 dX10_holds_100
    · have fc_12 := eq_f c_12
      have b_21 : bd 2 2 x_10 := eqX fc_12 (bdT x_10) kb_2 (by decide)
      refine lv_aload_n hx hb dX10_holds_65 rfl (lv_at hl 1 rfl) ?_
      refine lv_aload_n hx hb dX10_holds_66 rfl (lv_at hl 0 rfl) ?_
      refine g_getk (C := RX10) (T := TX10) (N := 10) hx hb hts (mc_ inX10) hown hK g rfl 1 (by decide) rfl (hts _ (List.mem_cons_of_mem _ t_913)) (fun _ h9 => h9) 7 rfl dX10_holds_67 ?_
      refine g_getl (C := RX1) (T := TX1) (N := 18) hx hb hts (mc_ inX1) hown hK g mq0_ kq0_ (by decide) rfl 17 (by decide) rfl (hts _ (List.mem_cons_of_mem _ t_755)) (fun _ h9 => h9) rfl dX10_holds_70 (fun x_22 g => ?_)
      have go_ := g
      refine g_put (C := RX4) (T := TX4) (N := 17) hx hb hts (mc_ inX4) tyX4 tyX4_ok nmX4 hown hK g ma1_ ka1_ (by decide) rfl 5 (by decide) (hts _ (List.mem_cons_of_mem _ t_848)) (fun _ h9 => h9) rfl rfl okV_l rfl rfl (by decide) (Or.inr (Or.inl (by decide))) (fx' := [(1, 17, q0_, .long x_22), (1, 15, q0_, .int x_10), (1, 12, q0_, .int 0), (1, 6, q0_, .int x_4), (1, 5, q0_, .int 1), (4, 16, a1_, .int x_4), (7, 8, a_1, .ref a_2), (10, 0, a0_, .ref a_1), (10, 1, a0_, .ref q0_), (1, 0, q0_, .ref q1_), (1, 1, q0_, .ref q2_), (4, 15, a1_, .int y0_), (4, 0, a1_, .int y1_), (4, 4, a1_, .int y2_), (4, 3, a1_, .int y3_), (4, 2, a1_, .int y4_), (4, 1, a1_, .int y5_), (7, 1, q1_, .int y6_), (4, 6, a1_, .int y7_), (4, 14, a1_, .int y8_)]) rfl dX10_holds_73 (fun f H locs hM_23 g => ?_)
      have hG_24 := cOK.frame hM_23 go_.2.2.2.1 mq1_ kq1_ (by decide) (by decide) hG_9
      refine lv_aload_n hx hb dX10_holds_76 rfl (lv_at hl 1 rfl) ?_
      refine lv_aload_n hx hb dX10_holds_77 rfl (lv_at hl 0 rfl) ?_
      refine g_getk (C := RX10) (T := TX10) (N := 10) hx hb hts (mc_ inX10) hown hK g rfl 1 (by decide) rfl (hts _ (List.mem_cons_of_mem _ t_913)) (fun _ h9 => h9) 9 rfl dX10_holds_78 ?_
      refine g_getk (C := RX1) (T := TX1) (N := 18) hx hb hts (mc_ inX1) hown hK g rfl 15 (by decide) rfl (hts _ (List.mem_cons_of_mem _ t_751)) (fun _ h9 => h9) 2 rfl dX10_holds_81 ?_
      refine lv_iconst (v := 4) hx hb dX10_holds_84 (by decide) ?_
      have kb_4 : bd 4 4 (4 : Int32) := ⟨by decide, by decide⟩
      refine lv_icmp_ne (tgt := 92) hx hb dX10_holds_85 (by decide) (fun c_25 => ?_) (fun c_25 => ?_)
      · have fc_25 := neq_f c_25
        refine lv_bipush (v := 7) hx hb dX10_holds_92 (by decide) ?_
        refine lv_iload_n hx hb dX10_holds_94 rfl (lv_at hl 2 rfl) ?_
        refine lv_iload_n hx hb dX10_holds_95 rfl (lv_at hl 3 rfl) ?_
        have go_ := g
        refine g_callv (va_runV (As := [.int 7, .int x2_, .int x3_]) (rest := []) ⟨hx, hb, hml, hown, hts⟩ (r_X4_breakBy l dC dI L kd tys f H.size g.2.2.2.1 a1_ ma1_ ka1_ 7 x2_ x3_) (cwV 3 hts (gV_ t_1606 t_1607 t_1608 t_197 t_1609) rfl rfl rfl (by decide +kernel) ⟨(Nat.le_of_ble_eq_true rfl), (Nat.le_of_ble_eq_true rfl)⟩) (pre3V g hK ma1_ ka1_ (by decide) (q := (RX4, TX4, 17)) rfl) rfl rfl hl.1 rfl (lv_room (Nat.le_of_ble_eq_true rfl)) dX10_holds_96 ⟨(Nat.le_of_ble_eq_true rfl), (Nat.le_of_ble_eq_true rfl)⟩) g hK (by decide) (by decide) (fx' := [(4, 5, a1_, .long x_22), (1, 17, q0_, .long x_22), (1, 15, q0_, .int x_10), (1, 12, q0_, .int 0), (1, 6, q0_, .int x_4), (1, 5, q0_, .int 1), (4, 16, a1_, .int x_4), (7, 8, a_1, .ref a_2), (10, 0, a0_, .ref a_1), (10, 1, a0_, .ref q0_), (1, 0, q0_, .ref q1_), (1, 1, q0_, .ref q2_), (4, 15, a1_, .int y0_), (4, 4, a1_, .int y2_), (4, 3, a1_, .int y3_), (7, 1, q1_, .int y6_), (4, 6, a1_, .int y7_), (4, 14, a1_, .int y8_)]) rfl (fun fr_26 H locs hp hMr_26 g => ?_)
        have hF_27 := hp
        have hG_28 := cOK.frame hMr_26 go_.2.2.2.1 mq1_ kq1_ (by decide) (by decide) hG_24
        have g := g.more hF_27
        refine lv_iconst (v := 0) hx hb dX10_holds_99 (by decide) ?_
        have kb_7 : bd 7 7 (7 : Int32) := ⟨by decide, by decide⟩
        subst hQ
        exact W.zret (v := 0) hx hb hr (nar_z (bd_sub kb_0 (by decide) : bd 0 1 _).1 (bd_sub kb_0 (by decide) : bd 0 1 _).2) (fun t ht hW => ⟨⟨_, _, rfl, Or.inl ⟨rfl, x3_, (bd_sub bx3_ (by decide)), x2_, (bd_sub bx2_ (by decide)), 7, (bd_sub kb_7 (by decide)), (g.fcts [0, 1, 2, 6, 8] rfl)⟩, q3_of g hK ht hW⟩, g.2.2.1.F ht⟩) g.2.2.1.2.2 dX10_holds_100
      · have fc_25 := eq_f c_25
        have b_29 : bd 4 2 x_10 := eqX fc_25 b_21 kb_4 (by decide)
        exact bd_no b_29 (by decide)
  · have fc_11 := eq_f c_11
    have b_30 : bd 1 1 x_10 := eqX fc_11 (bdT x_10) kb_1 (by decide)
    refine lv_aload_n hx hb dX10_holds_38 rfl (lv_at hl 0 rfl) ?_
    refine g_getk (C := RX10) (T := TX10) (N := 10) hx hb hts (mc_ inX10) hown hK g rfl 1 (by decide) rfl (hts _ (List.mem_cons_of_mem _ t_913)) (fun _ h9 => h9) 7 rfl dX10_holds_39 ?_
    refine g_geti (C := RX1) (T := TX1) (N := 18) hx hb hts (mc_ inX1) hown hK g mq0_ kq0_ (by decide) rfl 16 (by decide) rfl (hts _ (List.mem_cons_of_mem _ t_753)) (fun _ h9 => h9) rfl dX10_holds_42 (fun x_31 bx_31 g => ?_)
    refine lv_if_eq (tgt := 52) hx hb dX10_holds_45 (by decide) (fun c_32 => ?_) (fun c_32 => ?_)
    · have fc_32 := eq_f c_32
      have b_33 : bd 0 0 x_31 := eqX fc_32 (bdT x_31) kb_0 (by decide)
      refine lv_iconst (v := 0) hx hb dX10_holds_52 (by decide) ?_
      subst hQ
      exact W.zret (v := 0) hx hb hr (nar_z (bd_sub kb_0 (by decide) : bd 0 1 _).1 (bd_sub kb_0 (by decide) : bd 0 1 _).2) (fun t ht hW => ⟨⟨_, _, rfl, Or.inl ⟨rfl, y4_, by4_, y5_, by5_, y1_, (bd_sub by1_ (by decide)), (g.fcts [15, 16, 12, 2, 4] rfl)⟩, q3_of g hK ht hW⟩, g.2.2.1.F ht⟩) g.2.2.1.2.2 dX10_holds_53
    · have fc_32 := neq_f c_32
      refine lv_iconst (v := 1) hx hb dX10_holds_48 (by decide) ?_
      refine lv_goto (tgt := 53) hx hb dX10_holds_49 (by decide) ?_
      subst hQ
      exact W.zret (v := 1) hx hb hr (nar_z (bd_sub kb_1 (by decide) : bd 0 1 _).1 (bd_sub kb_1 (by decide) : bd 0 1 _).2) (fun t ht hW => ⟨⟨_, _, rfl, Or.inr (⟨rfl, x_10, b_30, (g.fcts [1, 2, 4, 12, 15, 16] rfl)⟩), q3_of g hK ht hW⟩, g.2.2.1.F ht⟩) g.2.2.1.2.2 dX10_holds_53
