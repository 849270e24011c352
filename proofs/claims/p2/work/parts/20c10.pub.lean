set_option maxHeartbeats 4000000 in
set_option maxRecDepth 100000 in
theorem r_X10_holds_16 (l : Launch) (dC : Nat → ClassId) (dI : Nat → Nat → Nat) (L : List Nat) (kd : Nat → Nat) (tys : List (ClassId × FieldType)) (f0 : Nat → va_E) (sz : Nat) (hWT : WT L kd tys f0) (a0_ : Nat) (ma0_ : a0_ ∈ L) (ka0_ : kd a0_ = 10) (a1_ : Nat) (ma1_ : a1_ ∈ L) (ka1_ : kd a1_ = 4) (x2_ : Int32) (bx2_ : bd 0 499 x2_) (x3_ : Int32) (bx3_ : bd 0 2 x3_) (q0_ : Nat) (mq0_ : q0_ ∈ L) (kq0_ : kd q0_ = 1) (q1_ : Nat) (mq1_ : q1_ ∈ L) (kq1_ : kd q1_ = 7) (q2_ : Nat) (mq2_ : q2_ ∈ L) (kq2_ : kd q2_ = 9) (y0_ : Int32) (by0_ : bd 2 2 y0_) (y1_ : Int32) (by1_ : bd 0 0 y1_) (y2_ : Int32) (by2_ : bd 1 8 y2_) (y3_ : Int32) (by3_ : bd 1 3 y3_) (y4_ : Int32) (by4_ : bd 0 9 y4_) (hGcq1_ : cOK f0 q1_) (hfx : Fs L kd f0 [(10, 1, a0_, .ref q0_), (1, 0, q0_, .ref q1_), (1, 1, q0_, .ref q2_), (4, 15, a1_, .int y0_), (4, 0, a1_, .int y1_), (7, 1, q1_, .int y2_), (4, 6, a1_, .int y3_), (4, 14, a1_, .int y4_)]) : Met l yX10_holds (.code yX10_holds cX10_holds 4 (some .boolean) :: lw_g) ({ frames := 2, cells := 0, slots := 0, locals := 50 }) (va_Pc [.ref a0_, .ref a1_, .int x2_, .int x3_] (P3 (dC, dI) L tys f0 sz)) (va_Qi (fun (r : Int32) (f : Nat → va_E) => (r = 0 ∧ Fs L kd f [(1, 12, q0_, .int 0), (1, 5, q0_, .int 1)]) ∨ (r = 1 ∧ ∃ z0_ : Int32, bd 1 1 z0_ ∧ ∃ z3_ : Int32, bd 0 0 z3_ ∧ Fs L kd f [(1, 15, q0_, .int z0_), (1, 12, q0_, .int 0), (1, 5, q0_, .int 1), (4, 0, a1_, .int z3_)])) (Q3 (dC, dI) L kd tys [(1, 5), (1, 6), (1, 8), (1, 11), (1, 12), (1, 13), (1, 14), (1, 15), (1, 16), (1, 17), (4, 0), (4, 1), (4, 2), (4, 5)] [100, 116, 117, 146] f0 sz) (pA L sz)) 0 0 (pA L sz) := by
  refine Met.ofW (cc := cX10_holds) (maxL := 4) (ret := (some .boolean)) (by decide) rfl ?_
  intro p e s m args below meth c s₁ B hml hv
  obtain ⟨rfl, hsz, hP, hK, hD0⟩ := hv
  have hx := B.exec
  have hb := B.bytes
  have hr := B.returns
  have hts := atoms_spec (ws := (.code yX10_holds cX10_holds 4 (some .boolean) :: lw_g)) B.pre
  have hown : s.vm.findClass RX10 = some m.cls := findClass_of_methodNamed B.named
  have hlocks := B.notSynchronized
  subst hsz
  have g : G3 (dC, dI) L kd tys s f0 [(1, 5), (1, 6), (1, 8), (1, 11), (1, 12), (1, 13), (1, 14), (1, 15), (1, 16), (1, 17), (4, 0), (4, 1), (4, 2), (4, 5)] [100, 116, 117, 146] f0 s.heap [] [(10, 1, a0_, .ref q0_), (1, 0, q0_, .ref q1_), (1, 1, q0_, .ref q2_), (4, 15, a1_, .int y0_), (4, 0, a1_, .int y1_), (7, 1, q1_, .int y2_), (4, 6, a1_, .int y3_), (4, 14, a1_, .int y4_)] := G3.start hP hD0 hWT hfx
  have hl := lv_entry ([.ref a0_, .ref a1_, .int x2_, .int x3_]) (n := 4) (Nat.le_of_ble_eq_true rfl)
  rw [lg_entry_eq]
  generalize (lg_sl ([.ref a0_, .ref a1_, .int x2_, .int x3_]) ++ List.replicate (4 - (lg_sl ([.ref a0_, .ref a1_, .int x2_, .int x3_])).length) Slot.unset).toArray = ls at hl ⊢
  have hl : lv_has ls 4 [(0, .ref a0_), (1, .ref a1_), (2, .int x2_), (3, .int x3_)] := hl
  refine W_q (fun Q hQ => ?_)
  refine lv_aload_n hx hb dX10_holds_0 rfl (lv_at hl 0 rfl) ?_
  refine g_getk (C := RX10) (T := TX10) (N := 10) hx hb hts (mc_ inX10) hown hK g rfl 1 (by decide) rfl (hts _ (List.mem_cons_of_mem _ t_913)) (fun _ h9 => h9) 0 rfl dX10_holds_1 ?_
  refine lv_aload_n hx hb dX10_holds_4 rfl (lv_at hl 0 rfl) ?_
  refine g_getr (K := 7) (C := RX10) (T := TX10) (N := 10) hx hb hts (mc_ inX10) hown hK g ma0_ ka0_ (by decide) rfl 0 (by decide) rfl (hts _ (List.mem_cons_of_mem _ t_912)) (fun _ h9 => h9) rfl dX10_holds_5 (fun a_1 ma_1 ka_1 g => ?_)
  refine g_getr (K := 141) (C := RX7) (T := TX7) (N := 19) hx hb hts (mc_ inX7) hown hK g ma_1 ka_1 (by decide) rfl 8 (by decide) rfl (hts _ (List.mem_cons_of_mem _ t_652)) (fun _ h9 => h9) rfl dX10_holds_8 (fun a_2 ma_2 ka_2 g => ?_)
  refine lv_iload_n hx hb dX10_holds_11 rfl (lv_at hl 2 rfl) ?_
  refine g_iald hx hb hK g ma_2 ka_2 (by decide) rfl (in_bd bx2_ (by decide)) dX10_holds_12 (fun x_3 bx_3 cx_3 => ?_)
  refine lv_aload_n hx hb dX10_holds_13 rfl (lv_at hl 1 rfl) ?_
  refine g_geti (C := RX4) (T := TX4) (N := 17) hx hb hts (mc_ inX4) hown hK g ma1_ ka1_ (by decide) rfl 16 (by decide) rfl (hts _ (List.mem_cons_of_mem _ t_876)) (fun _ h9 => h9) rfl dX10_holds_14 (fun x_4 bx_4 g => ?_)
  have go_ := g
  refine g_callv (va_runV (As := [.int x_3, .int x_4]) (rest := []) ⟨hx, hb, hml, hown, hts⟩ (r_X1_readyToAsk l dC dI L kd tys f0 s.heap.size g.2.2.2.1 q0_ mq0_ kq0_ x_3 x_4) (cwV 2 hts (gV_ t_1551 t_1552 t_1553 t_195 t_1554) rfl rfl rfl (by decide +kernel) ⟨(Nat.le_of_ble_eq_true rfl), (Nat.le_of_ble_eq_true rfl)⟩) (pre3V g hK mq0_ kq0_ (by decide) (q := (RX1, TX1, 18)) rfl) rfl rfl hl.1 rfl (lv_room (Nat.le_of_ble_eq_true rfl)) dX10_holds_17 ⟨(Nat.le_of_ble_eq_true rfl), (Nat.le_of_ble_eq_true rfl)⟩) g hK (by decide) (by decide) (fx' := [(4, 16, a1_, .int x_4), (7, 8, a_1, .ref a_2), (10, 0, a0_, .ref a_1), (10, 1, a0_, .ref q0_), (1, 0, q0_, .ref q1_), (1, 1, q0_, .ref q2_), (4, 15, a1_, .int y0_), (4, 0, a1_, .int y1_), (7, 1, q1_, .int y2_), (4, 6, a1_, .int y3_), (4, 14, a1_, .int y4_)]) rfl (fun fr_5 H locs hp hMr_5 g => ?_)
  have hF_6 := hp
  have hG_7 := cOK.frame hMr_5 go_.2.2.2.1 mq1_ kq1_ (by decide) (by decide) hGcq1_
  have g := g.more hF_6
  refine lv_aload_n hx hb dX10_holds_20 rfl (lv_at hl 0 rfl) ?_
  refine g_getk (C := RX10) (T := TX10) (N := 10) hx hb hts (mc_ inX10) hown hK g rfl 1 (by decide) rfl (hts _ (List.mem_cons_of_mem _ t_913)) (fun _ h9 => h9) 5 rfl dX10_holds_21 ?_
  have kb_0 : bd 0 0 (0 : Int32) := ⟨by decide, by decide⟩
  have kb_1 : bd 1 1 (1 : Int32) := ⟨by decide, by decide⟩
  have go_ := g
  refine g_callv (va_runV (As := []) (rest := []) ⟨hx, hb, hml, hown, hts⟩ (r_X1_go_2 l dC dI L kd tys fr_5 H.size g.2.2.2.1 q0_ mq0_ kq0_ q1_ mq1_ kq1_ q2_ mq2_ kq2_ 0 kb_0 1 kb_1 y2_ by2_ hG_7 (g.fcts [6, 7, 0, 1, 10] rfl)) (cwV 0 hts (gV_ t_1555 t_1556 t_1557 t_195 t_1558) rfl rfl rfl (by decide +kernel) ⟨(Nat.le_of_ble_eq_true rfl), (Nat.le_of_ble_eq_true rfl)⟩) (pre3V g hK mq0_ kq0_ (by decide) (q := (RX1, TX1, 18)) rfl) rfl rfl hl.1 rfl (lv_room (Nat.le_of_ble_eq_true rfl)) dX10_holds_24 ⟨(Nat.le_of_ble_eq_true rfl), (Nat.le_of_ble_eq_true rfl)⟩) g hK (by decide) (by decide) (fx' := [(1, 12, q0_, .int 0), (1, 5, q0_, .int 1), (4, 16, a1_, .int x_4), (7, 8, a_1, .ref a_2), (10, 0, a0_, .ref a_1), (10, 1, a0_, .ref q0_), (1, 0, q0_, .ref q1_), (1, 1, q0_, .ref q2_), (4, 15, a1_, .int y0_), (4, 0, a1_, .int y1_), (7, 1, q1_, .int y2_), (4, 6, a1_, .int y3_), (4, 14, a1_, .int y4_)]) rfl (fun fr_8 H locs hp hMr_8 g => ?_)
  have hG_9 := cOK.frame hMr_8 go_.2.2.2.1 mq1_ kq1_ (by decide) (by decide) hG_7
  refine lv_aload_n hx hb dX10_holds_27 rfl (lv_at hl 0 rfl) ?_
  refine g_getk (C := RX10) (T := TX10) (N := 10) hx hb hts (mc_ inX10) hown hK g rfl 1 (by decide) rfl (hts _ (List.mem_cons_of_mem _ t_913)) (fun _ h9 => h9) 5 rfl dX10_holds_28 ?_
  refine g_geti (C := RX1) (T := TX1) (N := 18) hx hb hts (mc_ inX1) hown hK g mq0_ kq0_ (by decide) rfl 15 (by decide) rfl (hts _ (List.mem_cons_of_mem _ t_751)) (fun _ h9 => h9) rfl dX10_holds_31 (fun x_10 bx_10 g => ?_)
  refine lv_iconst (v := 1) hx hb dX10_holds_34 (by decide) ?_
  refine lv_icmp_ne (tgt := 54) hx hb dX10_holds_35 (by decide) (fun c_11 => ?_) (fun c_11 => ?_)
  · have fc_11 := neq_f c_11
    refine lv_aload_n hx hb dX10_holds_54 rfl (lv_at hl 0 rfl) ?_
    refine g_getk (C := RX10) (T := TX10) (N := 10) hx hb hts (mc_ inX10) hown hK g rfl 1 (by decide) rfl (hts _ (List.mem_cons_of_mem _ t_913)) (fun _ h9 => h9) 6 rfl dX10_holds_55 ?_
    refine g_getk (C := RX1) (T := TX1) (N := 18) hx hb hts (mc_ inX1) hown hK g rfl 15 (by decide) rfl (hts _ (List.mem_cons_of_mem _ t_751)) (fun _ h9 => h9) 0 rfl dX10_holds_58 ?_
    refine lv_iconst (v := 2) hx hb dX10_holds_61 (by decide) ?_
    have kb_2 : bd 2 2 (2 : Int32) := ⟨by decide, by decide⟩
    refine lv_icmp_ne (tgt := 76) hx hb dX10_holds_62 (by decide) (fun c_12 => ?_) (fun c_12 => ?_)
    · have fc_12 := neq_f c_12
      refine lv_aload_n hx hb dX10_holds_76 rfl (lv_at hl 1 rfl) ?_
      refine lv_aload_n hx hb dX10_holds_77 rfl (lv_at hl 0 rfl) ?_
      refine g_getk (C := RX10) (T := TX10) (N := 10) hx hb hts (mc_ inX10) hown hK g rfl 1 (by decide) rfl (hts _ (List.mem_cons_of_mem _ t_913)) (fun _ h9 => h9) 6 rfl dX10_holds_78 ?_
      refine g_getk (C := RX1) (T := TX1) (N := 18) hx hb hts (mc_ inX1) hown hK g rfl 15 (by decide) rfl (hts _ (List.mem_cons_of_mem _ t_751)) (fun _ h9 => h9) 0 rfl dX10_holds_81 ?_
      refine lv_iconst (v := 4) hx hb dX10_holds_84 (by decide) ?_
      have kb_4 : bd 4 4 (4 : Int32) := ⟨by decide, by decide⟩
      refine lv_icmp_ne (tgt := 92) hx hb dX10_holds_85 (by decide) (fun c_13 => ?_) (fun c_13 => ?_)
      · have fc_13 := neq_f c_13
        refine lv_bipush (v := 7) hx hb dX10_holds_92 (by decide) ?_
        refine lv_iload_n hx hb dX10_holds_94 rfl (lv_at hl 2 rfl) ?_
        refine lv_iload_n hx hb dX10_holds_95 rfl (lv_at hl 3 rfl) ?_
        have go_ := g
        refine g_callv (va_runV (As := [.int 7, .int x2_, .int x3_]) (rest := []) ⟨hx, hb, hml, hown, hts⟩ (r_X4_breakBy l dC dI L kd tys fr_8 H.size g.2.2.2.1 a1_ ma1_ ka1_ 7 x2_ x3_) (cwV 3 hts (gV_ t_1606 t_1607 t_1608 t_197 t_1609) rfl rfl rfl (by decide +kernel) ⟨(Nat.le_of_ble_eq_true rfl), (Nat.le_of_ble_eq_true rfl)⟩) (pre3V g hK ma1_ ka1_ (by decide) (q := (RX4, TX4, 17)) rfl) rfl rfl hl.1 rfl (lv_room (Nat.le_of_ble_eq_true rfl)) dX10_holds_96 ⟨(Nat.le_of_ble_eq_true rfl), (Nat.le_of_ble_eq_true rfl)⟩) g hK (by decide) (by decide) (fx' := [(1, 15, q0_, .int x_10), (1, 12, q0_, .int 0), (1, 5, q0_, .int 1), (4, 16, a1_, .int x_4), (7, 8, a_1, .ref a_2), (10, 0, a0_, .ref a_1), (10, 1, a0_, .ref q0_), (1, 0, q0_, .ref q1_), (1, 1, q0_, .ref q2_), (4, 15, a1_, .int y0_), (7, 1, q1_, .int y2_), (4, 6, a1_, .int y3_), (4, 14, a1_, .int y4_)]) rfl (fun fr_14 H locs hp hMr_14 g => ?_)
        have hG_15 := cOK.frame hMr_14 go_.2.2.2.1 mq1_ kq1_ (by decide) (by decide) hG_9
        refine lv_iconst (v := 0) hx hb dX10_holds_99 (by decide) ?_
        subst hQ
        exact W.zret (v := 0) hx hb hr (nar_z (bd_sub kb_0 (by decide) : bd 0 1 _).1 (bd_sub kb_0 (by decide) : bd 0 1 _).2) (fun t ht hW => ⟨⟨_, _, rfl, Or.inl ⟨rfl, (g.fcts [1, 2] rfl)⟩, q3_of g hK ht hW⟩, g.2.2.1.F ht⟩) g.2.2.1.2.2 dX10_holds_100
      · have fc_13 := eq_f c_13
        have b_16 : bd 4 4 x_10 := eqX fc_13 (bdT x_10) kb_4 (by decide)
        refine lv_iconst (v := 5) hx hb dX10_holds_88 (by decide) ?_
        refine lv_goto (tgt := 94) hx hb dX10_holds_89 (by decide) ?_
        refine lv_iload_n hx hb dX10_holds_94 rfl (lv_at hl 2 rfl) ?_
        refine lv_iload_n hx hb dX10_holds_95 rfl (lv_at hl 3 rfl) ?_
        have go_ := g
        refine g_callv (va_runV (As := [.int 5, .int x2_, .int x3_]) (rest := []) ⟨hx, hb, hml, hown, hts⟩ (r_X4_breakBy l dC dI L kd tys fr_8 H.size g.2.2.2.1 a1_ ma1_ ka1_ 5 x2_ x3_) (cwV 3 hts (gV_ t_1606 t_1607 t_1608 t_197 t_1609) rfl rfl rfl (by decide +kernel) ⟨(Nat.le_of_ble_eq_true rfl), (Nat.le_of_ble_eq_true rfl)⟩) (pre3V g hK ma1_ ka1_ (by decide) (q := (RX4, TX4, 17)) rfl) rfl rfl hl.1 rfl (lv_room (Nat.le_of_ble_eq_true rfl)) dX10_holds_96 ⟨(Nat.le_of_ble_eq_true rfl), (Nat.le_of_ble_eq_true rfl)⟩) g hK (by decide) (by decide) (fx' := [(1, 15, q0_, .int x_10), (1, 12, q0_, .int 0), (1, 5, q0_, .int 1), (4, 16, a1_, .int x_4), (7, 8, a_1, .ref a_2), (10, 0, a0_, .ref a_1), (10, 1, a0_, .ref q0_), (1, 0, q0_, .ref q1_), (1, 1, q0_, .ref q2_), (4, 15, a1_, .int y0_), (7, 1, q1_, .int y2_), (4, 6, a1_, .int y3_), (4, 14, a1_, .int y4_)]) rfl (fun fr_17 H locs hp hMr_17 g => ?_)
        have hG_18 := cOK.frame hMr_17 go_.2.2.2.1 mq1_ kq1_ (by decide) (by decide) hG_9
        refine lv_iconst (v := 0) hx hb dX10_holds_99 (by decide) ?_
        subst hQ
        exact W.zret (v := 0) hx hb hr (nar_z (bd_sub kb_0 (by decide) : bd 0 1 _).1 (bd_sub kb_0 (by decide) : bd 0 1 _).2) (fun t ht hW => ⟨⟨_, _, rfl, Or.inl ⟨rfl, (g.fcts [1, 2] rfl)⟩, q3_of g hK ht hW⟩, g.2.2.1.F ht⟩) g.2.2.1.2.2 dX10_holds_100
    · have fc_12 := eq_f c_12
      have b_19 : bd 2 2 x_10 := eqX fc_12 (bdT x_10) kb_2 (by decide)
      refine lv_aload_n hx hb dX10_holds_65 rfl (lv_at hl 1 rfl) ?_
      refine lv_aload_n hx hb dX10_holds_66 rfl (lv_at hl 0 rfl) ?_
      refine g_getk (C := RX10) (T := TX10) (N := 10) hx hb hts (mc_ inX10) hown hK g rfl 1 (by decide) rfl (hts _ (List.mem_cons_of_mem _ t_913)) (fun _ h9 => h9) 6 rfl dX10_holds_67 ?_
      refine g_getl (C := RX1) (T := TX1) (N := 18) hx hb hts (mc_ inX1) hown hK g mq0_ kq0_ (by decide) rfl 17 (by decide) rfl (hts _ (List.mem_cons_of_mem _ t_755)) (fun _ h9 => h9) rfl dX10_holds_70 (fun x_20 g => ?_)
      have go_ := g
      refine g_put (C := RX4) (T := TX4) (N := 17) hx hb hts (mc_ inX4) tyX4 tyX4_ok nmX4 hown hK g ma1_ ka1_ (by decide) rfl 5 (by decide) (hts _ (List.mem_cons_of_mem _ t_848)) (fun _ h9 => h9) rfl rfl okV_l rfl rfl (by decide) (Or.inr (Or.inl (by decide))) (fx' := [(1, 17, q0_, .long x_20), (1, 15, q0_, .int x_10), (1, 12, q0_, .int 0), (1, 5, q0_, .int 1), (4, 16, a1_, .int x_4), (7, 8, a_1, .ref a_2), (10, 0, a0_, .ref a_1), (10, 1, a0_, .ref q0_), (1, 0, q0_, .ref q1_), (1, 1, q0_, .ref q2_), (4, 15, a1_, .int y0_), (4, 0, a1_, .int y1_), (7, 1, q1_, .int y2_), (4, 6, a1_, .int y3_), (4, 14, a1_, .int y4_)]) rfl dX10_holds_73 (fun f H locs hM_21 g => ?_)
      have hG_22 := cOK.frame hM_21 go_.2.2.2.1 mq1_ kq1_ (by decide) (by decide) hG_9
      refine lv_aload_n hx hb dX10_holds_76 rfl (lv_at hl 1 rfl) ?_
      refine lv_aload_n hx hb dX10_holds_77 rfl (lv_at hl 0 rfl) ?_
      refine g_getk (C := RX10) (T := TX10) (N := 10) hx hb hts (mc_ inX10) hown hK g rfl 1 (by decide) rfl (hts _ (List.mem_cons_of_mem _ t_913)) (fun _ h9 => h9) 8 rfl dX10_holds_78 ?_
      refine g_getk (C := RX1) (T := TX1) (N := 18) hx hb hts (mc_ inX1) hown hK g rfl 15 (by decide) rfl (hts _ (List.mem_cons_of_mem _ t_751)) (fun _ h9 => h9) 2 rfl dX10_holds_81 ?_
      refine lv_iconst (v := 4) hx hb dX10_holds_84 (by decide) ?_
      have kb_4 : bd 4 4 (4 : Int32) := ⟨by decide, by decide⟩
      refine lv_icmp_ne (tgt := 92) hx hb dX10_holds_85 (by decide) (fun c_23 => ?_) (fun c_23 => ?_)
      · have fc_23 := neq_f c_23
        refine lv_bipush (v := 7) hx hb dX10_holds_92 (by decide) ?_
        refine lv_iload_n hx hb dX10_holds_94 rfl (lv_at hl 2 rfl) ?_
        refine lv_iload_n hx hb dX10_holds_95 rfl (lv_at hl 3 rfl) ?_
        have go_ := g
        refine g_callv (va_runV (As := [.int 7, .int x2_, .int x3_]) (rest := []) ⟨hx, hb, hml, hown, hts⟩ (r_X4_breakBy l dC dI L kd tys f H.size g.2.2.2.1 a1_ ma1_ ka1_ 7 x2_ x3_) (cwV 3 hts (gV_ t_1606 t_1607 t_1608 t_197 t_1609) rfl rfl rfl (by decide +kernel) ⟨(Nat.le_of_ble_eq_true rfl), (Nat.le_of_ble_eq_true rfl)⟩) (pre3V g hK ma1_ ka1_ (by decide) (q := (RX4, TX4, 17)) rfl) rfl rfl hl.1 rfl (lv_room (Nat.le_of_ble_eq_true rfl)) dX10_holds_96 ⟨(Nat.le_of_ble_eq_true rfl), (Nat.le_of_ble_eq_true rfl)⟩) g hK (by decide) (by decide) (fx' := [(4, 5, a1_, .long x_20), (1, 17, q0_, .long x_20), (1, 15, q0_, .int x_10), (1, 12, q0_, .int 0), (1, 5, q0_, .int 1), (4, 16, a1_, .int x_4), (7, 8, a_1, .ref a_2), (10, 0, a0_, .ref a_1), (10, 1, a0_, .ref q0_), (1, 0, q0_, .ref q1_), (1, 1, q0_, .ref q2_), (4, 15, a1_, .int y0_), (7, 1, q1_, .int y2_), (4, 6, a1_, .int y3_), (4, 14, a1_, .int y4_)]) rfl (fun fr_24 H locs hp hMr_24 g => ?_)
        have hG_25 := cOK.frame hMr_24 go_.2.2.2.1 mq1_ kq1_ (by decide) (by decide) hG_22
        refine lv_iconst (v := 0) hx hb dX10_holds_99 (by decide) ?_
        subst hQ
        exact W.zret (v := 0) hx hb hr (nar_z (bd_sub kb_0 (by decide) : bd 0 1 _).1 (bd_sub kb_0 (by decide) : bd 0 1 _).2) (fun t ht hW => ⟨⟨_, _, rfl, Or.inl ⟨rfl, (g.fcts [3, 4] rfl)⟩, q3_of g hK ht hW⟩, g.2.2.1.F ht⟩) g.2.2.1.2.2 dX10_holds_100
      · have fc_23 := eq_f c_23
        have b_26 : bd 4 2 x_10 := eqX fc_23 b_19 kb_4 (by decide)
        exact bd_no b_26 (by decide)
  · have fc_11 := eq_f c_11
    have b_27 : bd 1 1 x_10 := eqX fc_11 (bdT x_10) kb_1 (by decide)
    refine lv_aload_n hx hb dX10_holds_38 rfl (lv_at hl 0 rfl) ?_
    refine g_getk (C := RX10) (T := TX10) (N := 10) hx hb hts (mc_ inX10) hown hK g rfl 1 (by decide) rfl (hts _ (List.mem_cons_of_mem _ t_913)) (fun _ h9 => h9) 6 rfl dX10_holds_39 ?_
    refine g_geti (C := RX1) (T := TX1) (N := 18) hx hb hts (mc_ inX1) hown hK g mq0_ kq0_ (by decide) rfl 16 (by decide) rfl (hts _ (List.mem_cons_of_mem _ t_753)) (fun _ h9 => h9) rfl dX10_holds_42 (fun x_28 bx_28 g => ?_)
    refine lv_if_eq (tgt := 52) hx hb dX10_holds_45 (by decide) (fun c_29 => ?_) (fun c_29 => ?_)
    · have fc_29 := eq_f c_29
      have b_30 : bd 0 0 x_28 := eqX fc_29 (bdT x_28) kb_0 (by decide)
      refine lv_iconst (v := 0) hx hb dX10_holds_52 (by decide) ?_
      subst hQ
      exact W.zret (v := 0) hx hb hr (nar_z (bd_sub kb_0 (by decide) : bd 0 1 _).1 (bd_sub kb_0 (by decide) : bd 0 1 _).2) (fun t ht hW => ⟨⟨_, _, rfl, Or.inl ⟨rfl, (g.fcts [2, 3] rfl)⟩, q3_of g hK ht hW⟩, g.2.2.1.F ht⟩) g.2.2.1.2.2 dX10_holds_53
    · have fc_29 := neq_f c_29
      refine lv_iconst (v := 1) hx hb dX10_holds_48 (by decide) ?_
      refine lv_goto (tgt := 53) hx hb dX10_holds_49 (by decide) ?_
      subst hQ
      exact W.zret (v := 1) hx hb hr (nar_z (bd_sub kb_1 (by decide) : bd 0 1 _).1 (bd_sub kb_1 (by decide) : bd 0 1 _).2) (fun t ht hW => ⟨⟨_, _, rfl, Or.inr (⟨rfl, x_10, b_27, y1_, by1_, (g.fcts [1, 2, 3, 11] rfl)⟩), q3_of g hK ht hW⟩, g.2.2.1.F ht⟩) g.2.2.1.2.2 dX10_holds_53
set_option maxHeartbeats 4000000 in
set_option maxRecDepth 100000 in
theorem r_X10_askThrows_2 (l : Launch) (dC : Nat → ClassId) (dI : Nat → Nat → Nat) (L : List Nat) (kd : Nat → Nat) (tys : List (ClassId × FieldType)) (f0 : Nat → va_E) (sz : Nat) (hWT : WT L kd tys f0) (a0_ : Nat) (ma0_ : a0_ ∈ L) (ka0_ : kd a0_ = 10) (a1_ : Nat) (ma1_ : a1_ ∈ L) (ka1_ : kd a1_ = 4) (x2_ : Int32) (bx2_ : bd 0 2 x2_) (x3_ : Int32) (bx3_ : bd 0 95 x3_) (q0_ : Nat) (mq0_ : q0_ ∈ L) (kq0_ : kd q0_ = 1) (q1_ : Nat) (mq1_ : q1_ ∈ L) (kq1_ : kd q1_ = 7) (q2_ : Nat) (mq2_ : q2_ ∈ L) (kq2_ : kd q2_ = 9) (y0_ : Int32) (by0_ : bd 0 8 y0_) (y1_ : Int32) (by1_ : bd 1 20 y1_) (y2_ : Int32) (by2_ : bd 1 1 y2_) (y3_ : Int32) (by3_ : bd 0 0 y3_) (y4_ : Int32) (by4_ : bd 0 0 y4_) (y5_ : Int32) (by5_ : bd 1 8 y5_) (y6_ : Int32) (by6_ : bd 1 3 y6_) (y7_ : Int32) (by7_ : bd 0 9 y7_) (hGcq1_ : cOK f0 q1_) (hfx : Fs L kd f0 [(10, 1, a0_, .ref q0_), (1, 0, q0_, .ref q1_), (1, 1, q0_, .ref q2_), (4, 0, a1_, .int y0_), (1, 11, q0_, .int y1_), (1, 12, q0_, .int y2_), (1, 6, q0_, .int y3_), (1, 5, q0_, .int y4_), (7, 1, q1_, .int y5_), (4, 6, a1_, .int y6_), (4, 14, a1_, .int y7_)]) : Met l yX10_askThrows (.code yX10_askThrows cX10_askThrows 11 none :: lw_g) ({ frames := 3, cells := 0, slots := 0, locals := 73 }) (va_Pc [.ref a0_, .ref a1_, .int x2_, .int x3_] (P3 (dC, dI) L tys f0 sz)) (va_Qv (fun (f : Nat → va_E) => (True)) (Q3 (dC, dI) L kd tys [(1, 5), (1, 6), (1, 8), (1, 11), (1, 12), (1, 13), (1, 14), (1, 15), (1, 16), (1, 17), (4, 0), (4, 1), (4, 2), (4, 5)] [100, 116, 117, 146] f0 sz) (pA L sz)) 0 0 (pA L sz) := by
  refine Met.ofW (cc := cX10_askThrows) (maxL := 11) (ret := none) (by decide) rfl ?_
  intro p e s m args below meth c s₁ B hml hv
  obtain ⟨rfl, hsz, hP, hK, hD0⟩ := hv
  have hx := B.exec
  have hb := B.bytes
  have hr := B.returns
  have hts := atoms_spec (ws := (.code yX10_askThrows cX10_askThrows 11 none :: lw_g)) B.pre
  have hown : s.vm.findClass RX10 = some m.cls := findClass_of_methodNamed B.named
  have hlocks := B.notSynchronized
  subst hsz
  have g : G3 (dC, dI) L kd tys s f0 [(1, 5), (1, 6), (1, 8), (1, 11), (1, 12), (1, 13), (1, 14), (1, 15), (1, 16), (1, 17), (4, 0), (4, 1), (4, 2), (4, 5)] [100, 116, 117, 146] f0 s.heap [] [(10, 1, a0_, .ref q0_), (1, 0, q0_, .ref q1_), (1, 1, q0_, .ref q2_), (4, 0, a1_, .int y0_), (1, 11, q0_, .int y1_), (1, 12, q0_, .int y2_), (1, 6, q0_, .int y3_), (1, 5, q0_, .int y4_), (7, 1, q1_, .int y5_), (4, 6, a1_, .int y6_), (4, 14, a1_, .int y7_)] := G3.start hP hD0 hWT hfx
  have hl := lv_entry ([.ref a0_, .ref a1_, .int x2_, .int x3_]) (n := 11) (Nat.le_of_ble_eq_true rfl)
  rw [lg_entry_eq]
  generalize (lg_sl ([.ref a0_, .ref a1_, .int x2_, .int x3_]) ++ List.replicate (11 - (lg_sl ([.ref a0_, .ref a1_, .int x2_, .int x3_])).length) Slot.unset).toArray = ls at hl ⊢
  have hl : lv_has ls 11 [(0, .ref a0_), (1, .ref a1_), (2, .int x2_), (3, .int x3_)] := hl
  refine W_q (fun Q hQ => ?_)
  refine lv_aload_n hx hb dX10_askThrows_0 rfl (lv_at hl 1 rfl) ?_
  refine g_getk (C := RX4) (T := TX4) (N := 17) hx hb hts (mc_ inX4) hown hK g rfl 0 (by decide) rfl (hts _ (List.mem_cons_of_mem _ t_837)) (fun _ h9 => h9) 3 rfl dX10_askThrows_1 ?_
  have kb_0 : bd 0 0 (0 : Int32) := ⟨by decide, by decide⟩
  refine lv_if_ne (tgt := 15) hx hb dX10_askThrows_4 (by decide) (fun c_1 => ?_) (fun c_1 => ?_)
  · have fc_1 := neq_f c_1
    have b_2 : bd 1 8 y0_ := neX fc_1 by0_ kb_0 (by decide)
    subst hQ
    exact W.vret hx hb hr (fun t ht hW => ⟨⟨_, rfl, trivial, q3_of g hK ht hW⟩, g.2.2.1.F ht⟩) g.2.2.1.2.2 dX10_askThrows_15
  · have fc_1 := eq_f c_1
    have b_3 : bd 0 0 y0_ := eqX fc_1 by0_ kb_0 (by decide)
    refine lv_aload_n hx hb dX10_askThrows_7 rfl (lv_at hl 1 rfl) ?_
    refine g_geti (C := RX4) (T := TX4) (N := 17) hx hb hts (mc_ inX4) hown hK g ma1_ ka1_ (by decide) rfl 15 (by decide) rfl (hts _ (List.mem_cons_of_mem _ t_875)) (fun _ h9 => h9) rfl dX10_askThrows_8 (fun x_4 bx_4 g => ?_)
    refine lv_iconst (v := 2) hx hb dX10_askThrows_11 (by decide) ?_
    have kb_2 : bd 2 2 (2 : Int32) := ⟨by decide, by decide⟩
    refine lv_icmp_eq (tgt := 16) hx hb dX10_askThrows_12 (by decide) (fun c_5 => ?_) (fun c_5 => ?_)
    · have fc_5 := eq_f c_5
      have b_6 : bd 2 2 x_4 := eqX fc_5 (bdT x_4) kb_2 (by decide)
      refine lv_aload_n hx hb dX10_askThrows_16 rfl (lv_at hl 1 rfl) ?_
      refine g_getl (C := RX4) (T := TX4) (N := 17) hx hb hts (mc_ inX4) hown hK g ma1_ ka1_ (by decide) rfl 5 (by decide) rfl (hts _ (List.mem_cons_of_mem _ t_848)) (fun _ h9 => h9) rfl dX10_askThrows_17 (fun x_7 g => ?_)
      refine lv_lstore (lv' := [(4, .long x_7), (0, .ref a0_), (1, .ref a1_), (2, .int x2_), (3, .int x3_)]) hx hb dX10_askThrows_20 hl (by decide) rfl (fun ls hl => ?_)
      refine lv_iload_n hx hb dX10_askThrows_22 rfl (lv_at hl 4 rfl) ?_
      refine lv_istore (lv' := [(6, .int x3_), (4, .long x_7), (0, .ref a0_), (1, .ref a1_), (2, .int x2_), (3, .int x3_)]) hx hb dX10_askThrows_23 hl (by decide) rfl (fun ls hl => ?_)
      refine lv_iconst (v := 0) hx hb dX10_askThrows_25 (by decide) ?_
      refine lv_istore (lv' := [(7, .int 0), (6, .int x3_), (4, .long x_7), (0, .ref a0_), (1, .ref a1_), (2, .int x2_), (3, .int x3_)]) hx hb dX10_askThrows_26 hl (by decide) rfl (fun ls hl => ?_)
      have loop_8 : ∀ (n : Nat) (v28_7 : Int32) (v28_6 : Int32) (w28_4_0_a1_ : Int32) (w28_1_12_q0_ : Int32) (w28_1_5_q0_ : Int32), bd 0 8 v28_7 → bd (-1) 95 v28_6 → bd 0 0 w28_4_0_a1_ → bd 0 1 w28_1_12_q0_ → bd 0 1 w28_1_5_q0_ → (8 - v28_7.toInt < (n : Int)) → ∀ (f : Nat → va_E) (H : Heap) (locs : List Loc) (ls : Array Slot), G3 (dC, dI) L kd tys s f0 [(1, 5), (1, 6), (1, 8), (1, 11), (1, 12), (1, 13), (1, 14), (1, 15), (1, 16), (1, 17), (4, 0), (4, 1), (4, 2), (4, 5)] [100, 116, 117, 146] f H locs [(4, 15, a1_, .int x_4), (10, 1, a0_, .ref q0_), (1, 0, q0_, .ref q1_), (1, 1, q0_, .ref q2_), (4, 0, a1_, .int w28_4_0_a1_), (1, 12, q0_, .int w28_1_12_q0_), (1, 5, q0_, .int w28_1_5_q0_), (7, 1, q1_, .int y5_), (4, 6, a1_, .int y6_), (4, 14, a1_, .int y7_)] → cOK f q1_ → lv_has ls 11 [(7, .int v28_7), (6, .int v28_6), (4, .long x_7), (0, .ref a0_), (1, .ref a1_), (2, .int x2_), (3, .int x3_)] → W p l e ({ frames := 3, cells := 0, slots := 0, locals := 73 } : Room) s m [.ref a0_, .ref a1_, .int x2_, .int x3_].toArray below meth c H locs 0 0 Q (F0 m 28 ls []) := by
        intro n28
        induction n28 with
        | zero =>
          intro v28_7 v28_6 w28_4_0_a1_ w28_1_12_q0_ w28_1_5_q0_ bv28_7 bv28_6 bw28_4_0_a1_ bw28_1_12_q0_ bw28_1_5_q0_ hm28 f H locs ls g hG28_c_q1_ hl
          exact absurd hm28 (by have h9_v28_7 := bv28_7; unfold bd at h9_v28_7; have h9_v28_6 := bv28_6; unfold bd at h9_v28_6; have h9_w28_4_0_a1_ := bw28_4_0_a1_; unfold bd at h9_w28_4_0_a1_; have h9_w28_1_12_q0_ := bw28_1_12_q0_; unfold bd at h9_w28_1_12_q0_; have h9_w28_1_5_q0_ := bw28_1_5_q0_; unfold bd at h9_w28_1_5_q0_; omega)
        | succ n28 ih28 =>
          intro v28_7 v28_6 w28_4_0_a1_ w28_1_12_q0_ w28_1_5_q0_ bv28_7 bv28_6 bw28_4_0_a1_ bw28_1_12_q0_ bw28_1_5_q0_ hm28 f H locs ls g hG28_c_q1_ hl
          refine lv_iload hx hb dX10_askThrows_28 (lv_at hl 0 rfl) ?_
          refine lv_bipush (v := 8) hx hb dX10_askThrows_30 (by decide) ?_
          have kb_8 : bd 8 8 (8 : Int32) := ⟨by decide, by decide⟩
          refine lv_icmp_ge (tgt := 166) hx hb dX10_askThrows_32 (by decide) (fun c_9 => ?_) (fun c_9 => ?_)
          · have fc_9 := le_f c_9
            have b_10 : bd 8 8 v28_7 := leR fc_9 kb_8 bv28_7 (by decide)
            refine lv_aload_n hx hb dX10_askThrows_166 rfl (lv_at hl 4 rfl) ?_
            refine lv_iconst (v := 3) hx hb dX10_askThrows_167 (by decide) ?_
            have kb_3 : bd 3 3 (3 : Int32) := ⟨by decide, by decide⟩
            have go_ := g
            refine g_put (C := RX4) (T := TX4) (N := 17) hx hb hts (mc_ inX4) tyX4 tyX4_ok nmX4 hown hK g ma1_ ka1_ (by decide) rfl 0 (by decide) (hts _ (List.mem_cons_of_mem _ t_837)) (fun _ h9 => h9) rfl rfl (okV_i (bd_sub kb_3 (by decide))) rfl rfl (by decide) (Or.inr (Or.inl (by decide))) (fx' := [(4, 15, a1_, .int x_4), (10, 1, a0_, .ref q0_), (1, 0, q0_, .ref q1_), (1, 1, q0_, .ref q2_), (1, 12, q0_, .int w28_1_12_q0_), (1, 5, q0_, .int w28_1_5_q0_), (7, 1, q1_, .int y5_), (4, 6, a1_, .int y6_), (4, 14, a1_, .int y7_)]) rfl dX10_askThrows_168 (fun f H locs hM_11 g => ?_)
            have hG_12 := cOK.frame hM_11 go_.2.2.2.1 mq1_ kq1_ (by decide) (by decide) hG28_c_q1_
            subst hQ
            exact W.vret hx hb hr (fun t ht hW => ⟨⟨_, rfl, trivial, q3_of g hK ht hW⟩, g.2.2.1.F ht⟩) g.2.2.1.2.2 dX10_askThrows_171
          · have fc_9 := nle_f c_9
            have b_13 : bd 0 7 v28_7 := ltL fc_9 bv28_7 kb_8 (by decide)
            refine lv_iload hx hb dX10_askThrows_35 (lv_at hl 1 rfl) ?_
            refine lv_iconst (v := (-1)) hx hb dX10_askThrows_37 (by decide) ?_
            have kb_m1 : bd (-1) (-1) ((-1) : Int32) := ⟨by decide, by decide⟩
            refine lv_icmp_eq (tgt := 166) hx hb dX10_askThrows_38 (by decide) (fun c_14 => ?_) (fun c_14 => ?_)
            · have fc_14 := eq_f c_14
              have b_15 : bd (-1) (-1) v28_6 := eqX fc_14 bv28_6 kb_m1 (by decide)
              refine lv_aload_n hx hb dX10_askThrows_166 rfl (lv_at hl 4 rfl) ?_
              refine lv_iconst (v := 3) hx hb dX10_askThrows_167 (by decide) ?_
              have kb_3 : bd 3 3 (3 : Int32) := ⟨by decide, by decide⟩
              have go_ := g
              refine g_put (C := RX4) (T := TX4) (N := 17) hx hb hts (mc_ inX4) tyX4 tyX4_ok nmX4 hown hK g ma1_ ka1_ (by decide) rfl 0 (by decide) (hts _ (List.mem_cons_of_mem _ t_837)) (fun _ h9 => h9) rfl rfl (okV_i (bd_sub kb_3 (by decide))) rfl rfl (by decide) (Or.inr (Or.inl (by decide))) (fx' := [(4, 15, a1_, .int x_4), (10, 1, a0_, .ref q0_), (1, 0, q0_, .ref q1_), (1, 1, q0_, .ref q2_), (1, 12, q0_, .int w28_1_12_q0_), (1, 5, q0_, .int w28_1_5_q0_), (7, 1, q1_, .int y5_), (4, 6, a1_, .int y6_), (4, 14, a1_, .int y7_)]) rfl dX10_askThrows_168 (fun f H locs hM_16 g => ?_)
              have hG_17 := cOK.frame hM_16 go_.2.2.2.1 mq1_ kq1_ (by decide) (by decide) hG28_c_q1_
              subst hQ
              exact W.vret hx hb hr (fun t ht hW => ⟨⟨_, rfl, trivial, q3_of g hK ht hW⟩, g.2.2.1.F ht⟩) g.2.2.1.2.2 dX10_askThrows_171
            · have fc_14 := neq_f c_14
              have b_18 : bd 0 95 v28_6 := neX fc_14 bv28_6 kb_m1 (by decide)
              refine lv_aload_n hx hb dX10_askThrows_41 rfl (lv_at hl 3 rfl) ?_
              refine lv_iload hx hb dX10_askThrows_42 (lv_at hl 1 rfl) ?_
              have go_ := g
              refine g_calli (va_runV (As := [.int v28_6]) (rest := []) ⟨hx, hb, hml, hown, hts⟩ (r_X10_lastMark l dC dI L kd tys f H.size g.2.2.2.1 a0_ ma0_ ka0_ v28_6 b_18) (cwV 1 hts (gV_ t_1620 t_1622 t_71 t_194 t_1623) rfl rfl rfl (by decide +kernel) ⟨(Nat.le_of_ble_eq_true rfl), (Nat.le_of_ble_eq_true rfl)⟩) (pre3V g hK ma0_ ka0_ (by decide) (q := (RX10, TX10, 10)) rfl) rfl rfl hl.1 rfl (lv_room (Nat.le_of_ble_eq_true rfl)) dX10_askThrows_44 ⟨(Nat.le_of_ble_eq_true rfl), (Nat.le_of_ble_eq_true rfl)⟩) g hK (by decide) (by decide) (fx' := [(4, 15, a1_, .int x_4), (10, 1, a0_, .ref q0_), (1, 0, q0_, .ref q1_), (1, 1, q0_, .ref q2_), (4, 0, a1_, .int w28_4_0_a1_), (1, 12, q0_, .int w28_1_12_q0_), (1, 5, q0_, .int w28_1_5_q0_), (7, 1, q1_, .int y5_), (4, 6, a1_, .int y6_), (4, 14, a1_, .int y7_)]) rfl (fun r_19 fr_19 H locs hp hMr_19 g => ?_)
              obtain ⟨h_20, -⟩ := hp
              have hG_21 := cOK.frame hMr_19 go_.2.2.2.1 mq1_ kq1_ (by decide) (by decide) hG28_c_q1_
              refine lv_istore (lv' := [(8, .int r_19), (7, .int v28_7), (6, .int v28_6), (4, .long x_7), (0, .ref a0_), (1, .ref a1_), (2, .int x2_), (3, .int x3_)]) hx hb dX10_askThrows_47 hl (by decide) rfl (fun ls hl => ?_)
              refine lv_aload_n hx hb dX10_askThrows_49 rfl (lv_at hl 4 rfl) ?_
              refine g_getr (K := 7) (C := RX10) (T := TX10) (N := 10) hx hb hts (mc_ inX10) hown hK g ma0_ ka0_ (by decide) rfl 0 (by decide) rfl (hts _ (List.mem_cons_of_mem _ t_912)) (fun _ h9 => h9) rfl dX10_askThrows_50 (fun a_22 ma_22 ka_22 g => ?_)
              refine g_getr (K := 137) (C := RX7) (T := TX7) (N := 19) hx hb hts (mc_ inX7) hown hK g ma_22 ka_22 (by decide) rfl 2 (by decide) rfl (hts _ (List.mem_cons_of_mem _ t_634)) (fun _ h9 => h9) rfl dX10_askThrows_53 (fun a_23 ma_23 ka_23 g => ?_)
              refine lv_iload hx hb dX10_askThrows_56 (lv_at hl 2 rfl) ?_
              refine g_aald hx hb hK g ma_23 ka_23 (by decide) rfl (by decide) (in_bd b_18 (by decide)) dX10_askThrows_58 (fun a_24 ma_24 ua_24 wa_24 => ?_)
              have ka_24 : kd a_24 = 6 := by omega
              refine g_geti (C := RX6) (T := TX6) (N := 13) hx hb hts (mc_ inX6) hown hK g ma_24 ka_24 (by decide) rfl 11 (by decide) rfl (hts _ (List.mem_cons_of_mem _ t_590)) (fun _ h9 => h9) rfl dX10_askThrows_59 (fun x_25 bx_25 g => ?_)
              refine lv_istore (lv' := [(9, .int x_25), (8, .int r_19), (7, .int v28_7), (6, .int v28_6), (4, .long x_7), (0, .ref a0_), (1, .ref a1_), (2, .int x2_), (3, .int x3_)]) hx hb dX10_askThrows_62 hl (by decide) rfl (fun ls hl => ?_)
              have loop_26 : ∀ (n : Nat) (v64_9 : Int32) (w64_4_0_a1_ : Int32) (w64_1_12_q0_ : Int32) (w64_1_5_q0_ : Int32), bd 0 500 v64_9 → bd 0 0 w64_4_0_a1_ → bd 0 1 w64_1_12_q0_ → bd 0 1 w64_1_5_q0_ → (500 - v64_9.toInt < (n : Int)) → ∀ (f : Nat → va_E) (H : Heap) (locs : List Loc) (ls : Array Slot), G3 (dC, dI) L kd tys s f0 [(1, 5), (1, 6), (1, 8), (1, 11), (1, 12), (1, 13), (1, 14), (1, 15), (1, 16), (1, 17), (4, 0), (4, 1), (4, 2), (4, 5)] [100, 116, 117, 146] f H locs [(6, 11, a_24, .int x_25), (7, 2, a_22, .ref a_23), (10, 0, a0_, .ref a_22), (4, 15, a1_, .int x_4), (10, 1, a0_, .ref q0_), (1, 0, q0_, .ref q1_), (1, 1, q0_, .ref q2_), (4, 0, a1_, .int w64_4_0_a1_), (1, 12, q0_, .int w64_1_12_q0_), (1, 5, q0_, .int w64_1_5_q0_), (7, 1, q1_, .int y5_), (4, 6, a1_, .int y6_), (4, 14, a1_, .int y7_)] → cOK f q1_ → lv_has ls 11 [(9, .int v64_9), (8, .int r_19), (7, .int v28_7), (6, .int v28_6), (4, .long x_7), (0, .ref a0_), (1, .ref a1_), (2, .int x2_), (3, .int x3_)] → W p l e ({ frames := 3, cells := 0, slots := 0, locals := 73 } : Room) s m [.ref a0_, .ref a1_, .int x2_, .int x3_].toArray below meth c H locs 0 0 Q (F0 m 64 ls []) := by
                intro n64
                induction n64 with
                | zero =>
                  intro v64_9 w64_4_0_a1_ w64_1_12_q0_ w64_1_5_q0_ bv64_9 bw64_4_0_a1_ bw64_1_12_q0_ bw64_1_5_q0_ hm64 f H locs ls g hG64_c_q1_ hl
                  exact absurd hm64 (by have h9_v64_9 := bv64_9; unfold bd at h9_v64_9; have h9_w64_4_0_a1_ := bw64_4_0_a1_; unfold bd at h9_w64_4_0_a1_; have h9_w64_1_12_q0_ := bw64_1_12_q0_; unfold bd at h9_w64_1_12_q0_; have h9_w64_1_5_q0_ := bw64_1_5_q0_; unfold bd at h9_w64_1_5_q0_; omega)
                | succ n64 ih64 =>
                  intro v64_9 w64_4_0_a1_ w64_1_12_q0_ w64_1_5_q0_ bv64_9 bw64_4_0_a1_ bw64_1_12_q0_ bw64_1_5_q0_ hm64 f H locs ls g hG64_c_q1_ hl
                  refine lv_iload hx hb dX10_askThrows_64 (lv_at hl 0 rfl) ?_
                  refine lv_iload hx hb dX10_askThrows_66 (lv_at hl 1 rfl) ?_
                  refine lv_icmp_gt (tgt := 152) hx hb dX10_askThrows_68 (by decide) (fun c_27 => ?_) (fun c_27 => ?_)
                  · have fc_27 := lt_f c_27
                    refine lv_aload_n hx hb dX10_askThrows_152 rfl (lv_at hl 5 rfl) ?_
                    refine lv_iload hx hb dX10_askThrows_153 (lv_at hl 3 rfl) ?_
                    have go_ := g
                    refine g_calli (va_runV (As := [.int v28_6]) (rest := []) ⟨hx, hb, hml, hown, hts⟩ (r_X10_upwards l dC dI L kd tys f H.size g.2.2.2.1 a0_ ma0_ ka0_ v28_6) (cwV 1 hts (gV_ t_1625 t_1627 t_72 t_194 t_1628) rfl rfl rfl (by decide +kernel) ⟨(Nat.le_of_ble_eq_true rfl), (Nat.le_of_ble_eq_true rfl)⟩) (pre3V g hK ma0_ ka0_ (by decide) (q := (RX10, TX10, 10)) rfl) rfl rfl hl.1 rfl (lv_room (Nat.le_of_ble_eq_true rfl)) dX10_askThrows_155 ⟨(Nat.le_of_ble_eq_true rfl), (Nat.le_of_ble_eq_true rfl)⟩) g hK (by decide) (by decide) (fx' := [(6, 11, a_24, .int x_25), (7, 2, a_22, .ref a_23), (10, 0, a0_, .ref a_22), (4, 15, a1_, .int x_4), (10, 1, a0_, .ref q0_), (1, 0, q0_, .ref q1_), (1, 1, q0_, .ref q2_), (4, 0, a1_, .int w64_4_0_a1_), (1, 12, q0_, .int w64_1_12_q0_), (1, 5, q0_, .int w64_1_5_q0_), (7, 1, q1_, .int y5_), (4, 6, a1_, .int y6_), (4, 14, a1_, .int y7_)]) rfl (fun r_28 fr_28 H locs hp hMr_28 g => ?_)
                    obtain ⟨h_29, -⟩ := hp
                    have hG_30 := cOK.frame hMr_28 go_.2.2.2.1 mq1_ kq1_ (by decide) (by decide) hG64_c_q1_
                    refine lv_istore (lv' := [(6, .int r_28), (9, .int v64_9), (8, .int r_19), (7, .int v28_7), (4, .long x_7), (0, .ref a0_), (1, .ref a1_), (2, .int x2_), (3, .int x3_)]) hx hb dX10_askThrows_158 hl (by decide) rfl (fun ls hl => ?_)
                    have kb_1 : bd 1 1 (1 : Int32) := ⟨by decide, by decide⟩
                    obtain ⟨y_31, ey_31⟩ : ∃ z : Int32, z = v28_7 + 1 := ⟨_, rfl⟩
                    refine lv_iinc (v := y_31) (lv' := [(7, .int y_31), (6, .int r_28), (9, .int v64_9), (8, .int r_19), (4, .long x_7), (0, .ref a0_), (1, .ref a1_), (2, .int x2_), (3, .int x3_)]) hx hb dX10_askThrows_160 hl (k := 3) rfl (by rw [ey_31]; rfl) (by decide) rfl (fun ls hl => ?_)
                    have ty_31 := add_bd ey_31 b_13 kb_1 (by decide)
                    have b_32 : bd 1 8 y_31 := add_rg ty_31 b_13 kb_1 (by decide)
                    refine lv_goto (tgt := 28) hx hb dX10_askThrows_163 (by decide) ?_
                    have hl9 := lv_sub hl [0, 1, 4, 5, 6, 7, 8] (by rfl : lv_pick [(7, .int y_31), (6, .int r_28), (9, .int v64_9), (8, .int r_19), (4, .long x_7), (0, .ref a0_), (1, .ref a1_), (2, .int x2_), (3, .int x3_)] [0, 1, 4, 5, 6, 7, 8] = [(7, .int y_31), (6, .int r_28), (4, .long x_7), (0, .ref a0_), (1, .ref a1_), (2, .int x2_), (3, .int x3_)])
                    have g9 := g.sub (fx' := [(4, 15, a1_, .int x_4), (10, 1, a0_, .ref q0_), (1, 0, q0_, .ref q1_), (1, 1, q0_, .ref q2_), (4, 0, a1_, .int w64_4_0_a1_), (1, 12, q0_, .int w64_1_12_q0_), (1, 5, q0_, .int w64_1_5_q0_), (7, 1, q1_, .int y5_), (4, 6, a1_, .int y6_), (4, 14, a1_, .int y7_)]) [3, 4, 5, 6, 7, 8, 9, 10, 11, 12] rfl
                    exact ih28  y_31 r_28 w64_4_0_a1_ w64_1_12_q0_ w64_1_5_q0_ (bd_sub b_32 (by decide)) h_29 bw64_4_0_a1_ bw64_1_12_q0_ bw64_1_5_q0_ (by have h9_0 := b_32; unfold bd at h9_0; have h9_1 := bv28_6; unfold bd at h9_1; have h9_2 := bv28_7; unfold bd at h9_2; have h9_3 := bw28_1_12_q0_; unfold bd at h9_3; have h9_4 := bw28_1_5_q0_; unfold bd at h9_4; have h9_5 := bw28_4_0_a1_; unfold bd at h9_5; have h9_6 := bw64_1_12_q0_; unfold bd at h9_6; have h9_7 := bw64_1_5_q0_; unfold bd at h9_7; have h9_8 := bw64_4_0_a1_; unfold bd at h9_8; have h9_9 := h_29; unfold bd at h9_9; have h9_10 := kb_0; unfold bd at h9_10; have h9_11 := kb_1; unfold bd at h9_11; have h9_12 := kb_2; unfold bd at h9_12; have h9_13 := kb_8; unfold bd at h9_13; have h9_14 := kb_m1; unfold bd at h9_14; omega) _ _ _ _ g9 hG_30 hl9
                  · have fc_27 := nlt_f c_27
                    have b_33 : bd 0 499 v64_9 := leL fc_27 bv64_9 h_20 (by decide)
                    have b_34 : bd 0 499 r_19 := leR fc_27 bv64_9 h_20 (by decide)
                    refine lv_aload_n hx hb dX10_askThrows_71 rfl (lv_at hl 5 rfl) ?_
                    refine g_getk (C := RX10) (T := TX10) (N := 10) hx hb hts (mc_ inX10) hown hK g rfl 0 (by decide) rfl (hts _ (List.mem_cons_of_mem _ t_912)) (fun _ h9 => h9) 2 rfl dX10_askThrows_72 ?_
                    refine g_getr (K := 140) (C := RX7) (T := TX7) (N := 19) hx hb hts (mc_ inX7) hown hK g ma_22 ka_22 (by decide) rfl 7 (by decide) rfl (hts _ (List.mem_cons_of_mem _ t_650)) (fun _ h9 => h9) rfl dX10_askThrows_75 (fun a_35 ma_35 ka_35 g => ?_)
                    refine lv_iload hx hb dX10_askThrows_78 (lv_at hl 0 rfl) ?_
                    refine g_iald hx hb hK g ma_35 ka_35 (by decide) rfl (in_bd b_33 (by decide)) dX10_askThrows_80 (fun x_36 bx_36 cx_36 => ?_)
                    refine lv_iconst (v := 4) hx hb dX10_askThrows_81 (by decide) ?_
                    have kb_4 : bd 4 4 (4 : Int32) := ⟨by decide, by decide⟩
                    refine lv_icmp_ne (tgt := 105) hx hb dX10_askThrows_82 (by decide) (fun c_37 => ?_) (fun c_37 => ?_)
                    · have fc_37 := neq_f c_37
                      refine lv_iconst (v := 0) hx hb dX10_askThrows_105 (by decide) ?_
                      refine lv_istore (lv' := [(10, .int 0), (9, .int v64_9), (8, .int r_19), (7, .int v28_7), (6, .int v28_6), (4, .long x_7), (0, .ref a0_), (1, .ref a1_), (2, .int x2_), (3, .int x3_)]) hx hb dX10_askThrows_106 hl (by decide) rfl (fun ls hl => ?_)
                      refine lv_iload hx hb dX10_askThrows_108 (lv_at hl 0 rfl) ?_
                      refine lv_if_eq (tgt := 146) hx hb dX10_askThrows_110 (by decide) (fun c_ => ?_) (fun c_ => absurd (by decide) c_)
                      have kb_1 : bd 1 1 (1 : Int32) := ⟨by decide, by decide⟩
                      obtain ⟨y_38, ey_38⟩ : ∃ z : Int32, z = v64_9 + 1 := ⟨_, rfl⟩
                      refine lv_iinc (v := y_38) (lv' := [(9, .int y_38), (10, .int 0), (8, .int r_19), (7, .int v28_7), (6, .int v28_6), (4, .long x_7), (0, .ref a0_), (1, .ref a1_), (2, .int x2_), (3, .int x3_)]) hx hb dX10_askThrows_146 hl (k := 1) rfl (by rw [ey_38]; rfl) (by decide) rfl (fun ls hl => ?_)
                      have ty_38 := add_bd ey_38 b_33 kb_1 (by decide)
                      have b_39 : bd 1 500 y_38 := add_rg ty_38 b_33 kb_1 (by decide)
                      refine lv_goto (tgt := 64) hx hb dX10_askThrows_149 (by decide) ?_
                      have hl9 := lv_sub hl [0, 2, 3, 4, 5, 6, 7, 8, 9] (by rfl : lv_pick [(9, .int y_38), (10, .int 0), (8, .int r_19), (7, .int v28_7), (6, .int v28_6), (4, .long x_7), (0, .ref a0_), (1, .ref a1_), (2, .int x2_), (3, .int x3_)] [0, 2, 3, 4, 5, 6, 7, 8, 9] = [(9, .int y_38), (8, .int r_19), (7, .int v28_7), (6, .int v28_6), (4, .long x_7), (0, .ref a0_), (1, .ref a1_), (2, .int x2_), (3, .int x3_)])
                      have g9 := g.sub (fx' := [(6, 11, a_24, .int x_25), (7, 2, a_22, .ref a_23), (10, 0, a0_, .ref a_22), (4, 15, a1_, .int x_4), (10, 1, a0_, .ref q0_), (1, 0, q0_, .ref q1_), (1, 1, q0_, .ref q2_), (4, 0, a1_, .int w64_4_0_a1_), (1, 12, q0_, .int w64_1_12_q0_), (1, 5, q0_, .int w64_1_5_q0_), (7, 1, q1_, .int y5_), (4, 6, a1_, .int y6_), (4, 14, a1_, .int y7_)]) [1, 2, 3, 4, 5, 6, 7, 8, 9, 10, 11, 12, 13] rfl
                      exact ih64  y_38 w64_4_0_a1_ w64_1_12_q0_ w64_1_5_q0_ (bd_sub b_39 (by decide)) bw64_4_0_a1_ bw64_1_12_q0_ bw64_1_5_q0_ (by have h9_0 := b_39; unfold bd at h9_0; have h9_1 := bv64_9; unfold bd at h9_1; have h9_2 := bw64_1_12_q0_; unfold bd at h9_2; have h9_3 := bw64_1_5_q0_; unfold bd at h9_3; have h9_4 := bw64_4_0_a1_; unfold bd at h9_4; have h9_5 := kb_0; unfold bd at h9_5; have h9_6 := kb_1; unfold bd at h9_6; have h9_7 := kb_2; unfold bd at h9_7; have h9_8 := kb_4; unfold bd at h9_8; have h9_9 := kb_8; unfold bd at h9_9; have h9_10 := kb_m1; unfold bd at h9_10; omega) _ _ _ _ g9 hG64_c_q1_ hl9
                    · have fc_37 := eq_f c_37
                      have b_40 : bd 4 4 x_36 := eqX fc_37 (bdT x_36) kb_4 (by decide)
                      refine lv_aload_n hx hb dX10_askThrows_85 rfl (lv_at hl 5 rfl) ?_
                      refine g_getk (C := RX10) (T := TX10) (N := 10) hx hb hts (mc_ inX10) hown hK g rfl 0 (by decide) rfl (hts _ (List.mem_cons_of_mem _ t_912)) (fun _ h9 => h9) 3 rfl dX10_askThrows_86 ?_
                      refine g_getr (K := 145) (C := RX7) (T := TX7) (N := 19) hx hb hts (mc_ inX7) hown hK g ma_22 ka_22 (by decide) rfl 12 (by decide) rfl (hts _ (List.mem_cons_of_mem _ t_665)) (fun _ h9 => h9) rfl dX10_askThrows_89 (fun a_41 ma_41 ka_41 g => ?_)
                      refine lv_iload hx hb dX10_askThrows_92 (lv_at hl 0 rfl) ?_
                      refine g_lald hx hb hK g ma_41 ka_41 (by decide) rfl (in_bd b_33 (by decide)) dX10_askThrows_94 (fun x_42 => ?_)
                      refine lv_lload hx hb dX10_askThrows_95 (lv_at hl 4 rfl) ?_
                      refine W.lcmp hx hb dX10_askThrows_97 ?_
                      refine lv_if_ne (tgt := 105) hx hb dX10_askThrows_98 (by decide) (fun c_43 => ?_) (fun c_43 => ?_)
                      · refine lv_iconst (v := 0) hx hb dX10_askThrows_105 (by decide) ?_
                        refine lv_istore (lv' := [(10, .int 0), (9, .int v64_9), (8, .int r_19), (7, .int v28_7), (6, .int v28_6), (4, .long x_7), (0, .ref a0_), (1, .ref a1_), (2, .int x2_), (3, .int x3_)]) hx hb dX10_askThrows_106 hl (by decide) rfl (fun ls hl => ?_)
                        refine lv_iload hx hb dX10_askThrows_108 (lv_at hl 0 rfl) ?_
                        refine lv_if_eq (tgt := 146) hx hb dX10_askThrows_110 (by decide) (fun c_ => ?_) (fun c_ => absurd (by decide) c_)
                        have kb_1 : bd 1 1 (1 : Int32) := ⟨by decide, by decide⟩
                        obtain ⟨y_44, ey_44⟩ : ∃ z : Int32, z = v64_9 + 1 := ⟨_, rfl⟩
                        refine lv_iinc (v := y_44) (lv' := [(9, .int y_44), (10, .int 0), (8, .int r_19), (7, .int v28_7), (6, .int v28_6), (4, .long x_7), (0, .ref a0_), (1, .ref a1_), (2, .int x2_), (3, .int x3_)]) hx hb dX10_askThrows_146 hl (k := 1) rfl (by rw [ey_44]; rfl) (by decide) rfl (fun ls hl => ?_)
                        have ty_44 := add_bd ey_44 b_33 kb_1 (by decide)
                        have b_45 : bd 1 500 y_44 := add_rg ty_44 b_33 kb_1 (by decide)
                        refine lv_goto (tgt := 64) hx hb dX10_askThrows_149 (by decide) ?_
                        have hl9 := lv_sub hl [0, 2, 3, 4, 5, 6, 7, 8, 9] (by rfl : lv_pick [(9, .int y_44), (10, .int 0), (8, .int r_19), (7, .int v28_7), (6, .int v28_6), (4, .long x_7), (0, .ref a0_), (1, .ref a1_), (2, .int x2_), (3, .int x3_)] [0, 2, 3, 4, 5, 6, 7, 8, 9] = [(9, .int y_44), (8, .int r_19), (7, .int v28_7), (6, .int v28_6), (4, .long x_7), (0, .ref a0_), (1, .ref a1_), (2, .int x2_), (3, .int x3_)])
                        have g9 := g.sub (fx' := [(6, 11, a_24, .int x_25), (7, 2, a_22, .ref a_23), (10, 0, a0_, .ref a_22), (4, 15, a1_, .int x_4), (10, 1, a0_, .ref q0_), (1, 0, q0_, .ref q1_), (1, 1, q0_, .ref q2_), (4, 0, a1_, .int w64_4_0_a1_), (1, 12, q0_, .int w64_1_12_q0_), (1, 5, q0_, .int w64_1_5_q0_), (7, 1, q1_, .int y5_), (4, 6, a1_, .int y6_), (4, 14, a1_, .int y7_)]) [2, 3, 4, 5, 6, 7, 8, 9, 10, 11, 12, 13, 14] rfl
                        exact ih64  y_44 w64_4_0_a1_ w64_1_12_q0_ w64_1_5_q0_ (bd_sub b_45 (by decide)) bw64_4_0_a1_ bw64_1_12_q0_ bw64_1_5_q0_ (by have h9_0 := b_45; unfold bd at h9_0; have h9_1 := bv64_9; unfold bd at h9_1; have h9_2 := bw64_1_12_q0_; unfold bd at h9_2; have h9_3 := bw64_1_5_q0_; unfold bd at h9_3; have h9_4 := bw64_4_0_a1_; unfold bd at h9_4; have h9_5 := kb_0; unfold bd at h9_5; have h9_6 := kb_1; unfold bd at h9_6; have h9_7 := kb_2; unfold bd at h9_7; have h9_8 := kb_4; unfold bd at h9_8; have h9_9 := kb_8; unfold bd at h9_9; have h9_10 := kb_m1; unfold bd at h9_10; omega) _ _ _ _ g9 hG64_c_q1_ hl9
                      · refine lv_iconst (v := 1) hx hb dX10_askThrows_101 (by decide) ?_
                        refine lv_goto (tgt := 106) hx hb dX10_askThrows_102 (by decide) ?_
                        refine lv_istore (lv' := [(10, .int 1), (9, .int v64_9), (8, .int r_19), (7, .int v28_7), (6, .int v28_6), (4, .long x_7), (0, .ref a0_), (1, .ref a1_), (2, .int x2_), (3, .int x3_)]) hx hb dX10_askThrows_106 hl (by decide) rfl (fun ls hl => ?_)
                        refine lv_iload hx hb dX10_askThrows_108 (lv_at hl 0 rfl) ?_
                        refine lv_if_eq (tgt := 146) hx hb dX10_askThrows_110 (by decide) (fun c_ => absurd c_ (by decide)) (fun c_ => ?_)
                        refine lv_aload_n hx hb dX10_askThrows_113 rfl (lv_at hl 6 rfl) ?_
                        refine g_getk (C := RX10) (T := TX10) (N := 10) hx hb hts (mc_ inX10) hown hK g rfl 0 (by decide) rfl (hts _ (List.mem_cons_of_mem _ t_912)) (fun _ h9 => h9) 4 rfl dX10_askThrows_114 ?_
                        refine g_getr (K := 141) (C := RX7) (T := TX7) (N := 19) hx hb hts (mc_ inX7) hown hK g ma_22 ka_22 (by decide) rfl 8 (by decide) rfl (hts _ (List.mem_cons_of_mem _ t_652)) (fun _ h9 => h9) rfl dX10_askThrows_117 (fun a_46 ma_46 ka_46 g => ?_)
                        refine lv_iload hx hb dX10_askThrows_120 (lv_at hl 1 rfl) ?_
                        refine g_iald hx hb hK g ma_46 ka_46 (by decide) rfl (in_bd b_33 (by decide)) dX10_askThrows_122 (fun x_47 bx_47 cx_47 => ?_)
                        refine lv_iconst (v := (-1)) hx hb dX10_askThrows_123 (by decide) ?_
                        refine lv_icmp_eq (tgt := 145) hx hb dX10_askThrows_124 (by decide) (fun c_48 => ?_) (fun c_48 => ?_)
                        · have fc_48 := eq_f c_48
                          have b_49 : bd (-1) (-1) x_47 := eqX fc_48 (bdT x_47) kb_m1 (by decide)
                          subst hQ
                          exact W.vret hx hb hr (fun t ht hW => ⟨⟨_, rfl, trivial, q3_of g hK ht hW⟩, g.2.2.1.F ht⟩) g.2.2.1.2.2 dX10_askThrows_145
                        · have fc_48 := neq_f c_48
                          refine lv_aload_n hx hb dX10_askThrows_127 rfl (lv_at hl 6 rfl) ?_
                          refine lv_aload_n hx hb dX10_askThrows_128 rfl (lv_at hl 7 rfl) ?_
                          refine lv_iload hx hb dX10_askThrows_129 (lv_at hl 1 rfl) ?_
                          refine lv_iload_n hx hb dX10_askThrows_131 rfl (lv_at hl 8 rfl) ?_
                          have go_ := g
                          refine g_calli (va_runV (As := [.ref a1_, .int v64_9, .int x2_]) (rest := []) ⟨hx, hb, hml, hown, hts⟩ (r_X10_holds_16 l dC dI L kd tys f H.size g.2.2.2.1 a0_ ma0_ ka0_ a1_ ma1_ ka1_ v64_9 b_33 x2_ bx2_ q0_ mq0_ kq0_ q1_ mq1_ kq1_ q2_ mq2_ kq2_ x_4 b_6 w64_4_0_a1_ bw64_4_0_a1_ y5_ by5_ y6_ by6_ y7_ by7_ hG64_c_q1_ (g.fcts [7, 8, 9, 6, 10, 13, 14, 15] rfl)) (cwV 3 hts (gV_ t_1547 t_1549 t_57 t_194 t_1550) rfl rfl rfl (by decide +kernel) ⟨(Nat.le_of_ble_eq_true rfl), (Nat.le_of_ble_eq_true rfl)⟩) (pre3V g hK ma0_ ka0_ (by decide) (q := (RX10, TX10, 10)) rfl) rfl rfl hl.1 rfl (lv_room (Nat.le_of_ble_eq_true rfl)) dX10_askThrows_132 ⟨(Nat.le_of_ble_eq_true rfl), (Nat.le_of_ble_eq_true rfl)⟩) g hK (by decide) (by decide) (fx' := [(7, 8, a_22, .ref a_46), (7, 12, a_22, .ref a_41), (7, 7, a_22, .ref a_35), (6, 11, a_24, .int x_25), (7, 2, a_22, .ref a_23), (10, 0, a0_, .ref a_22), (4, 15, a1_, .int x_4), (10, 1, a0_, .ref q0_), (1, 0, q0_, .ref q1_), (1, 1, q0_, .ref q2_), (7, 1, q1_, .int y5_), (4, 6, a1_, .int y6_), (4, 14, a1_, .int y7_)]) rfl (fun r_50 fr_50 H locs hp hMr_50 g => ?_)
                          rcases hp with ⟨h_51, hF_52⟩ | ⟨h_53, x_54, h_55, x_56, h_57, hF_58⟩
                          · have hG_59 := cOK.frame hMr_50 go_.2.2.2.1 mq1_ kq1_ (by decide) (by decide) hG64_c_q1_
                            obtain rfl : r_50 = 0 := h_51
                            have g := g.more hF_52
                            refine lv_if_ne (tgt := 145) hx hb dX10_askThrows_135 (by decide) (fun c_ => absurd c_ (by decide)) (fun c_ => ?_)
                            refine lv_aload_n hx hb dX10_askThrows_138 rfl (lv_at hl 7 rfl) ?_
                            refine g_geti (C := RX4) (T := TX4) (N := 17) hx hb hts (mc_ inX4) hown hK g ma1_ ka1_ (by decide) rfl 0 (by decide) rfl (hts _ (List.mem_cons_of_mem _ t_837)) (fun _ h9 => h9) rfl dX10_askThrows_139 (fun x_60 bx_60 g => ?_)
                            refine lv_if_eq (tgt := 146) hx hb dX10_askThrows_142 (by decide) (fun c_61 => ?_) (fun c_61 => ?_)
                            · have fc_61 := eq_f c_61
                              have b_62 : bd 0 0 x_60 := eqX fc_61 (bdT x_60) kb_0 (by decide)
                              have kb_1 : bd 1 1 (1 : Int32) := ⟨by decide, by decide⟩
                              obtain ⟨y_63, ey_63⟩ : ∃ z : Int32, z = v64_9 + 1 := ⟨_, rfl⟩
                              refine lv_iinc (v := y_63) (lv' := [(9, .int y_63), (10, .int 1), (8, .int r_19), (7, .int v28_7), (6, .int v28_6), (4, .long x_7), (0, .ref a0_), (1, .ref a1_), (2, .int x2_), (3, .int x3_)]) hx hb dX10_askThrows_146 hl (k := 1) rfl (by rw [ey_63]; rfl) (by decide) rfl (fun ls hl => ?_)
                              have ty_63 := add_bd ey_63 b_33 kb_1 (by decide)
                              have b_64 : bd 1 500 y_63 := add_rg ty_63 b_33 kb_1 (by decide)
                              refine lv_goto (tgt := 64) hx hb dX10_askThrows_149 (by decide) ?_
                              have hl9 := lv_sub hl [0, 2, 3, 4, 5, 6, 7, 8, 9] (by rfl : lv_pick [(9, .int y_63), (10, .int 1), (8, .int r_19), (7, .int v28_7), (6, .int v28_6), (4, .long x_7), (0, .ref a0_), (1, .ref a1_), (2, .int x2_), (3, .int x3_)] [0, 2, 3, 4, 5, 6, 7, 8, 9] = [(9, .int y_63), (8, .int r_19), (7, .int v28_7), (6, .int v28_6), (4, .long x_7), (0, .ref a0_), (1, .ref a1_), (2, .int x2_), (3, .int x3_)])
                              have g9 := g.sub (fx' := [(6, 11, a_24, .int x_25), (7, 2, a_22, .ref a_23), (10, 0, a0_, .ref a_22), (4, 15, a1_, .int x_4), (10, 1, a0_, .ref q0_), (1, 0, q0_, .ref q1_), (1, 1, q0_, .ref q2_), (4, 0, a1_, .int x_60), (1, 12, q0_, .int 0), (1, 5, q0_, .int 1), (7, 1, q1_, .int y5_), (4, 6, a1_, .int y6_), (4, 14, a1_, .int y7_)]) [6, 7, 8, 9, 10, 11, 12, 0, 1, 2, 13, 14, 15] rfl
                              exact ih64  y_63 x_60 0 1 (bd_sub b_64 (by decide)) b_62 (bd_sub kb_0 (by decide)) (bd_sub kb_1 (by decide)) (by have h9_0 := b_62; unfold bd at h9_0; have h9_1 := b_64; unfold bd at h9_1; have h9_2 := bv64_9; unfold bd at h9_2; have h9_3 := bw64_1_12_q0_; unfold bd at h9_3; have h9_4 := bw64_1_5_q0_; unfold bd at h9_4; have h9_5 := bw64_4_0_a1_; unfold bd at h9_5; have h9_6 := kb_0; unfold bd at h9_6; have h9_7 := kb_1; unfold bd at h9_7; have h9_8 := kb_2; unfold bd at h9_8; have h9_9 := kb_4; unfold bd at h9_9; have h9_10 := kb_8; unfold bd at h9_10; have h9_11 := kb_m1; unfold bd at h9_11; omega) _ _ _ _ g9 hG_59 hl9
                            · have fc_61 := neq_f c_61
                              subst hQ
                              exact W.vret hx hb hr (fun t ht hW => ⟨⟨_, rfl, trivial, q3_of g hK ht hW⟩, g.2.2.1.F ht⟩) g.2.2.1.2.2 dX10_askThrows_145
                          · have hG_65 := cOK.frame hMr_50 go_.2.2.2.1 mq1_ kq1_ (by decide) (by decide) hG64_c_q1_
                            obtain rfl : r_50 = 1 := h_53
                            have g := g.more hF_58
                            refine lv_if_ne (tgt := 145) hx hb dX10_askThrows_135 (by decide) (fun c_ => ?_) (fun c_ => absurd c_ (by decide))
                            subst hQ
                            exact W.vret hx hb hr (fun t ht hW => ⟨⟨_, rfl, trivial, q3_of g hK ht hW⟩, g.2.2.1.F ht⟩) g.2.2.1.2.2 dX10_askThrows_145
              have hl9 := lv_sub hl [0, 1, 2, 3, 4, 5, 6, 7, 8] (by rfl : lv_pick [(9, .int x_25), (8, .int r_19), (7, .int v28_7), (6, .int v28_6), (4, .long x_7), (0, .ref a0_), (1, .ref a1_), (2, .int x2_), (3, .int x3_)] [0, 1, 2, 3, 4, 5, 6, 7, 8] = [(9, .int x_25), (8, .int r_19), (7, .int v28_7), (6, .int v28_6), (4, .long x_7), (0, .ref a0_), (1, .ref a1_), (2, .int x2_), (3, .int x3_)])
              have g9 := g.sub (fx' := [(6, 11, a_24, .int x_25), (7, 2, a_22, .ref a_23), (10, 0, a0_, .ref a_22), (4, 15, a1_, .int x_4), (10, 1, a0_, .ref q0_), (1, 0, q0_, .ref q1_), (1, 1, q0_, .ref q2_), (4, 0, a1_, .int w28_4_0_a1_), (1, 12, q0_, .int w28_1_12_q0_), (1, 5, q0_, .int w28_1_5_q0_), (7, 1, q1_, .int y5_), (4, 6, a1_, .int y6_), (4, 14, a1_, .int y7_)]) [0, 1, 2, 3, 4, 5, 6, 7, 8, 9, 10, 11, 12] rfl
              exact loop_26 (1003) x_25 w28_4_0_a1_ w28_1_12_q0_ w28_1_5_q0_ bx_25 bw28_4_0_a1_ bw28_1_12_q0_ bw28_1_5_q0_ (by have h9_0 := bw28_1_12_q0_; unfold bd at h9_0; have h9_1 := bw28_1_5_q0_; unfold bd at h9_1; have h9_2 := bw28_4_0_a1_; unfold bd at h9_2; have h9_3 := bx_25; unfold bd at h9_3; have h9_4 := kb_0; unfold bd at h9_4; have h9_5 := kb_2; unfold bd at h9_5; have h9_6 := kb_8; unfold bd at h9_6; have h9_7 := kb_m1; unfold bd at h9_7; omega) _ _ _ _ g9 hG_21 hl9
      have hl9 := lv_sub hl [0, 1, 2, 3, 4, 5, 6] (by rfl : lv_pick [(7, .int 0), (6, .int x3_), (4, .long x_7), (0, .ref a0_), (1, .ref a1_), (2, .int x2_), (3, .int x3_)] [0, 1, 2, 3, 4, 5, 6] = [(7, .int 0), (6, .int x3_), (4, .long x_7), (0, .ref a0_), (1, .ref a1_), (2, .int x2_), (3, .int x3_)])
      have g9 := g.sub (fx' := [(4, 15, a1_, .int x_4), (10, 1, a0_, .ref q0_), (1, 0, q0_, .ref q1_), (1, 1, q0_, .ref q2_), (4, 0, a1_, .int y0_), (1, 12, q0_, .int y2_), (1, 5, q0_, .int y4_), (7, 1, q1_, .int y5_), (4, 6, a1_, .int y6_), (4, 14, a1_, .int y7_)]) [1, 2, 3, 4, 5, 7, 9, 10, 11, 12] rfl
      exact loop_8 (19) 0 x3_ y0_ y2_ y4_ (bd_sub kb_0 (by decide)) (bd_sub bx3_ (by decide)) b_3 (bd_sub by2_ (by decide)) (bd_sub by4_ (by decide)) (by have h9_0 := b_3; unfold bd at h9_0; have h9_1 := bx3_; unfold bd at h9_1; have h9_2 := by2_; unfold bd at h9_2; have h9_3 := by4_; unfold bd at h9_3; have h9_4 := kb_0; unfold bd at h9_4; have h9_5 := kb_2; unfold bd at h9_5; omega) _ _ _ _ g9 hGcq1_ hl9
    · have fc_5 := neq_f c_5
      subst hQ
      exact W.vret hx hb hr (fun t ht hW => ⟨⟨_, rfl, trivial, q3_of g hK ht hW⟩, g.2.2.1.F ht⟩) g.2.2.1.2.2 dX10_askThrows_15
set_option maxHeartbeats 4000000 in
set_option maxRecDepth 100000 in
theorem r_X10_findChanges_2 (l : Launch) (dC : Nat → ClassId) (dI : Nat → Nat → Nat) (L : List Nat) (kd : Nat → Nat) (tys : List (ClassId × FieldType)) (f0 : Nat → va_E) (sz : Nat) (hWT : WT L kd tys f0) (a0_ : Nat) (ma0_ : a0_ ∈ L) (ka0_ : kd a0_ = 10) (a1_ : Nat) (ma1_ : a1_ ∈ L) (ka1_ : kd a1_ = 4) (x2_ : Int32) (bx2_ : bd 0 2 x2_) (x3_ : Int32) (bx3_ : bd 0 95 x3_) (y0_ : Int32) (by0_ : bd 1 3 y0_) (y1_ : Int32) (by1_ : bd 0 9 y1_) (hfx : Fs L kd f0 [(4, 6, a1_, .int y0_), (4, 14, a1_, .int y1_)]) : Met l yX10_findChanges (.code yX10_findChanges cX10_findChanges 7 none :: lw_g) ({ frames := 3, cells := 0, slots := 0, locals := 60 }) (va_Pc [.ref a0_, .ref a1_, .int x2_, .int x3_] (P3 (dC, dI) L tys f0 sz)) (va_Qv (fun (f : Nat → va_E) => (True)) (Q3 (dC, dI) L kd tys [(4, 0), (4, 3), (4, 4)] [] f0 sz) (pA L sz)) 0 0 (pA L sz) := by
  refine Met.ofW (cc := cX10_findChanges) (maxL := 7) (ret := none) (by decide) rfl ?_
  intro p e s m args below meth c s₁ B hml hv
  obtain ⟨rfl, hsz, hP, hK, hD0⟩ := hv
  have hx := B.exec
  have hb := B.bytes
  have hr := B.returns
  have hts := atoms_spec (ws := (.code yX10_findChanges cX10_findChanges 7 none :: lw_g)) B.pre
  have hown : s.vm.findClass RX10 = some m.cls := findClass_of_methodNamed B.named
  have hlocks := B.notSynchronized
  subst hsz
  have g : G3 (dC, dI) L kd tys s f0 [(4, 0), (4, 3), (4, 4)] [] f0 s.heap [] [(4, 6, a1_, .int y0_), (4, 14, a1_, .int y1_)] := G3.start hP hD0 hWT hfx
  have hl := lv_entry ([.ref a0_, .ref a1_, .int x2_, .int x3_]) (n := 7) (Nat.le_of_ble_eq_true rfl)
  rw [lg_entry_eq]
  generalize (lg_sl ([.ref a0_, .ref a1_, .int x2_, .int x3_]) ++ List.replicate (7 - (lg_sl ([.ref a0_, .ref a1_, .int x2_, .int x3_])).length) Slot.unset).toArray = ls at hl ⊢
  have hl : lv_has ls 7 [(0, .ref a0_), (1, .ref a1_), (2, .int x2_), (3, .int x3_)] := hl
  refine W_q (fun Q hQ => ?_)
  refine lv_aload_n hx hb dX10_findChanges_0 rfl (lv_at hl 1 rfl) ?_
  refine g_geti (C := RX4) (T := TX4) (N := 17) hx hb hts (mc_ inX4) hown hK g ma1_ ka1_ (by decide) rfl 0 (by decide) rfl (hts _ (List.mem_cons_of_mem _ t_837)) (fun _ h9 => h9) rfl dX10_findChanges_1 (fun x_1 bx_1 g => ?_)
  have kb_0 : bd 0 0 (0 : Int32) := ⟨by decide, by decide⟩
  refine lv_if_eq (tgt := 8) hx hb dX10_findChanges_4 (by decide) (fun c_2 => ?_) (fun c_2 => ?_)
  · have fc_2 := eq_f c_2
    have b_3 : bd 0 0 x_1 := eqX fc_2 (bdT x_1) kb_0 (by decide)
    refine lv_aload_n hx hb dX10_findChanges_8 rfl (lv_at hl 0 rfl) ?_
    refine g_getr (K := 7) (C := RX10) (T := TX10) (N := 10) hx hb hts (mc_ inX10) hown hK g ma0_ ka0_ (by decide) rfl 0 (by decide) rfl (hts _ (List.mem_cons_of_mem _ t_912)) (fun _ h9 => h9) rfl dX10_findChanges_9 (fun a_4 ma_4 ka_4 g => ?_)
    refine g_getr (K := 136) (C := RX7) (T := TX7) (N := 19) hx hb hts (mc_ inX7) hown hK g ma_4 ka_4 (by decide) rfl 0 (by decide) rfl (hts _ (List.mem_cons_of_mem _ t_624)) (fun _ h9 => h9) rfl dX10_findChanges_12 (fun a_5 ma_5 ka_5 g => ?_)
    refine lv_aload_n hx hb dX10_findChanges_15 rfl (lv_at hl 1 rfl) ?_
    refine g_getr (K := 126) (C := RX4) (T := TX4) (N := 17) hx hb hts (mc_ inX4) hown hK g ma1_ ka1_ (by decide) rfl 7 (by decide) rfl (hts _ (List.mem_cons_of_mem _ t_854)) (fun _ h9 => h9) rfl dX10_findChanges_16 (fun a_6 ma_6 ka_6 g => ?_)
    refine lv_iload_n hx hb dX10_findChanges_19 rfl (lv_at hl 2 rfl) ?_
    refine g_iald hx hb hK g ma_6 ka_6 (by decide) rfl (in_bd bx2_ (by decide)) dX10_findChanges_20 (fun x_7 bx_7 cx_7 => ?_)
    refine g_aald hx hb hK g ma_5 ka_5 (by decide) rfl (by decide) (in_bd bx_7 (by decide)) dX10_findChanges_21 (fun a_8 ma_8 ua_8 wa_8 => ?_)
    have ka_8 : kd a_8 = 9 := by omega
    refine lv_astore (lv' := [(4, .ref a_8), (0, .ref a0_), (1, .ref a1_), (2, .int x2_), (3, .int x3_)]) hx hb dX10_findChanges_22 hl (by decide) rfl (fun ls hl => ?_)
    refine lv_aload_n hx hb dX10_findChanges_24 rfl (lv_at hl 2 rfl) ?_
    refine g_getr (K := 128) (C := RX4) (T := TX4) (N := 17) hx hb hts (mc_ inX4) hown hK g ma1_ ka1_ (by decide) rfl 9 (by decide) rfl (hts _ (List.mem_cons_of_mem _ t_860)) (fun _ h9 => h9) rfl dX10_findChanges_25 (fun a_9 ma_9 ka_9 g => ?_)
    refine lv_iload_n hx hb dX10_findChanges_28 rfl (lv_at hl 3 rfl) ?_
    refine g_aald hx hb hK g ma_9 ka_9 (by decide) rfl (by decide) (in_bd bx2_ (by decide)) dX10_findChanges_29 (fun a_10 ma_10 ua_10 wa_10 => ?_)
    have ka_10 : kd a_10 = 101 := by omega
    refine lv_astore (lv' := [(5, .ref a_10), (4, .ref a_8), (0, .ref a0_), (1, .ref a1_), (2, .int x2_), (3, .int x3_)]) hx hb dX10_findChanges_30 hl (by decide) rfl (fun ls hl => ?_)
    refine lv_aload hx hb dX10_findChanges_32 (lv_at hl 1 rfl) ?_
    refine lv_aload_n hx hb dX10_findChanges_34 rfl (lv_at hl 3 rfl) ?_
    refine g_getr (K := 102) (C := RX4) (T := TX4) (N := 17) hx hb hts (mc_ inX4) hown hK g ma1_ ka1_ (by decide) rfl 11 (by decide) rfl (hts _ (List.mem_cons_of_mem _ t_866)) (fun _ h9 => h9) rfl dX10_findChanges_35 (fun a_11 ma_11 ka_11 g => ?_)
    refine lv_aload hx hb dX10_findChanges_38 (lv_at hl 0 rfl) ?_
    refine lv_iconst (v := 0) hx hb dX10_findChanges_40 (by decide) ?_
    refine g_calli (va_runV (As := [.ref a_11, .ref a_10, .int 0]) (rest := []) ⟨hx, hb, hml, hown, hts⟩ (r_X9_changedCell l dC dI L kd tys f0 s.heap.size g.2.2.2.1 a_8 ma_8 ka_8 a_11 ma_11 ka_11 a_10 ma_10 ka_10 0) (cwV 3 hts (gV_ t_1645 t_1646 t_1647 t_192 t_1648) rfl rfl rfl (by decide +kernel) ⟨(Nat.le_of_ble_eq_true rfl), (Nat.le_of_ble_eq_true rfl)⟩) (pre3V g hK ma_8 ka_8 (by decide) (q := (RX9, TX9, 13)) rfl) rfl rfl hl.1 rfl (lv_room (Nat.le_of_ble_eq_true rfl)) dX10_findChanges_41 ⟨(Nat.le_of_ble_eq_true rfl), (Nat.le_of_ble_eq_true rfl)⟩) g hK (by decide) (by decide) (fx' := [(4, 11, a1_, .ref a_11), (4, 9, a1_, .ref a_9), (4, 7, a1_, .ref a_6), (7, 0, a_4, .ref a_5), (10, 0, a0_, .ref a_4), (4, 0, a1_, .int x_1), (4, 6, a1_, .int y0_), (4, 14, a1_, .int y1_)]) rfl (fun r_12 fr_12 H locs hp hMr_12 g => ?_)
    obtain ⟨h_13, -⟩ := hp
    refine lv_istore (lv' := [(6, .int r_12), (5, .ref a_10), (4, .ref a_8), (0, .ref a0_), (1, .ref a1_), (2, .int x2_), (3, .int x3_)]) hx hb dX10_findChanges_44 hl (by decide) rfl (fun ls hl => ?_)
    refine lv_iload hx hb dX10_findChanges_46 (lv_at hl 0 rfl) ?_
    refine lv_iconst (v := (-1)) hx hb dX10_findChanges_48 (by decide) ?_
    have kb_m1 : bd (-1) (-1) ((-1) : Int32) := ⟨by decide, by decide⟩
    refine lv_icmp_ne (tgt := 53) hx hb dX10_findChanges_49 (by decide) (fun c_14 => ?_) (fun c_14 => ?_)
    · have fc_14 := neq_f c_14
      have b_15 : bd 0 23 r_12 := neX fc_14 h_13 kb_m1 (by decide)
      refine lv_aload_n hx hb dX10_findChanges_53 rfl (lv_at hl 3 rfl) ?_
      refine g_getk (C := RX10) (T := TX10) (N := 10) hx hb hts (mc_ inX10) hown hK g rfl 0 (by decide) rfl (hts _ (List.mem_cons_of_mem _ t_912)) (fun _ h9 => h9) 4 rfl dX10_findChanges_54 ?_
      refine g_getr (K := 137) (C := RX7) (T := TX7) (N := 19) hx hb hts (mc_ inX7) hown hK g ma_4 ka_4 (by decide) rfl 2 (by decide) rfl (hts _ (List.mem_cons_of_mem _ t_634)) (fun _ h9 => h9) rfl dX10_findChanges_57 (fun a_16 ma_16 ka_16 g => ?_)
      refine lv_iload_n hx hb dX10_findChanges_60 rfl (lv_at hl 6 rfl) ?_
      refine g_aald hx hb hK g ma_16 ka_16 (by decide) rfl (by decide) (in_bd bx3_ (by decide)) dX10_findChanges_61 (fun a_17 ma_17 ua_17 wa_17 => ?_)
      have ka_17 : kd a_17 = 6 := by omega
      refine g_geti (C := RX6) (T := TX6) (N := 13) hx hb hts (mc_ inX6) hown hK g ma_17 ka_17 (by decide) rfl 6 (by decide) rfl (hts _ (List.mem_cons_of_mem _ t_579)) (fun _ h9 => h9) rfl dX10_findChanges_62 (fun x_18 bx_18 g => ?_)
      refine lv_if_eq (tgt := 77) hx hb dX10_findChanges_65 (by decide) (fun c_19 => ?_) (fun c_19 => ?_)
      · have fc_19 := eq_f c_19
        have b_20 : bd 0 0 x_18 := eqX fc_19 bx_18 kb_0 (by decide)
        refine lv_aload hx hb dX10_findChanges_77 (lv_at hl 2 rfl) ?_
        refine lv_aload_n hx hb dX10_findChanges_79 rfl (lv_at hl 4 rfl) ?_
        refine g_getk (C := RX4) (T := TX4) (N := 17) hx hb hts (mc_ inX4) hown hK g rfl 11 (by decide) rfl (hts _ (List.mem_cons_of_mem _ t_866)) (fun _ h9 => h9) 2 rfl dX10_findChanges_80 ?_
        refine lv_aload hx hb dX10_findChanges_83 (lv_at hl 1 rfl) ?_
        refine lv_aload_n hx hb dX10_findChanges_85 rfl (lv_at hl 3 rfl) ?_
        refine lv_iload_n hx hb dX10_findChanges_86 rfl (lv_at hl 6 rfl) ?_
        refine g_calli (va_runV (As := [.int x3_]) (rest := [.ref a_10, .ref a_11, .ref a_8]) ⟨hx, hb, hml, hown, hts⟩ (r_X10_fieldsThatMayChange l dC dI L kd tys fr_12 H.size g.2.2.2.1 a0_ ma0_ ka0_ x3_ bx3_) (cwV 1 hts (gV_ t_1653 t_1655 t_76 t_194 t_1656) rfl rfl rfl (by decide +kernel) ⟨(Nat.le_of_ble_eq_true rfl), (Nat.le_of_ble_eq_true rfl)⟩) (pre3V g hK ma0_ ka0_ (by decide) (q := (RX10, TX10, 10)) rfl) rfl rfl hl.1 rfl (lv_room (Nat.le_of_ble_eq_true rfl)) dX10_findChanges_87 ⟨(Nat.le_of_ble_eq_true rfl), (Nat.le_of_ble_eq_true rfl)⟩) g hK (by decide) (by decide) (fx' := [(6, 6, a_17, .int x_18), (7, 2, a_4, .ref a_16), (4, 11, a1_, .ref a_11), (4, 9, a1_, .ref a_9), (4, 7, a1_, .ref a_6), (7, 0, a_4, .ref a_5), (10, 0, a0_, .ref a_4), (4, 0, a1_, .int x_1), (4, 6, a1_, .int y0_), (4, 14, a1_, .int y1_)]) rfl (fun r_21 fr_21 H locs hp hMr_21 g => ?_)
        refine g_calli (va_runV (As := [.ref a_11, .ref a_10, .int r_21]) (rest := []) ⟨hx, hb, hml, hown, hts⟩ (r_X9_changedCell l dC dI L kd tys fr_21 H.size g.2.2.2.1 a_8 ma_8 ka_8 a_11 ma_11 ka_11 a_10 ma_10 ka_10 r_21) (cwV 3 hts (gV_ t_1645 t_1646 t_1647 t_192 t_1648) rfl rfl rfl (by decide +kernel) ⟨(Nat.le_of_ble_eq_true rfl), (Nat.le_of_ble_eq_true rfl)⟩) (pre3V g hK ma_8 ka_8 (by decide) (q := (RX9, TX9, 13)) rfl) rfl rfl hl.1 rfl (lv_room (Nat.le_of_ble_eq_true rfl)) dX10_findChanges_90 ⟨(Nat.le_of_ble_eq_true rfl), (Nat.le_of_ble_eq_true rfl)⟩) g hK (by decide) (by decide) (fx' := [(6, 6, a_17, .int x_18), (7, 2, a_4, .ref a_16), (4, 11, a1_, .ref a_11), (4, 9, a1_, .ref a_9), (4, 7, a1_, .ref a_6), (7, 0, a_4, .ref a_5), (10, 0, a0_, .ref a_4), (4, 0, a1_, .int x_1), (4, 6, a1_, .int y0_), (4, 14, a1_, .int y1_)]) rfl (fun r_22 fr_22 H locs hp hMr_22 g => ?_)
        obtain ⟨h_23, -⟩ := hp
        refine lv_istore (lv' := [(6, .int r_22), (5, .ref a_10), (4, .ref a_8), (0, .ref a0_), (1, .ref a1_), (2, .int x2_), (3, .int x3_)]) hx hb dX10_findChanges_93 hl (by decide) rfl (fun ls hl => ?_)
        refine lv_iload hx hb dX10_findChanges_95 (lv_at hl 0 rfl) ?_
        refine lv_iconst (v := (-1)) hx hb dX10_findChanges_97 (by decide) ?_
        refine lv_icmp_eq (tgt := 109) hx hb dX10_findChanges_98 (by decide) (fun c_24 => ?_) (fun c_24 => ?_)
        · have fc_24 := eq_f c_24
          have b_25 : bd (-1) (-1) r_22 := eqX fc_24 h_23 kb_m1 (by decide)
          subst hQ
          exact W.vret hx hb hr (fun t ht hW => ⟨⟨_, rfl, trivial, q3_of g hK ht hW⟩, g.2.2.1.F ht⟩) g.2.2.1.2.2 dX10_findChanges_109
        · have fc_24 := neq_f c_24
          have b_26 : bd 0 23 r_22 := neX fc_24 h_23 kb_m1 (by decide)
          refine lv_aload_n hx hb dX10_findChanges_101 rfl (lv_at hl 4 rfl) ?_
          refine lv_iconst (v := 4) hx hb dX10_findChanges_102 (by decide) ?_
          refine lv_iload_n hx hb dX10_findChanges_103 rfl (lv_at hl 5 rfl) ?_
          refine lv_iload hx hb dX10_findChanges_104 (lv_at hl 0 rfl) ?_
          refine g_callv (va_runV (As := [.int 4, .int x2_, .int r_22]) (rest := []) ⟨hx, hb, hml, hown, hts⟩ (r_X4_breakAt l dC dI L kd tys fr_22 H.size g.2.2.2.1 a1_ ma1_ ka1_ 4 x2_ r_22) (cwV 3 hts (gV_ t_1649 t_1650 t_1651 t_197 t_1652) rfl rfl rfl (by decide +kernel) ⟨(Nat.le_of_ble_eq_true rfl), (Nat.le_of_ble_eq_true rfl)⟩) (pre3V g hK ma1_ ka1_ (by decide) (q := (RX4, TX4, 17)) rfl) rfl rfl hl.1 rfl (lv_room (Nat.le_of_ble_eq_true rfl)) dX10_findChanges_106 ⟨(Nat.le_of_ble_eq_true rfl), (Nat.le_of_ble_eq_true rfl)⟩) g hK (by decide) (by decide) (fx' := [(6, 6, a_17, .int x_18), (7, 2, a_4, .ref a_16), (4, 11, a1_, .ref a_11), (4, 9, a1_, .ref a_9), (4, 7, a1_, .ref a_6), (7, 0, a_4, .ref a_5), (10, 0, a0_, .ref a_4), (4, 6, a1_, .int y0_), (4, 14, a1_, .int y1_)]) rfl (fun fr_27 H locs hp hMr_27 g => ?_)
          subst hQ
          exact W.vret hx hb hr (fun t ht hW => ⟨⟨_, rfl, trivial, q3_of g hK ht hW⟩, g.2.2.1.F ht⟩) g.2.2.1.2.2 dX10_findChanges_109
      · have fc_19 := neq_f c_19
        have b_28 : bd 1 1 x_18 := neX fc_19 bx_18 kb_0 (by decide)
        refine lv_aload_n hx hb dX10_findChanges_68 rfl (lv_at hl 4 rfl) ?_
        refine lv_iconst (v := 5) hx hb dX10_findChanges_69 (by decide) ?_
        refine lv_iload_n hx hb dX10_findChanges_70 rfl (lv_at hl 5 rfl) ?_
        refine lv_iload hx hb dX10_findChanges_71 (lv_at hl 0 rfl) ?_
        refine g_callv (va_runV (As := [.int 5, .int x2_, .int r_12]) (rest := []) ⟨hx, hb, hml, hown, hts⟩ (r_X4_breakAt l dC dI L kd tys fr_12 H.size g.2.2.2.1 a1_ ma1_ ka1_ 5 x2_ r_12) (cwV 3 hts (gV_ t_1649 t_1650 t_1651 t_197 t_1652) rfl rfl rfl (by decide +kernel) ⟨(Nat.le_of_ble_eq_true rfl), (Nat.le_of_ble_eq_true rfl)⟩) (pre3V g hK ma1_ ka1_ (by decide) (q := (RX4, TX4, 17)) rfl) rfl rfl hl.1 rfl (lv_room (Nat.le_of_ble_eq_true rfl)) dX10_findChanges_73 ⟨(Nat.le_of_ble_eq_true rfl), (Nat.le_of_ble_eq_true rfl)⟩) g hK (by decide) (by decide) (fx' := [(6, 6, a_17, .int x_18), (7, 2, a_4, .ref a_16), (4, 11, a1_, .ref a_11), (4, 9, a1_, .ref a_9), (4, 7, a1_, .ref a_6), (7, 0, a_4, .ref a_5), (10, 0, a0_, .ref a_4), (4, 6, a1_, .int y0_), (4, 14, a1_, .int y1_)]) rfl (fun fr_29 H locs hp hMr_29 g => ?_)
        subst hQ
        exact W.vret hx hb hr (fun t ht hW => ⟨⟨_, rfl, trivial, q3_of g hK ht hW⟩, g.2.2.1.F ht⟩) g.2.2.1.2.2 dX10_findChanges_76
    · have fc_14 := eq_f c_14
      have b_30 : bd (-1) (-1) r_12 := eqX fc_14 h_13 kb_m1 (by decide)
      subst hQ
      exact W.vret hx hb hr (fun t ht hW => ⟨⟨_, rfl, trivial, q3_of g hK ht hW⟩, g.2.2.1.F ht⟩) g.2.2.1.2.2 dX10_findChanges_52
  · have fc_2 := neq_f c_2
    subst hQ
    exact W.vret hx hb hr (fun t ht hW => ⟨⟨_, rfl, trivial, q3_of g hK ht hW⟩, g.2.2.1.F ht⟩) g.2.2.1.2.2 dX10_findChanges_7
set_option maxHeartbeats 4000000 in
set_option maxRecDepth 100000 in
theorem r_X10_doCall_4 (l : Launch) (dC : Nat → ClassId) (dI : Nat → Nat → Nat) (L : List Nat) (kd : Nat → Nat) (tys : List (ClassId × FieldType)) (f0 : Nat → va_E) (sz : Nat) (hWT : WT L kd tys f0) (a0_ : Nat) (ma0_ : a0_ ∈ L) (ka0_ : kd a0_ = 10) (a1_ : Nat) (ma1_ : a1_ ∈ L) (ka1_ : kd a1_ = 3) (a2_ : Nat) (ma2_ : a2_ ∈ L) (ka2_ : kd a2_ = 4) (x3_ : Int32) (bx3_ : bd 0 9 x3_) (q0_ : Nat) (mq0_ : q0_ ∈ L) (kq0_ : kd q0_ = 7) (y0_ : Int32) (by0_ : bd 0 9 y0_) (y1_ : Int32) (by1_ : bd 0 0 y1_) (y2_ : Int32) (by2_ : bd 1 10 y2_) (hGcq0_ : cOK f0 q0_) (hfx : Fs L kd f0 [(10, 0, a0_, .ref q0_), (4, 14, a2_, .int y0_), (4, 0, a2_, .int y1_), (3, 0, a1_, .int y2_)]) : Met l yX10_doCall (.code yX10_doCall cX10_doCall 10 none :: lw_g) ({ frames := 4, cells := 0, slots := 0, locals := 103 }) (va_Pc [.ref a0_, .ref a1_, .ref a2_, .int x3_] (P3 (dC, dI) L tys f0 sz)) (va_Qv (fun (f : Nat → va_E) => (True)) (Q3 (dC, dI) L kd tys [(1, 0), (1, 1), (1, 2), (1, 3), (1, 4), (1, 5), (1, 6), (1, 8), (1, 11), (1, 12), (1, 13), (1, 14), (1, 15), (1, 16), (1, 17), (4, 0), (4, 1), (4, 2), (4, 3), (4, 4), (4, 5), (4, 15), (4, 16)] [100, 101, 102, 103, 116, 117, 130, 131, 146] f0 sz) (pA L sz)) 0 0 (pA L sz) := by
  refine Met.ofW (cc := cX10_doCall) (maxL := 10) (ret := none) (by decide) rfl ?_
  intro p e s m args below meth c s₁ B hml hv
  obtain ⟨rfl, hsz, hP, hK, hD0⟩ := hv
  have hx := B.exec
  have hb := B.bytes
  have hr := B.returns
  have hts := atoms_spec (ws := (.code yX10_doCall cX10_doCall 10 none :: lw_g)) B.pre
  have hown : s.vm.findClass RX10 = some m.cls := findClass_of_methodNamed B.named
  have hlocks := B.notSynchronized
  subst hsz
  have g : G3 (dC, dI) L kd tys s f0 [(1, 0), (1, 1), (1, 2), (1, 3), (1, 4), (1, 5), (1, 6), (1, 8), (1, 11), (1, 12), (1, 13), (1, 14), (1, 15), (1, 16), (1, 17), (4, 0), (4, 1), (4, 2), (4, 3), (4, 4), (4, 5), (4, 15), (4, 16)] [100, 101, 102, 103, 116, 117, 130, 131, 146] f0 s.heap [] [(10, 0, a0_, .ref q0_), (4, 14, a2_, .int y0_), (4, 0, a2_, .int y1_), (3, 0, a1_, .int y2_)] := G3.start hP hD0 hWT hfx
  have hl := lv_entry ([.ref a0_, .ref a1_, .ref a2_, .int x3_]) (n := 10) (Nat.le_of_ble_eq_true rfl)
  rw [lg_entry_eq]
  generalize (lg_sl ([.ref a0_, .ref a1_, .ref a2_, .int x3_]) ++ List.replicate (10 - (lg_sl ([.ref a0_, .ref a1_, .ref a2_, .int x3_])).length) Slot.unset).toArray = ls at hl ⊢
  have hl : lv_has ls 10 [(0, .ref a0_), (1, .ref a1_), (2, .ref a2_), (3, .int x3_)] := hl
  refine W_q (fun Q hQ => ?_)
  refine lv_aload_n hx hb dX10_doCall_0 rfl (lv_at hl 1 rfl) ?_
  refine g_getr (K := 122) (C := RX3) (T := TX3) (N := 6) hx hb hts (mc_ inX3) hown hK g ma1_ ka1_ (by decide) rfl 1 (by decide) rfl (hts _ (List.mem_cons_of_mem _ t_805)) (fun _ h9 => h9) rfl dX10_doCall_1 (fun a_1 ma_1 ka_1 g => ?_)
  refine lv_iload_n hx hb dX10_doCall_4 rfl (lv_at hl 3 rfl) ?_
  refine g_iald hx hb hK g ma_1 ka_1 (by decide) rfl (in_bd bx3_ (by decide)) dX10_doCall_5 (fun x_2 bx_2 cx_2 => ?_)
  refine lv_istore (lv' := [(4, .int x_2), (0, .ref a0_), (1, .ref a1_), (2, .ref a2_), (3, .int x3_)]) hx hb dX10_doCall_6 hl (by decide) rfl (fun ls hl => ?_)
  refine lv_aload_n hx hb dX10_doCall_8 rfl (lv_at hl 2 rfl) ?_
  refine g_getr (K := 124) (C := RX3) (T := TX3) (N := 6) hx hb hts (mc_ inX3) hown hK g ma1_ ka1_ (by decide) rfl 3 (by decide) rfl (hts _ (List.mem_cons_of_mem _ t_811)) (fun _ h9 => h9) rfl dX10_doCall_9 (fun a_3 ma_3 ka_3 g => ?_)
  refine lv_iload_n hx hb dX10_doCall_12 rfl (lv_at hl 4 rfl) ?_
  refine g_aald hx hb hK g ma_3 ka_3 (by decide) rfl (by decide) (in_bd bx3_ (by decide)) dX10_doCall_13 (fun a_4 ma_4 ua_4 wa_4 => ?_)
  have ka_4 : kd a_4 = 103 := by omega
  refine lv_astore (lv' := [(5, .ref a_4), (4, .int x_2), (0, .ref a0_), (1, .ref a1_), (2, .ref a2_), (3, .int x3_)]) hx hb dX10_doCall_14 hl (by decide) rfl (fun ls hl => ?_)
  refine lv_iload hx hb dX10_doCall_16 (lv_at hl 1 rfl) ?_
  refine lv_aload_n hx hb dX10_doCall_18 rfl (lv_at hl 4 rfl) ?_
  refine g_geti (C := RX4) (T := TX4) (N := 17) hx hb hts (mc_ inX4) hown hK g ma2_ ka2_ (by decide) rfl 6 (by decide) rfl (hts _ (List.mem_cons_of_mem _ t_851)) (fun _ h9 => h9) rfl dX10_doCall_19 (fun x_5 bx_5 g => ?_)
  refine lv_icmp_ge (tgt := 48) hx hb dX10_doCall_22 (by decide) (fun c_6 => ?_) (fun c_6 => ?_)
  · have fc_6 := le_f c_6
    have b_7 : bd 0 2 x_5 := leL fc_6 bx_5 bx_2 (by decide)
    subst hQ
    exact W.vret hx hb hr (fun t ht hW => ⟨⟨_, rfl, trivial, q3_of g hK ht hW⟩, g.2.2.1.F ht⟩) g.2.2.1.2.2 dX10_doCall_48
  · have fc_6 := nle_f c_6
    have b_8 : bd 1 3 x_5 := ltR fc_6 bx_2 bx_5 (by decide)
    refine lv_aload_n hx hb dX10_doCall_25 rfl (lv_at hl 2 rfl) ?_
    refine g_getk (C := RX10) (T := TX10) (N := 10) hx hb hts (mc_ inX10) hown hK g rfl 0 (by decide) rfl (hts _ (List.mem_cons_of_mem _ t_912)) (fun _ h9 => h9) 3 rfl dX10_doCall_26 ?_
    refine lv_aload_n hx hb dX10_doCall_29 rfl (lv_at hl 4 rfl) ?_
    refine g_getr (K := 126) (C := RX4) (T := TX4) (N := 17) hx hb hts (mc_ inX4) hown hK g ma2_ ka2_ (by decide) rfl 7 (by decide) rfl (hts _ (List.mem_cons_of_mem _ t_854)) (fun _ h9 => h9) rfl dX10_doCall_30 (fun a_9 ma_9 ka_9 g => ?_)
    refine lv_iload hx hb dX10_doCall_33 (lv_at hl 1 rfl) ?_
    refine g_iald hx hb hK g ma_9 ka_9 (by decide) rfl (in_bd bx_2 (by decide)) dX10_doCall_35 (fun x_10 bx_10 cx_10 => ?_)
    refine lv_aload_n hx hb dX10_doCall_36 rfl (lv_at hl 3 rfl) ?_
    refine g_getr (K := 123) (C := RX3) (T := TX3) (N := 6) hx hb hts (mc_ inX3) hown hK g ma1_ ka1_ (by decide) rfl 2 (by decide) rfl (hts _ (List.mem_cons_of_mem _ t_808)) (fun _ h9 => h9) rfl dX10_doCall_37 (fun a_11 ma_11 ka_11 g => ?_)
    refine lv_iload_n hx hb dX10_doCall_40 rfl (lv_at hl 5 rfl) ?_
    refine g_iald hx hb hK g ma_11 ka_11 (by decide) rfl (in_bd bx3_ (by decide)) dX10_doCall_41 (fun x_12 bx_12 cx_12 => ?_)
    have go_ := g
    refine g_calli (va_runV (As := [.int x_10, .int x_12]) (rest := []) ⟨hx, hb, hml, hown, hts⟩ (r_X7_hasMember l dC dI L kd tys f0 s.heap.size g.2.2.2.1 q0_ mq0_ kq0_ x_10 x_12) (cwV 2 hts (gV_ t_1614 t_1448 t_1449 t_191 t_1450) rfl rfl rfl (by decide +kernel) ⟨(Nat.le_of_ble_eq_true rfl), (Nat.le_of_ble_eq_true rfl)⟩) (pre3V g hK mq0_ kq0_ (by decide) (q := (RX7, TX7, 19)) rfl) rfl rfl hl.1 rfl (lv_room (Nat.le_of_ble_eq_true rfl)) dX10_doCall_42 ⟨(Nat.le_of_ble_eq_true rfl), (Nat.le_of_ble_eq_true rfl)⟩) g hK (by decide) (by decide) (fx' := [(3, 2, a1_, .ref a_11), (4, 7, a2_, .ref a_9), (4, 6, a2_, .int x_5), (3, 3, a1_, .ref a_3), (3, 1, a1_, .ref a_1), (10, 0, a0_, .ref q0_), (4, 14, a2_, .int y0_), (4, 0, a2_, .int y1_), (3, 0, a1_, .int y2_)]) rfl (fun r_13 fr_13 H locs hp hMr_13 g => ?_)
    rcases hp with ⟨h_14, -⟩ | ⟨h_15, h_16, h_17, x_18, h_19, hF_20⟩
    · have hG_21 := cOK.frame hMr_13 go_.2.2.2.1 mq0_ kq0_ (by decide) (by decide) hGcq0_
      obtain rfl : r_13 = 0 := h_14
      refine lv_if_ne (tgt := 49) hx hb dX10_doCall_45 (by decide) (fun c_ => absurd c_ (by decide)) (fun c_ => ?_)
      subst hQ
      exact W.vret hx hb hr (fun t ht hW => ⟨⟨_, rfl, trivial, q3_of g hK ht hW⟩, g.2.2.1.F ht⟩) g.2.2.1.2.2 dX10_doCall_48
    · have hG_22 := cOK.frame hMr_13 go_.2.2.2.1 mq0_ kq0_ (by decide) (by decide) hGcq0_
      obtain rfl : r_13 = 1 := h_15
      have b_23 : bd 0 11 x_12 := eqX rfl bx_12 h_17 (by decide)
      have g := g.more hF_20
      refine lv_if_ne (tgt := 49) hx hb dX10_doCall_45 (by decide) (fun c_ => ?_) (fun c_ => absurd c_ (by decide))
      refine lv_aload_n hx hb dX10_doCall_49 rfl (lv_at hl 2 rfl) ?_
      refine g_getk (C := RX10) (T := TX10) (N := 10) hx hb hts (mc_ inX10) hown hK g rfl 0 (by decide) rfl (hts _ (List.mem_cons_of_mem _ t_912)) (fun _ h9 => h9) 6 rfl dX10_doCall_50 ?_
      refine g_getr (K := 136) (C := RX7) (T := TX7) (N := 19) hx hb hts (mc_ inX7) hown hK g mq0_ kq0_ (by decide) rfl 0 (by decide) rfl (hts _ (List.mem_cons_of_mem _ t_624)) (fun _ h9 => h9) rfl dX10_doCall_53 (fun a_24 ma_24 ka_24 g => ?_)
      refine lv_aload_n hx hb dX10_doCall_56 rfl (lv_at hl 4 rfl) ?_
      refine g_getk (C := RX4) (T := TX4) (N := 17) hx hb hts (mc_ inX4) hown hK g rfl 7 (by decide) rfl (hts _ (List.mem_cons_of_mem _ t_854)) (fun _ h9 => h9) 3 rfl dX10_doCall_57 ?_
      refine lv_iload hx hb dX10_doCall_60 (lv_at hl 1 rfl) ?_
      refine g_iald hx hb hK g ma_9 ka_9 (by decide) rfl (in_bd bx_2 (by decide)) dX10_doCall_62 (fun x_25 bx_25 cx_25 => ?_)
      obtain rfl : x_10 = x_25 := el_same cx_10 cx_25 (arr_eq hMr_13 ma_9 ka_9 (by decide) rfl)
      refine g_aald hx hb hK g ma_24 ka_24 (by decide) rfl (by decide) (in_bd bx_10 (by decide)) dX10_doCall_63 (fun a_26 ma_26 ua_26 wa_26 => ?_)
      have ka_26 : kd a_26 = 9 := by omega
      refine lv_astore (lv' := [(6, .ref a_26), (5, .ref a_4), (4, .int x_2), (0, .ref a0_), (1, .ref a1_), (2, .ref a2_), (3, .int x3_)]) hx hb dX10_doCall_64 hl (by decide) rfl (fun ls hl => ?_)
      refine lv_aload hx hb dX10_doCall_66 (lv_at hl 0 rfl) ?_
      refine g_getr (K := 156) (C := RX9) (T := TX9) (N := 13) hx hb hts (mc_ inX9) hown hK g ma_26 ka_26 (by decide) rfl 9 (by decide) rfl (hts _ (List.mem_cons_of_mem _ t_509)) (fun _ h9 => h9) rfl dX10_doCall_68 (fun a_27 ma_27 ka_27 g => ?_)
      refine lv_aload_n hx hb dX10_doCall_71 rfl (lv_at hl 4 rfl) ?_
      refine g_getk (C := RX3) (T := TX3) (N := 6) hx hb hts (mc_ inX3) hown hK g rfl 2 (by decide) rfl (hts _ (List.mem_cons_of_mem _ t_808)) (fun _ h9 => h9) 3 rfl dX10_doCall_72 ?_
      refine lv_iload_n hx hb dX10_doCall_75 rfl (lv_at hl 6 rfl) ?_
      refine g_iald hx hb hK g ma_11 ka_11 (by decide) rfl (in_bd bx3_ (by decide)) dX10_doCall_76 (fun x_28 bx_28 cx_28 => ?_)
      obtain rfl : x_12 = x_28 := el_same cx_12 cx_28 (arr_eq hMr_13 ma_11 ka_11 (by decide) rfl)
      refine g_iald hx hb hK g ma_27 ka_27 (by decide) rfl (in_bd b_23 (by decide)) dX10_doCall_77 (fun x_29 bx_29 cx_29 => ?_)
      refine lv_istore (lv' := [(7, .int x_29), (6, .ref a_26), (5, .ref a_4), (4, .int x_2), (0, .ref a0_), (1, .ref a1_), (2, .ref a2_), (3, .int x3_)]) hx hb dX10_doCall_78 hl (by decide) rfl (fun ls hl => ?_)
      refine lv_aload_n hx hb dX10_doCall_80 rfl (lv_at hl 6 rfl) ?_
      refine g_getr (K := 128) (C := RX4) (T := TX4) (N := 17) hx hb hts (mc_ inX4) hown hK g ma2_ ka2_ (by decide) rfl 9 (by decide) rfl (hts _ (List.mem_cons_of_mem _ t_860)) (fun _ h9 => h9) rfl dX10_doCall_81 (fun a_30 ma_30 ka_30 g => ?_)
      refine lv_iload hx hb dX10_doCall_84 (lv_at hl 3 rfl) ?_
      refine g_aald hx hb hK g ma_30 ka_30 (by decide) rfl (by decide) (in_bd bx_2 (by decide)) dX10_doCall_86 (fun a_31 ma_31 ua_31 wa_31 => ?_)
      have ka_31 : kd a_31 = 101 := by omega
      refine lv_astore (lv' := [(8, .ref a_31), (7, .int x_29), (6, .ref a_26), (5, .ref a_4), (4, .int x_2), (0, .ref a0_), (1, .ref a1_), (2, .ref a2_), (3, .int x3_)]) hx hb dX10_doCall_87 hl (by decide) rfl (fun ls hl => ?_)
      refine lv_aload hx hb dX10_doCall_89 (lv_at hl 0 rfl) ?_
      refine lv_iconst (v := 0) hx hb dX10_doCall_91 (by decide) ?_
      refine lv_aload_n hx hb dX10_doCall_92 rfl (lv_at hl 7 rfl) ?_
      refine g_getr (K := 102) (C := RX4) (T := TX4) (N := 17) hx hb hts (mc_ inX4) hown hK g ma2_ ka2_ (by decide) rfl 11 (by decide) rfl (hts _ (List.mem_cons_of_mem _ t_866)) (fun _ h9 => h9) rfl dX10_doCall_93 (fun a_32 ma_32 ka_32 g => ?_)
      refine lv_iconst (v := 0) hx hb dX10_doCall_96 (by decide) ?_
      refine lv_bipush (v := 24) hx hb dX10_doCall_97 (by decide) ?_
      have go_ := g
      refine g_copyi hx hb (hml.trans hl.1.symm) hown (hts _ (List.mem_cons_of_mem _ t_1615)) (hts _ (List.mem_cons_of_mem _ t_1142)) (hts _ (List.mem_cons_of_mem _ t_1141)) (hts _ (List.mem_cons_of_mem _ t_206)) hK g ma_31 ka_31 ma_32 ka_32 (by decide) (by decide) rfl rfl (by decide) (by decide) (by decide) (by decide) (by decide) (Nat.le_of_ble_eq_true rfl) (Nat.le_of_ble_eq_true rfl) dX10_doCall_99 (fun f H locs hM_33 g => ?_)
      have hG_34 := cOK.frame hM_33 go_.2.2.2.1 mq0_ kq0_ (by decide) (by decide) hG_22
      refine lv_aload_n hx hb dX10_doCall_102 rfl (lv_at hl 5 rfl) ?_
      refine g_getr (K := 1) (C := RX10) (T := TX10) (N := 10) hx hb hts (mc_ inX10) hown hK g ma0_ ka0_ (by decide) rfl 1 (by decide) rfl (hts _ (List.mem_cons_of_mem _ t_913)) (fun _ h9 => h9) rfl dX10_doCall_103 (fun a_35 ma_35 ka_35 g => ?_)
      refine lv_aload_n hx hb dX10_doCall_106 rfl (lv_at hl 5 rfl) ?_
      refine g_getk (C := RX10) (T := TX10) (N := 10) hx hb hts (mc_ inX10) hown hK g rfl 0 (by decide) rfl (hts _ (List.mem_cons_of_mem _ t_912)) (fun _ h9 => h9) 11 rfl dX10_doCall_107 ?_
      refine lv_aload hx hb dX10_doCall_110 (lv_at hl 2 rfl) ?_
      refine lv_aload hx hb dX10_doCall_112 (lv_at hl 0 rfl) ?_
      refine lv_aload_n hx hb dX10_doCall_114 rfl (lv_at hl 7 rfl) ?_
      refine g_getk (C := RX4) (T := TX4) (N := 17) hx hb hts (mc_ inX4) hown hK g rfl 11 (by decide) rfl (hts _ (List.mem_cons_of_mem _ t_866)) (fun _ h9 => h9) 1 rfl dX10_doCall_115 ?_
      refine lv_aload hx hb dX10_doCall_118 (lv_at hl 3 rfl) ?_
      have go_ := g
      refine g_callv (va_runV (As := [.ref q0_, .ref a_26, .ref a_31, .ref a_32, .ref a_4]) (rest := []) ⟨hx, hb, hml, hown, hts⟩ (r_X1_standOn_2 l dC dI L kd tys f H.size g.2.2.2.1 a_35 ma_35 ka_35 q0_ mq0_ kq0_ a_26 ma_26 ka_26 a_31 ma_31 ka_31 a_32 ma_32 ka_32 a_4 ma_4 ka_4) (cwV 5 hts (gV_ t_1543 t_1544 t_1545 t_195 t_1546) rfl rfl rfl (by decide +kernel) ⟨(Nat.le_of_ble_eq_true rfl), (Nat.le_of_ble_eq_true rfl)⟩) (pre3V g hK ma_35 ka_35 (by decide) (q := (RX1, TX1, 18)) rfl) rfl rfl hl.1 rfl (lv_room (Nat.le_of_ble_eq_true rfl)) dX10_doCall_120 ⟨(Nat.le_of_ble_eq_true rfl), (Nat.le_of_ble_eq_true rfl)⟩) g hK (by decide) (by decide) (fx' := [(10, 1, a0_, .ref a_35), (4, 11, a2_, .ref a_32), (4, 9, a2_, .ref a_30), (9, 9, a_26, .ref a_27), (7, 0, q0_, .ref a_24), (7, 1, q0_, .int x_18), (3, 2, a1_, .ref a_11), (4, 7, a2_, .ref a_9), (4, 6, a2_, .int x_5), (3, 3, a1_, .ref a_3), (3, 1, a1_, .ref a_1), (10, 0, a0_, .ref q0_), (4, 14, a2_, .int y0_), (4, 0, a2_, .int y1_), (3, 0, a1_, .int y2_)]) rfl (fun fr_36 H locs hp hMr_36 g => ?_)
      have hF_37 := hp
      have hG_38 := cOK.frame hMr_36 go_.2.2.2.1 mq0_ kq0_ (by decide) (by decide) hG_34
      have g := g.more hF_37
      refine lv_aload_n hx hb dX10_doCall_123 rfl (lv_at hl 5 rfl) ?_
      refine lv_aload_n hx hb dX10_doCall_124 rfl (lv_at hl 7 rfl) ?_
      refine lv_iload hx hb dX10_doCall_125 (lv_at hl 4 rfl) ?_
      refine lv_iload hx hb dX10_doCall_127 (lv_at hl 1 rfl) ?_
      have go_ := g
      refine g_callv (va_runV (As := [.ref a2_, .int x_2, .int x_29]) (rest := []) ⟨hx, hb, hml, hown, hts⟩ (r_X10_askNeeds_2 l dC dI L kd tys fr_36 H.size g.2.2.2.1 a0_ ma0_ ka0_ a2_ ma2_ ka2_ x_2 bx_2 x_29 bx_29 a_35 ma_35 ka_35 q0_ mq0_ kq0_ a_26 ma_26 ka_26 x_18 h_19 x_5 b_8 y0_ by0_ y1_ by1_ hG_38 (g.fcts [5, 4, 3, 10, 13, 17, 18] rfl)) (cwV 3 hts (gV_ t_1616 t_1618 t_70 t_194 t_1619) rfl rfl rfl (by decide +kernel) ⟨(Nat.le_of_ble_eq_true rfl), (Nat.le_of_ble_eq_true rfl)⟩) (pre3V g hK ma0_ ka0_ (by decide) (q := (RX10, TX10, 10)) rfl) rfl rfl hl.1 rfl (lv_room (Nat.le_of_ble_eq_true rfl)) dX10_doCall_129 ⟨(Nat.le_of_ble_eq_true rfl), (Nat.le_of_ble_eq_true rfl)⟩) g hK (by decide) (by decide) (fx' := [(1, 4, a_35, .ref a_4), (1, 3, a_35, .ref a_32), (1, 2, a_35, .ref a_31), (1, 1, a_35, .ref a_26), (1, 0, a_35, .ref q0_), (10, 1, a0_, .ref a_35), (4, 11, a2_, .ref a_32), (4, 9, a2_, .ref a_30), (9, 9, a_26, .ref a_27), (7, 0, q0_, .ref a_24), (7, 1, q0_, .int x_18), (3, 2, a1_, .ref a_11), (4, 7, a2_, .ref a_9), (4, 6, a2_, .int x_5), (3, 3, a1_, .ref a_3), (3, 1, a1_, .ref a_1), (10, 0, a0_, .ref q0_), (4, 14, a2_, .int y0_), (3, 0, a1_, .int y2_)]) rfl (fun fr_39 H locs hp hMr_39 g => ?_)
      have hG_40 := cOK.frame hMr_39 go_.2.2.2.1 mq0_ kq0_ (by decide) (by decide) hG_38
      refine lv_aload_n hx hb dX10_doCall_132 rfl (lv_at hl 7 rfl) ?_
      refine g_geti (C := RX4) (T := TX4) (N := 17) hx hb hts (mc_ inX4) hown hK g ma2_ ka2_ (by decide) rfl 0 (by decide) rfl (hts _ (List.mem_cons_of_mem _ t_837)) (fun _ h9 => h9) rfl dX10_doCall_133 (fun x_41 bx_41 g => ?_)
      have kb_0 : bd 0 0 (0 : Int32) := ⟨by decide, by decide⟩
      refine lv_if_eq (tgt := 140) hx hb dX10_doCall_136 (by decide) (fun c_42 => ?_) (fun c_42 => ?_)
      · have fc_42 := eq_f c_42
        have b_43 : bd 0 0 x_41 := eqX fc_42 (bdT x_41) kb_0 (by decide)
        refine lv_aload_n hx hb dX10_doCall_140 rfl (lv_at hl 5 rfl) ?_
        refine g_getk (C := RX10) (T := TX10) (N := 10) hx hb hts (mc_ inX10) hown hK g rfl 1 (by decide) rfl (hts _ (List.mem_cons_of_mem _ t_913)) (fun _ h9 => h9) 6 rfl dX10_doCall_141 ?_
        refine lv_aload_n hx hb dX10_doCall_144 rfl (lv_at hl 5 rfl) ?_
        refine g_getk (C := RX10) (T := TX10) (N := 10) hx hb hts (mc_ inX10) hown hK g rfl 0 (by decide) rfl (hts _ (List.mem_cons_of_mem _ t_912)) (fun _ h9 => h9) 17 rfl dX10_doCall_145 ?_
        refine g_getr (K := 137) (C := RX7) (T := TX7) (N := 19) hx hb hts (mc_ inX7) hown hK g mq0_ kq0_ (by decide) rfl 2 (by decide) rfl (hts _ (List.mem_cons_of_mem _ t_634)) (fun _ h9 => h9) rfl dX10_doCall_148 (fun a_44 ma_44 ka_44 g => ?_)
        refine lv_iload hx hb dX10_doCall_151 (lv_at hl 1 rfl) ?_
        refine g_aald hx hb hK g ma_44 ka_44 (by decide) rfl (by decide) (in_bd bx_29 (by decide)) dX10_doCall_153 (fun a_45 ma_45 ua_45 wa_45 => ?_)
        have ka_45 : kd a_45 = 6 := by omega
        have go_ := g
        refine g_callv (va_runV (As := [.ref a_45]) (rest := []) ⟨hx, hb, hml, hown, hts⟩ (r_X1_readyToCall l dC dI L kd tys fr_39 H.size g.2.2.2.1 a_35 ma_35 ka_35 a_45 ma_45 ka_45) (cwV 1 hts (gV_ t_1629 t_1630 t_1631 t_195 t_1632) rfl rfl rfl (by decide +kernel) ⟨(Nat.le_of_ble_eq_true rfl), (Nat.le_of_ble_eq_true rfl)⟩) (pre3V g hK ma_35 ka_35 (by decide) (q := (RX1, TX1, 18)) rfl) rfl rfl hl.1 rfl (lv_room (Nat.le_of_ble_eq_true rfl)) dX10_doCall_154 ⟨(Nat.le_of_ble_eq_true rfl), (Nat.le_of_ble_eq_true rfl)⟩) g hK (by decide) (by decide) (fx' := [(7, 2, q0_, .ref a_44), (4, 0, a2_, .int x_41), (1, 4, a_35, .ref a_4), (1, 3, a_35, .ref a_32), (1, 2, a_35, .ref a_31), (1, 1, a_35, .ref a_26), (1, 0, a_35, .ref q0_), (10, 1, a0_, .ref a_35), (4, 11, a2_, .ref a_32), (4, 9, a2_, .ref a_30), (9, 9, a_26, .ref a_27), (7, 0, q0_, .ref a_24), (7, 1, q0_, .int x_18), (3, 2, a1_, .ref a_11), (4, 7, a2_, .ref a_9), (4, 6, a2_, .int x_5), (3, 3, a1_, .ref a_3), (3, 1, a1_, .ref a_1), (10, 0, a0_, .ref q0_), (4, 14, a2_, .int y0_), (3, 0, a1_, .int y2_)]) rfl (fun fr_46 H locs hp hMr_46 g => ?_)
        have hF_47 := hp
        have hG_48 := cOK.frame hMr_46 go_.2.2.2.1 mq0_ kq0_ (by decide) (by decide) hG_40
        have g := g.more hF_47
        refine lv_aload_n hx hb dX10_doCall_157 rfl (lv_at hl 5 rfl) ?_
        refine g_getk (C := RX10) (T := TX10) (N := 10) hx hb hts (mc_ inX10) hown hK g rfl 1 (by decide) rfl (hts _ (List.mem_cons_of_mem _ t_913)) (fun _ h9 => h9) 10 rfl dX10_doCall_158 ?_
        have kb_1 : bd 1 1 (1 : Int32) := ⟨by decide, by decide⟩
        have go_ := g
        refine g_callv (va_runV (As := []) (rest := []) ⟨hx, hb, hml, hown, hts⟩ (r_X1_go_3 l dC dI L kd tys fr_46 H.size g.2.2.2.1 a_35 ma_35 ka_35 q0_ mq0_ kq0_ a_26 ma_26 ka_26 1 kb_1 0 kb_0 0 kb_0 x_18 h_19 hG_48 (g.fcts [9, 8, 0, 1, 2, 15] rfl)) (cwV 0 hts (gV_ t_1555 t_1556 t_1557 t_195 t_1558) rfl rfl rfl (by decide +kernel) ⟨(Nat.le_of_ble_eq_true rfl), (Nat.le_of_ble_eq_true rfl)⟩) (pre3V g hK ma_35 ka_35 (by decide) (q := (RX1, TX1, 18)) rfl) rfl rfl hl.1 rfl (lv_room (Nat.le_of_ble_eq_true rfl)) dX10_doCall_161 ⟨(Nat.le_of_ble_eq_true rfl), (Nat.le_of_ble_eq_true rfl)⟩) g hK (by decide) (by decide) (fx' := [(1, 12, a_35, .int 1), (1, 6, a_35, .int 0), (1, 5, a_35, .int 0), (7, 2, q0_, .ref a_44), (4, 0, a2_, .int x_41), (1, 4, a_35, .ref a_4), (1, 3, a_35, .ref a_32), (1, 2, a_35, .ref a_31), (1, 1, a_35, .ref a_26), (1, 0, a_35, .ref q0_), (10, 1, a0_, .ref a_35), (4, 11, a2_, .ref a_32), (4, 9, a2_, .ref a_30), (9, 9, a_26, .ref a_27), (7, 0, q0_, .ref a_24), (7, 1, q0_, .int x_18), (3, 2, a1_, .ref a_11), (4, 7, a2_, .ref a_9), (4, 6, a2_, .int x_5), (3, 3, a1_, .ref a_3), (3, 1, a1_, .ref a_1), (10, 0, a0_, .ref q0_), (4, 14, a2_, .int y0_), (3, 0, a1_, .int y2_)]) rfl (fun fr_49 H locs hp hMr_49 g => ?_)
        obtain ⟨x_50, h_51, hF_52⟩ := hp
        have hG_53 := cOK.frame hMr_49 go_.2.2.2.1 mq0_ kq0_ (by decide) (by decide) hG_48
        have g := g.more hF_52
        refine lv_aload_n hx hb dX10_doCall_164 rfl (lv_at hl 5 rfl) ?_
        refine lv_aload_n hx hb dX10_doCall_165 rfl (lv_at hl 7 rfl) ?_
        refine lv_iload_n hx hb dX10_doCall_166 rfl (lv_at hl 8 rfl) ?_
        have go_ := g
        refine g_callv (va_runV (As := [.ref a2_, .int x3_]) (rest := []) ⟨hx, hb, hml, hown, hts⟩ (r_X10_noteCall_2 l dC dI L kd tys fr_49 H.size g.2.2.2.1 a0_ ma0_ ka0_ a2_ ma2_ ka2_ x3_ bx3_ x_41 b_43 x_5 b_8 y0_ by0_ (g.fcts [5, 19, 23] rfl)) (cwV 2 hts (gV_ t_1633 t_1635 t_73 t_194 t_1636) rfl rfl rfl (by decide +kernel) ⟨(Nat.le_of_ble_eq_true rfl), (Nat.le_of_ble_eq_true rfl)⟩) (pre3V g hK ma0_ ka0_ (by decide) (q := (RX10, TX10, 10)) rfl) rfl rfl hl.1 rfl (lv_room (Nat.le_of_ble_eq_true rfl)) dX10_doCall_167 ⟨(Nat.le_of_ble_eq_true rfl), (Nat.le_of_ble_eq_true rfl)⟩) g hK (by decide) (by decide) (fx' := [(1, 11, a_35, .int x_50), (1, 12, a_35, .int 1), (1, 6, a_35, .int 0), (1, 5, a_35, .int 0), (7, 2, q0_, .ref a_44), (1, 4, a_35, .ref a_4), (1, 3, a_35, .ref a_32), (1, 2, a_35, .ref a_31), (1, 1, a_35, .ref a_26), (1, 0, a_35, .ref q0_), (10, 1, a0_, .ref a_35), (4, 11, a2_, .ref a_32), (4, 9, a2_, .ref a_30), (9, 9, a_26, .ref a_27), (7, 0, q0_, .ref a_24), (7, 1, q0_, .int x_18), (3, 2, a1_, .ref a_11), (4, 7, a2_, .ref a_9), (4, 6, a2_, .int x_5), (3, 3, a1_, .ref a_3), (3, 1, a1_, .ref a_1), (10, 0, a0_, .ref q0_), (4, 14, a2_, .int y0_), (3, 0, a1_, .int y2_)]) rfl (fun fr_54 H locs hp hMr_54 g => ?_)
        obtain ⟨x_55, h_56, hF_57⟩ := hp
        have hG_58 := cOK.frame hMr_54 go_.2.2.2.1 mq0_ kq0_ (by decide) (by decide) hG_53
        have g := g.more hF_57
        refine lv_aload_n hx hb dX10_doCall_170 rfl (lv_at hl 5 rfl) ?_
        refine g_getk (C := RX10) (T := TX10) (N := 10) hx hb hts (mc_ inX10) hown hK g rfl 1 (by decide) rfl (hts _ (List.mem_cons_of_mem _ t_913)) (fun _ h9 => h9) 11 rfl dX10_doCall_171 ?_
        refine lv_aload_n hx hb dX10_doCall_174 rfl (lv_at hl 5 rfl) ?_
        refine g_getk (C := RX10) (T := TX10) (N := 10) hx hb hts (mc_ inX10) hown hK g rfl 0 (by decide) rfl (hts _ (List.mem_cons_of_mem _ t_912)) (fun _ h9 => h9) 22 rfl dX10_doCall_175 ?_
        refine lv_aload hx hb dX10_doCall_178 (lv_at hl 2 rfl) ?_
        refine lv_aload_n hx hb dX10_doCall_180 rfl (lv_at hl 7 rfl) ?_
        refine g_getk (C := RX4) (T := TX4) (N := 17) hx hb hts (mc_ inX4) hown hK g rfl 11 (by decide) rfl (hts _ (List.mem_cons_of_mem _ t_866)) (fun _ h9 => h9) 12 rfl dX10_doCall_181 ?_
        refine lv_aload_n hx hb dX10_doCall_184 rfl (lv_at hl 7 rfl) ?_
        refine g_getk (C := RX4) (T := TX4) (N := 17) hx hb hts (mc_ inX4) hown hK g rfl 11 (by decide) rfl (hts _ (List.mem_cons_of_mem _ t_866)) (fun _ h9 => h9) 12 rfl dX10_doCall_185 ?_
        refine lv_aload hx hb dX10_doCall_188 (lv_at hl 3 rfl) ?_
        have go_ := g
        refine g_callv (va_runV (As := [.ref q0_, .ref a_26, .ref a_32, .ref a_32, .ref a_4]) (rest := []) ⟨hx, hb, hml, hown, hts⟩ (r_X1_standOn_3 l dC dI L kd tys fr_54 H.size g.2.2.2.1 a_35 ma_35 ka_35 q0_ mq0_ kq0_ a_26 ma_26 ka_26 a_32 ma_32 ka_32 a_32 ma_32 ka_32 a_4 ma_4 ka_4) (cwV 5 hts (gV_ t_1543 t_1544 t_1545 t_195 t_1546) rfl rfl rfl (by decide +kernel) ⟨(Nat.le_of_ble_eq_true rfl), (Nat.le_of_ble_eq_true rfl)⟩) (pre3V g hK ma_35 ka_35 (by decide) (q := (RX1, TX1, 18)) rfl) rfl rfl hl.1 rfl (lv_room (Nat.le_of_ble_eq_true rfl)) dX10_doCall_190 ⟨(Nat.le_of_ble_eq_true rfl), (Nat.le_of_ble_eq_true rfl)⟩) g hK (by decide) (by decide) (fx' := [(4, 0, a2_, .int x_55), (1, 11, a_35, .int x_50), (1, 12, a_35, .int 1), (1, 6, a_35, .int 0), (1, 5, a_35, .int 0), (7, 2, q0_, .ref a_44), (10, 1, a0_, .ref a_35), (4, 11, a2_, .ref a_32), (4, 9, a2_, .ref a_30), (9, 9, a_26, .ref a_27), (7, 0, q0_, .ref a_24), (7, 1, q0_, .int x_18), (3, 2, a1_, .ref a_11), (4, 7, a2_, .ref a_9), (4, 6, a2_, .int x_5), (3, 3, a1_, .ref a_3), (3, 1, a1_, .ref a_1), (10, 0, a0_, .ref q0_), (4, 14, a2_, .int y0_), (3, 0, a1_, .int y2_)]) rfl (fun fr_59 H locs hp hMr_59 g => ?_)
        have hF_60 := hp
        have hG_61 := cOK.frame hMr_59 go_.2.2.2.1 mq0_ kq0_ (by decide) (by decide) hG_58
        have g := g.more hF_60
        refine lv_aload_n hx hb dX10_doCall_193 rfl (lv_at hl 5 rfl) ?_
        refine lv_aload_n hx hb dX10_doCall_194 rfl (lv_at hl 7 rfl) ?_
        refine lv_iload hx hb dX10_doCall_195 (lv_at hl 4 rfl) ?_
        refine lv_iload hx hb dX10_doCall_197 (lv_at hl 1 rfl) ?_
        have go_ := g
        refine g_callv (va_runV (As := [.ref a2_, .int x_2, .int x_29]) (rest := []) ⟨hx, hb, hml, hown, hts⟩ (r_X10_askThrows_2 l dC dI L kd tys fr_59 H.size g.2.2.2.1 a0_ ma0_ ka0_ a2_ ma2_ ka2_ x_2 bx_2 x_29 bx_29 a_35 ma_35 ka_35 q0_ mq0_ kq0_ a_26 ma_26 ka_26 x_55 h_56 x_50 h_51 1 kb_1 0 kb_0 0 kb_0 x_18 h_19 x_5 b_8 y0_ by0_ hG_61 (g.fcts [11, 4, 3, 5, 6, 7, 8, 9, 16, 19, 23] rfl)) (cwV 3 hts (gV_ t_1637 t_1639 t_74 t_194 t_1640) rfl rfl rfl (by decide +kernel) ⟨(Nat.le_of_ble_eq_true rfl), (Nat.le_of_ble_eq_true rfl)⟩) (pre3V g hK ma0_ ka0_ (by decide) (q := (RX10, TX10, 10)) rfl) rfl rfl hl.1 rfl (lv_room (Nat.le_of_ble_eq_true rfl)) dX10_doCall_199 ⟨(Nat.le_of_ble_eq_true rfl), (Nat.le_of_ble_eq_true rfl)⟩) g hK (by decide) (by decide) (fx' := [(1, 4, a_35, .ref a_4), (1, 3, a_35, .ref a_32), (1, 2, a_35, .ref a_32), (1, 1, a_35, .ref a_26), (1, 0, a_35, .ref q0_), (7, 2, q0_, .ref a_44), (10, 1, a0_, .ref a_35), (4, 11, a2_, .ref a_32), (4, 9, a2_, .ref a_30), (9, 9, a_26, .ref a_27), (7, 0, q0_, .ref a_24), (7, 1, q0_, .int x_18), (3, 2, a1_, .ref a_11), (4, 7, a2_, .ref a_9), (4, 6, a2_, .int x_5), (3, 3, a1_, .ref a_3), (3, 1, a1_, .ref a_1), (10, 0, a0_, .ref q0_), (4, 14, a2_, .int y0_), (3, 0, a1_, .int y2_)]) rfl (fun fr_62 H locs hp hMr_62 g => ?_)
        have hG_63 := cOK.frame hMr_62 go_.2.2.2.1 mq0_ kq0_ (by decide) (by decide) hG_61
        refine lv_aload_n hx hb dX10_doCall_202 rfl (lv_at hl 5 rfl) ?_
        refine lv_aload_n hx hb dX10_doCall_203 rfl (lv_at hl 7 rfl) ?_
        refine lv_iload hx hb dX10_doCall_204 (lv_at hl 4 rfl) ?_
        refine lv_iload hx hb dX10_doCall_206 (lv_at hl 1 rfl) ?_
        have go_ := g
        refine g_callv (va_runV (As := [.ref a2_, .int x_2, .int x_29]) (rest := []) ⟨hx, hb, hml, hown, hts⟩ (r_X10_findChanges_2 l dC dI L kd tys fr_62 H.size g.2.2.2.1 a0_ ma0_ ka0_ a2_ ma2_ ka2_ x_2 bx_2 x_29 bx_29 x_5 b_8 y0_ by0_ (g.fcts [14, 18] rfl)) (cwV 3 hts (gV_ t_1641 t_1643 t_75 t_194 t_1644) rfl rfl rfl (by decide +kernel) ⟨(Nat.le_of_ble_eq_true rfl), (Nat.le_of_ble_eq_true rfl)⟩) (pre3V g hK ma0_ ka0_ (by decide) (q := (RX10, TX10, 10)) rfl) rfl rfl hl.1 rfl (lv_room (Nat.le_of_ble_eq_true rfl)) dX10_doCall_208 ⟨(Nat.le_of_ble_eq_true rfl), (Nat.le_of_ble_eq_true rfl)⟩) g hK (by decide) (by decide) (fx' := [(1, 4, a_35, .ref a_4), (1, 3, a_35, .ref a_32), (1, 2, a_35, .ref a_32), (1, 1, a_35, .ref a_26), (1, 0, a_35, .ref q0_), (7, 2, q0_, .ref a_44), (10, 1, a0_, .ref a_35), (4, 11, a2_, .ref a_32), (4, 9, a2_, .ref a_30), (9, 9, a_26, .ref a_27), (7, 0, q0_, .ref a_24), (7, 1, q0_, .int x_18), (3, 2, a1_, .ref a_11), (4, 7, a2_, .ref a_9), (4, 6, a2_, .int x_5), (3, 3, a1_, .ref a_3), (3, 1, a1_, .ref a_1), (10, 0, a0_, .ref q0_), (4, 14, a2_, .int y0_), (3, 0, a1_, .int y2_)]) rfl (fun fr_64 H locs hp hMr_64 g => ?_)
        have hG_65 := cOK.frame hMr_64 go_.2.2.2.1 mq0_ kq0_ (by decide) (by decide) hG_63
        refine lv_aload_n hx hb dX10_doCall_211 rfl (lv_at hl 5 rfl) ?_
        refine g_getk (C := RX10) (T := TX10) (N := 10) hx hb hts (mc_ inX10) hown hK g rfl 1 (by decide) rfl (hts _ (List.mem_cons_of_mem _ t_913)) (fun _ h9 => h9) 6 rfl dX10_doCall_212 ?_
        refine lv_aload_n hx hb dX10_doCall_215 rfl (lv_at hl 5 rfl) ?_
        refine g_getk (C := RX10) (T := TX10) (N := 10) hx hb hts (mc_ inX10) hown hK g rfl 0 (by decide) rfl (hts _ (List.mem_cons_of_mem _ t_912)) (fun _ h9 => h9) 17 rfl dX10_doCall_216 ?_
        refine lv_aload hx hb dX10_doCall_219 (lv_at hl 2 rfl) ?_
        refine lv_aload hx hb dX10_doCall_221 (lv_at hl 0 rfl) ?_
        refine lv_aload_n hx hb dX10_doCall_223 rfl (lv_at hl 7 rfl) ?_
        refine g_getk (C := RX4) (T := TX4) (N := 17) hx hb hts (mc_ inX4) hown hK g rfl 11 (by decide) rfl (hts _ (List.mem_cons_of_mem _ t_866)) (fun _ h9 => h9) 7 rfl dX10_doCall_224 ?_
        refine lv_aload hx hb dX10_doCall_227 (lv_at hl 3 rfl) ?_
        have go_ := g
        refine g_callv (va_runV (As := [.ref q0_, .ref a_26, .ref a_31, .ref a_32, .ref a_4]) (rest := []) ⟨hx, hb, hml, hown, hts⟩ (r_X1_standOn_2 l dC dI L kd tys fr_64 H.size g.2.2.2.1 a_35 ma_35 ka_35 q0_ mq0_ kq0_ a_26 ma_26 ka_26 a_31 ma_31 ka_31 a_32 ma_32 ka_32 a_4 ma_4 ka_4) (cwV 5 hts (gV_ t_1543 t_1544 t_1545 t_195 t_1546) rfl rfl rfl (by decide +kernel) ⟨(Nat.le_of_ble_eq_true rfl), (Nat.le_of_ble_eq_true rfl)⟩) (pre3V g hK ma_35 ka_35 (by decide) (q := (RX1, TX1, 18)) rfl) rfl rfl hl.1 rfl (lv_room (Nat.le_of_ble_eq_true rfl)) dX10_doCall_229 ⟨(Nat.le_of_ble_eq_true rfl), (Nat.le_of_ble_eq_true rfl)⟩) g hK (by decide) (by decide) (fx' := [(7, 2, q0_, .ref a_44), (10, 1, a0_, .ref a_35), (4, 11, a2_, .ref a_32), (4, 9, a2_, .ref a_30), (9, 9, a_26, .ref a_27), (7, 0, q0_, .ref a_24), (7, 1, q0_, .int x_18), (3, 2, a1_, .ref a_11), (4, 7, a2_, .ref a_9), (4, 6, a2_, .int x_5), (3, 3, a1_, .ref a_3), (3, 1, a1_, .ref a_1), (10, 0, a0_, .ref q0_), (4, 14, a2_, .int y0_), (3, 0, a1_, .int y2_)]) rfl (fun fr_66 H locs hp hMr_66 g => ?_)
        have hF_67 := hp
        have hG_68 := cOK.frame hMr_66 go_.2.2.2.1 mq0_ kq0_ (by decide) (by decide) hG_65
        have g := g.more hF_67
        refine lv_aload_n hx hb dX10_doCall_232 rfl (lv_at hl 5 rfl) ?_
        refine lv_aload_n hx hb dX10_doCall_233 rfl (lv_at hl 7 rfl) ?_
        refine lv_iload hx hb dX10_doCall_234 (lv_at hl 4 rfl) ?_
        refine lv_iload hx hb dX10_doCall_236 (lv_at hl 1 rfl) ?_
        have go_ := g
        refine g_callv (va_runV (As := [.ref a2_, .int x_2, .int x_29]) (rest := []) ⟨hx, hb, hml, hown, hts⟩ (r_X10_askGives l dC dI L kd tys fr_66 H.size g.2.2.2.1 a0_ ma0_ ka0_ a2_ ma2_ ka2_ x_2 bx_2 x_29 bx_29 a_35 ma_35 ka_35 q0_ mq0_ kq0_ a_26 ma_26 ka_26 x_18 h_19 x_5 b_8 y0_ by0_ hG_68 (g.fcts [6, 4, 3, 11, 14, 18] rfl)) (cwV 3 hts (gV_ t_1657 t_1659 t_77 t_194 t_1660) rfl rfl rfl (by decide +kernel) ⟨(Nat.le_of_ble_eq_true rfl), (Nat.le_of_ble_eq_true rfl)⟩) (pre3V g hK ma0_ ka0_ (by decide) (q := (RX10, TX10, 10)) rfl) rfl rfl hl.1 rfl (lv_room (Nat.le_of_ble_eq_true rfl)) dX10_doCall_238 ⟨(Nat.le_of_ble_eq_true rfl), (Nat.le_of_ble_eq_true rfl)⟩) g hK (by decide) (by decide) (fx' := [(1, 4, a_35, .ref a_4), (1, 3, a_35, .ref a_32), (1, 2, a_35, .ref a_31), (1, 1, a_35, .ref a_26), (1, 0, a_35, .ref q0_), (7, 2, q0_, .ref a_44), (10, 1, a0_, .ref a_35), (4, 11, a2_, .ref a_32), (4, 9, a2_, .ref a_30), (9, 9, a_26, .ref a_27), (7, 0, q0_, .ref a_24), (7, 1, q0_, .int x_18), (3, 2, a1_, .ref a_11), (4, 7, a2_, .ref a_9), (4, 6, a2_, .int x_5), (3, 3, a1_, .ref a_3), (3, 1, a1_, .ref a_1), (10, 0, a0_, .ref q0_), (4, 14, a2_, .int y0_), (3, 0, a1_, .int y2_)]) rfl (fun fr_69 H locs hp hMr_69 g => ?_)
        have hG_70 := cOK.frame hMr_69 go_.2.2.2.1 mq0_ kq0_ (by decide) (by decide) hG_68
        refine lv_iconst (v := 0) hx hb dX10_doCall_241 (by decide) ?_
        refine lv_istore (lv' := [(9, .int 0), (8, .ref a_31), (7, .int x_29), (6, .ref a_26), (5, .ref a_4), (4, .int x_2), (0, .ref a0_), (1, .ref a1_), (2, .ref a2_), (3, .int x3_)]) hx hb dX10_doCall_242 hl (by decide) rfl (fun ls hl => ?_)
        have loop_71 : ∀ (n : Nat) (v244_9 : Int32), bd 0 3 v244_9 → (3 - v244_9.toInt < (n : Int)) → ∀ (f : Nat → va_E) (H : Heap) (locs : List Loc) (ls : Array Slot), G3 (dC, dI) L kd tys s f0 [(1, 0), (1, 1), (1, 2), (1, 3), (1, 4), (1, 5), (1, 6), (1, 8), (1, 11), (1, 12), (1, 13), (1, 14), (1, 15), (1, 16), (1, 17), (4, 0), (4, 1), (4, 2), (4, 3), (4, 4), (4, 5), (4, 15), (4, 16)] [100, 101, 102, 103, 116, 117, 130, 131, 146] f H locs [(7, 2, q0_, .ref a_44), (10, 1, a0_, .ref a_35), (4, 11, a2_, .ref a_32), (4, 9, a2_, .ref a_30), (9, 9, a_26, .ref a_27), (7, 0, q0_, .ref a_24), (7, 1, q0_, .int x_18), (3, 2, a1_, .ref a_11), (4, 7, a2_, .ref a_9), (4, 6, a2_, .int x_5), (3, 3, a1_, .ref a_3), (3, 1, a1_, .ref a_1), (10, 0, a0_, .ref q0_), (4, 14, a2_, .int y0_), (3, 0, a1_, .int y2_)] → cOK f q0_ → lv_has ls 10 [(9, .int v244_9), (8, .ref a_31), (7, .int x_29), (6, .ref a_26), (5, .ref a_4), (4, .int x_2), (0, .ref a0_), (1, .ref a1_), (2, .ref a2_), (3, .int x3_)] → W p l e ({ frames := 4, cells := 0, slots := 0, locals := 103 } : Room) s m [.ref a0_, .ref a1_, .ref a2_, .int x3_].toArray below meth c H locs 0 0 Q (F0 m 244 ls []) := by
          intro n244
          induction n244 with
          | zero =>
            intro v244_9 bv244_9 hm244 f H locs ls g hG244_c_q0_ hl
            exact absurd hm244 (by have h9_v244_9 := bv244_9; unfold bd at h9_v244_9; omega)
          | succ n244 ih244 =>
            intro v244_9 bv244_9 hm244 f H locs ls g hG244_c_q0_ hl
            refine lv_iload hx hb dX10_doCall_244 (lv_at hl 0 rfl) ?_
            refine lv_aload_n hx hb dX10_doCall_246 rfl (lv_at hl 8 rfl) ?_
            refine g_getk (C := RX4) (T := TX4) (N := 17) hx hb hts (mc_ inX4) hown hK g rfl 6 (by decide) rfl (hts _ (List.mem_cons_of_mem _ t_851)) (fun _ h9 => h9) 9 rfl dX10_doCall_247 ?_
            refine lv_icmp_ge (tgt := 266) hx hb dX10_doCall_250 (by decide) (fun c_72 => ?_) (fun c_72 => ?_)
            · have fc_72 := le_f c_72
              have b_73 : bd 1 3 v244_9 := leR fc_72 b_8 bv244_9 (by decide)
              refine lv_aload_n hx hb dX10_doCall_266 rfl (lv_at hl 6 rfl) ?_
              refine lv_aload_n hx hb dX10_doCall_267 rfl (lv_at hl 8 rfl) ?_
              refine lv_iload hx hb dX10_doCall_268 (lv_at hl 5 rfl) ?_
              refine lv_aload_n hx hb dX10_doCall_270 rfl (lv_at hl 6 rfl) ?_
              refine g_getk (C := RX10) (T := TX10) (N := 10) hx hb hts (mc_ inX10) hown hK g rfl 0 (by decide) rfl (hts _ (List.mem_cons_of_mem _ t_912)) (fun _ h9 => h9) 12 rfl dX10_doCall_271 ?_
              refine g_getk (C := RX7) (T := TX7) (N := 19) hx hb hts (mc_ inX7) hown hK g rfl 2 (by decide) rfl (hts _ (List.mem_cons_of_mem _ t_634)) (fun _ h9 => h9) 0 rfl dX10_doCall_274 ?_
              refine lv_iload hx hb dX10_doCall_277 (lv_at hl 2 rfl) ?_
              refine g_aald hx hb hK g ma_44 ka_44 (by decide) rfl (by decide) (in_bd bx_29 (by decide)) dX10_doCall_279 (fun a_74 ma_74 ua_74 wa_74 => ?_)
              have ka_74 : kd a_74 = 6 := by omega
              refine lv_aload hx hb dX10_doCall_280 (lv_at hl 4 rfl) ?_
              have go_ := g
              refine g_callv (va_runV (As := [.ref a2_, .int x_2, .ref a_74, .ref a_4]) (rest := []) ⟨hx, hb, hml, hown, hts⟩ (r_X10_askModel l dC dI L kd tys f H.size g.2.2.2.1 a0_ ma0_ ka0_ a2_ ma2_ ka2_ x_2 bx_2 a_74 ma_74 ka_74 a_4 ma_4 ka_4 q0_ mq0_ kq0_ x_18 h_19 x_5 b_8 y0_ by0_ hG244_c_q0_ (g.fcts [12, 6, 9, 13] rfl)) (cwV 4 hts (gV_ t_1661 t_1663 t_78 t_194 t_1664) rfl rfl rfl (by decide +kernel) ⟨(Nat.le_of_ble_eq_true rfl), (Nat.le_of_ble_eq_true rfl)⟩) (pre3V g hK ma0_ ka0_ (by decide) (q := (RX10, TX10, 10)) rfl) rfl rfl hl.1 rfl (lv_room (Nat.le_of_ble_eq_true rfl)) dX10_doCall_282 ⟨(Nat.le_of_ble_eq_true rfl), (Nat.le_of_ble_eq_true rfl)⟩) g hK (by decide) (by decide) (fx' := [(7, 2, q0_, .ref a_44), (10, 1, a0_, .ref a_35), (4, 11, a2_, .ref a_32), (4, 9, a2_, .ref a_30), (9, 9, a_26, .ref a_27), (7, 0, q0_, .ref a_24), (7, 1, q0_, .int x_18), (3, 2, a1_, .ref a_11), (4, 7, a2_, .ref a_9), (4, 6, a2_, .int x_5), (3, 3, a1_, .ref a_3), (3, 1, a1_, .ref a_1), (10, 0, a0_, .ref q0_), (4, 14, a2_, .int y0_), (3, 0, a1_, .int y2_)]) rfl (fun fr_75 H locs hp hMr_75 g => ?_)
              have hG_76 := cOK.frame hMr_75 go_.2.2.2.1 mq0_ kq0_ (by decide) (by decide) hG244_c_q0_
              subst hQ
              exact W.vret hx hb hr (fun t ht hW => ⟨⟨_, rfl, trivial, q3_of g hK ht hW⟩, g.2.2.1.F ht⟩) g.2.2.1.2.2 dX10_doCall_285
            · have fc_72 := nle_f c_72
              have b_77 : bd 0 2 v244_9 := ltL fc_72 bv244_9 b_8 (by decide)
              refine lv_aload_n hx hb dX10_doCall_253 rfl (lv_at hl 6 rfl) ?_
              refine lv_aload_n hx hb dX10_doCall_254 rfl (lv_at hl 8 rfl) ?_
              refine lv_iload hx hb dX10_doCall_255 (lv_at hl 0 rfl) ?_
              have go_ := g
              refine g_callv (va_runV (As := [.ref a2_, .int v244_9]) (rest := []) ⟨hx, hb, hml, hown, hts⟩ (r_X10_askKept_4 l dC dI L kd tys f H.size g.2.2.2.1 a0_ ma0_ ka0_ a2_ ma2_ ka2_ v244_9 b_77 q0_ mq0_ kq0_ a_35 ma_35 ka_35 x_18 h_19 x_5 b_8 y0_ by0_ hG244_c_q0_ (g.fcts [12, 1, 6, 9, 13] rfl)) (cwV 2 hts (gV_ t_1539 t_1541 t_56 t_194 t_1542) rfl rfl rfl (by decide +kernel) ⟨(Nat.le_of_ble_eq_true rfl), (Nat.le_of_ble_eq_true rfl)⟩) (pre3V g hK ma0_ ka0_ (by decide) (q := (RX10, TX10, 10)) rfl) rfl rfl hl.1 rfl (lv_room (Nat.le_of_ble_eq_true rfl)) dX10_doCall_257 ⟨(Nat.le_of_ble_eq_true rfl), (Nat.le_of_ble_eq_true rfl)⟩) g hK (by decide) (by decide) (fx' := [(7, 2, q0_, .ref a_44), (10, 1, a0_, .ref a_35), (4, 11, a2_, .ref a_32), (4, 9, a2_, .ref a_30), (9, 9, a_26, .ref a_27), (7, 0, q0_, .ref a_24), (7, 1, q0_, .int x_18), (3, 2, a1_, .ref a_11), (4, 7, a2_, .ref a_9), (4, 6, a2_, .int x_5), (3, 3, a1_, .ref a_3), (3, 1, a1_, .ref a_1), (10, 0, a0_, .ref q0_), (4, 14, a2_, .int y0_), (3, 0, a1_, .int y2_)]) rfl (fun fr_78 H locs hp hMr_78 g => ?_)
              have hG_79 := cOK.frame hMr_78 go_.2.2.2.1 mq0_ kq0_ (by decide) (by decide) hG244_c_q0_
              obtain ⟨y_80, ey_80⟩ : ∃ z : Int32, z = v244_9 + 1 := ⟨_, rfl⟩
              refine lv_iinc (v := y_80) (lv' := [(9, .int y_80), (8, .ref a_31), (7, .int x_29), (6, .ref a_26), (5, .ref a_4), (4, .int x_2), (0, .ref a0_), (1, .ref a1_), (2, .ref a2_), (3, .int x3_)]) hx hb dX10_doCall_260 hl (k := 0) rfl (by rw [ey_80]; rfl) (by decide) rfl (fun ls hl => ?_)
              have ty_80 := add_bd ey_80 b_77 kb_1 (by decide)
              have b_81 : bd 1 3 y_80 := add_rg ty_80 b_77 kb_1 (by decide)
              refine lv_goto (tgt := 244) hx hb dX10_doCall_263 (by decide) ?_
              have hl9 := lv_sub hl [0, 1, 2, 3, 4, 5, 6, 7, 8, 9] (by rfl : lv_pick [(9, .int y_80), (8, .ref a_31), (7, .int x_29), (6, .ref a_26), (5, .ref a_4), (4, .int x_2), (0, .ref a0_), (1, .ref a1_), (2, .ref a2_), (3, .int x3_)] [0, 1, 2, 3, 4, 5, 6, 7, 8, 9] = [(9, .int y_80), (8, .ref a_31), (7, .int x_29), (6, .ref a_26), (5, .ref a_4), (4, .int x_2), (0, .ref a0_), (1, .ref a1_), (2, .ref a2_), (3, .int x3_)])
              have g9 := g.sub (fx' := [(7, 2, q0_, .ref a_44), (10, 1, a0_, .ref a_35), (4, 11, a2_, .ref a_32), (4, 9, a2_, .ref a_30), (9, 9, a_26, .ref a_27), (7, 0, q0_, .ref a_24), (7, 1, q0_, .int x_18), (3, 2, a1_, .ref a_11), (4, 7, a2_, .ref a_9), (4, 6, a2_, .int x_5), (3, 3, a1_, .ref a_3), (3, 1, a1_, .ref a_1), (10, 0, a0_, .ref q0_), (4, 14, a2_, .int y0_), (3, 0, a1_, .int y2_)]) [0, 1, 2, 3, 4, 5, 6, 7, 8, 9, 10, 11, 12, 13, 14] rfl
              exact ih244  y_80 (bd_sub b_81 (by decide)) (by have h9_0 := b_81; unfold bd at h9_0; have h9_1 := bv244_9; unfold bd at h9_1; have h9_2 := kb_0; unfold bd at h9_2; have h9_3 := kb_1; unfold bd at h9_3; omega) _ _ _ _ g9 hG_79 hl9
        have hl9 := lv_sub hl [0, 1, 2, 3, 4, 5, 6, 7, 8, 9] (by rfl : lv_pick [(9, .int 0), (8, .ref a_31), (7, .int x_29), (6, .ref a_26), (5, .ref a_4), (4, .int x_2), (0, .ref a0_), (1, .ref a1_), (2, .ref a2_), (3, .int x3_)] [0, 1, 2, 3, 4, 5, 6, 7, 8, 9] = [(9, .int 0), (8, .ref a_31), (7, .int x_29), (6, .ref a_26), (5, .ref a_4), (4, .int x_2), (0, .ref a0_), (1, .ref a1_), (2, .ref a2_), (3, .int x3_)])
        have g9 := g.sub (fx' := [(7, 2, q0_, .ref a_44), (10, 1, a0_, .ref a_35), (4, 11, a2_, .ref a_32), (4, 9, a2_, .ref a_30), (9, 9, a_26, .ref a_27), (7, 0, q0_, .ref a_24), (7, 1, q0_, .int x_18), (3, 2, a1_, .ref a_11), (4, 7, a2_, .ref a_9), (4, 6, a2_, .int x_5), (3, 3, a1_, .ref a_3), (3, 1, a1_, .ref a_1), (10, 0, a0_, .ref q0_), (4, 14, a2_, .int y0_), (3, 0, a1_, .int y2_)]) [5, 6, 7, 8, 9, 10, 11, 12, 13, 14, 15, 16, 17, 18, 19] rfl
        exact loop_71 (9) 0 (bd_sub kb_0 (by decide)) (by have h9_0 := kb_0; unfold bd at h9_0; have h9_1 := kb_1; unfold bd at h9_1; omega) _ _ _ _ g9 hG_70 hl9
      · have fc_42 := neq_f c_42
        subst hQ
        exact W.vret hx hb hr (fun t ht hW => ⟨⟨_, rfl, trivial, q3_of g hK ht hW⟩, g.2.2.1.F ht⟩) g.2.2.1.2.2 dX10_doCall_139
