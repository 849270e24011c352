set_option maxHeartbeats 4000000 in
set_option maxRecDepth 100000 in
theorem r_X2_readMark_4 (l : Launch) (dC : Nat → ClassId) (dI : Nat → Nat → Nat) (L : List Nat) (kd : Nat → Nat) (tys : List (ClassId × FieldType)) (f0 : Nat → va_E) (sz : Nat) (hWT : WT L kd tys f0) (a0_ : Nat) (ma0_ : a0_ ∈ L) (ka0_ : kd a0_ = 2) (q0_ : Nat) (mq0_ : q0_ ∈ L) (kq0_ : kd q0_ = 8) (q1_ : Nat) (mq1_ : q1_ ∈ L) (kq1_ : kd q1_ = 5) (q2_ : Nat) (mq2_ : q2_ ∈ L) (kq2_ : kd q2_ = 0) (q3_ : Nat) (mq3_ : q3_ ∈ L) (kq3_ : kd q3_ = 7) (q4_ : Nat) (mq4_ : q4_ ∈ L) (kq4_ : kd q4_ = 9) (q5_ : Nat) (mq5_ : q5_ ∈ L) (kq5_ : kd q5_ = 6) (q8_ : Nat) (mq8_ : q8_ ∈ L) (kq8_ : kd q8_ = 7) (q9_ : Nat) (mq9_ : q9_ ∈ L) (kq9_ : kd q9_ = 9) (y0_ : Int32) (by0_ : bd 0 0 y0_) (y1_ : Int32) (by1_ : bd 1 12 y1_) (y2_ : Int32) (by2_ : bd 1 96 y2_) (y3_ : Int32) (by3_ : bd 0 8 y3_) (y4_ : Int32) (by4_ : bd 0 7 y4_) (y5_ : Int32) (by5_ : bd 0 7 y5_) (hGeq2_ : eOK f0 q2_) (hfx : Fs L kd f0 [(2, 0, a0_, .ref q0_), (2, 1, a0_, .ref q1_), (2, 2, a0_, .ref q2_), (2, 3, a0_, .ref q3_), (2, 4, a0_, .ref q4_), (2, 5, a0_, .ref q5_), (0, 0, q2_, .ref q0_), (0, 1, q2_, .ref q1_), (5, 0, q1_, .ref q8_), (5, 1, q1_, .ref q9_), (8, 8, q0_, .int y0_), (9, 8, q4_, .int y1_), (7, 3, q3_, .int y2_), (6, 12, q5_, .int y3_), (5, 2, q1_, .int y4_), (7, 1, q3_, .int y5_)]) : Met l yX2_readMark (.code yX2_readMark cX2_readMark 3 none :: lw_g) ({ frames := 5, cells := 0, slots := 0, locals := 118 }) (va_Pc [.ref a0_] (P3 (dC, dI) L tys f0 sz)) (va_Qv (fun (f : Nat → va_E) => (eOK f q2_ ∧ bd 0 7 y3_ ∧ ∃ z0_ : Int32, bd 1 1201 z0_ ∧ ∃ z2_ : Int32, bd 1 500 z2_ ∧ ∃ z3_ : Int32, bd 1 8 z3_ ∧ Fs L kd f [(8, 6, q0_, .int z0_), (8, 8, q0_, .int y0_), (7, 13, q3_, .int z2_), (6, 12, q5_, .int z3_)]) ∨ (eOK f q2_ ∧ ∃ z0_ : Int32, bd 1201 1201 z0_ ∧ ∃ z1_ : Int32, bd 1 7 z1_ ∧ ∃ z2_ : Int32, bd 1 500 z2_ ∧ ∃ z3_ : Int32, bd 1 9 z3_ ∧ Fs L kd f [(8, 6, q0_, .int z0_), (8, 8, q0_, .int z1_), (7, 13, q3_, .int z2_), (6, 12, q5_, .int z3_)])) (Q3 (dC, dI) L kd tys [(0, 2), (0, 8), (0, 10), (0, 11), (0, 12), (0, 13), (2, 6), (5, 7), (5, 8), (6, 6), (6, 12), (7, 6), (7, 13), (7, 18), (8, 6), (8, 8), (8, 9)] [110, 111, 112, 113, 114, 115, 138, 139, 140, 141, 142, 143, 144, 145] f0 sz) (pA L sz)) 0 0 (pA L sz) := by
  refine Met.ofW (cc := cX2_readMark) (maxL := 3) (ret := none) (by decide) rfl ?_
  intro p e s m args below meth c s₁ B hml hv
  obtain ⟨rfl, hsz, hP, hK, hD0⟩ := hv
  have hx := B.exec
  have hb := B.bytes
  have hr := B.returns
  have hts := atoms_spec (ws := (.code yX2_readMark cX2_readMark 3 none :: lw_g)) B.pre
  have hown : s.vm.findClass RX2 = some m.cls := findClass_of_methodNamed B.named
  have hlocks := B.notSynchronized
  subst hsz
  have g : G3 (dC, dI) L kd tys s f0 [(0, 2), (0, 8), (0, 10), (0, 11), (0, 12), (0, 13), (2, 6), (5, 7), (5, 8), (6, 6), (6, 12), (7, 6), (7, 13), (7, 18), (8, 6), (8, 8), (8, 9)] [110, 111, 112, 113, 114, 115, 138, 139, 140, 141, 142, 143, 144, 145] f0 s.heap [] [(2, 0, a0_, .ref q0_), (2, 1, a0_, .ref q1_), (2, 2, a0_, .ref q2_), (2, 3, a0_, .ref q3_), (2, 4, a0_, .ref q4_), (2, 5, a0_, .ref q5_), (0, 0, q2_, .ref q0_), (0, 1, q2_, .ref q1_), (5, 0, q1_, .ref q8_), (5, 1, q1_, .ref q9_), (8, 8, q0_, .int y0_), (9, 8, q4_, .int y1_), (7, 3, q3_, .int y2_), (6, 12, q5_, .int y3_), (5, 2, q1_, .int y4_), (7, 1, q3_, .int y5_)] := G3.start hP hD0 hWT hfx
  have hl := lv_entry ([.ref a0_]) (n := 3) (Nat.le_of_ble_eq_true rfl)
  rw [lg_entry_eq]
  generalize (lg_sl ([.ref a0_]) ++ List.replicate (3 - (lg_sl ([.ref a0_])).length) Slot.unset).toArray = ls at hl ⊢
  have hl : lv_has ls 3 [(0, .ref a0_)] := hl
  refine W_q (fun Q hQ => ?_)
  refine lv_aload_n hx hb dX2_readMark_0 rfl (lv_at hl 0 rfl) ?_
  refine g_getk (C := RX2) (T := TX2) (N := 16) hx hb hts (mc_ inX2) hown hK g rfl 0 (by decide) rfl (hts _ (List.mem_cons_of_mem _ t_416)) (fun _ h9 => h9) 0 rfl dX2_readMark_1 ?_
  have go_ := g
  refine g_calli (va_runV (As := []) (rest := []) ⟨hx, hb, hml, hown, hts⟩ (r_X8_kind l dC dI L kd tys f0 s.heap.size g.2.2.2.1 q0_ mq0_ kq0_) (cwV 0 hts (gV_ t_1118 t_1119 t_1120 t_184 t_1121) rfl rfl rfl (by decide +kernel) ⟨(Nat.le_of_ble_eq_true rfl), (Nat.le_of_ble_eq_true rfl)⟩) (pre3V g hK mq0_ kq0_ (by decide) (q := (RX8, TX8, 10)) rfl) rfl rfl hl.1 rfl (lv_room (Nat.le_of_ble_eq_true rfl)) dX2_readMark_4 ⟨(Nat.le_of_ble_eq_true rfl), (Nat.le_of_ble_eq_true rfl)⟩) g hK (by decide) (by decide) (fx' := [(2, 0, a0_, .ref q0_), (2, 1, a0_, .ref q1_), (2, 2, a0_, .ref q2_), (2, 3, a0_, .ref q3_), (2, 4, a0_, .ref q4_), (2, 5, a0_, .ref q5_), (0, 0, q2_, .ref q0_), (0, 1, q2_, .ref q1_), (5, 0, q1_, .ref q8_), (5, 1, q1_, .ref q9_), (8, 8, q0_, .int y0_), (9, 8, q4_, .int y1_), (7, 3, q3_, .int y2_), (6, 12, q5_, .int y3_), (5, 2, q1_, .int y4_), (7, 1, q3_, .int y5_)]) rfl (fun r_1 fr_1 H locs hp hMr_1 g => ?_)
  have hG_2 := eOK.frame hMr_1 go_.2.2.2.1 mq2_ kq2_ (by decide) (by decide) hGeq2_
  refine lv_istore_n (lv' := [(1, .int r_1), (0, .ref a0_)]) hx hb dX2_readMark_7 rfl hl (by decide) rfl (fun ls hl => ?_)
  refine lv_aload_n hx hb dX2_readMark_8 rfl (lv_at hl 1 rfl) ?_
  refine g_getk (C := RX2) (T := TX2) (N := 16) hx hb hts (mc_ inX2) hown hK g rfl 0 (by decide) rfl (hts _ (List.mem_cons_of_mem _ t_416)) (fun _ h9 => h9) 0 rfl dX2_readMark_9 ?_
  have go_ := g
  refine g_calli (va_runV (As := []) (rest := []) ⟨hx, hb, hml, hown, hts⟩ (r_X8_place l dC dI L kd tys fr_1 H.size g.2.2.2.1 q0_ mq0_ kq0_) (cwV 0 hts (gV_ t_1110 t_1111 t_1112 t_184 t_1113) rfl rfl rfl (by decide +kernel) ⟨(Nat.le_of_ble_eq_true rfl), (Nat.le_of_ble_eq_true rfl)⟩) (pre3V g hK mq0_ kq0_ (by decide) (q := (RX8, TX8, 10)) rfl) rfl rfl hl.1 rfl (lv_room (Nat.le_of_ble_eq_true rfl)) dX2_readMark_12 ⟨(Nat.le_of_ble_eq_true rfl), (Nat.le_of_ble_eq_true rfl)⟩) g hK (by decide) (by decide) (fx' := [(2, 0, a0_, .ref q0_), (2, 1, a0_, .ref q1_), (2, 2, a0_, .ref q2_), (2, 3, a0_, .ref q3_), (2, 4, a0_, .ref q4_), (2, 5, a0_, .ref q5_), (0, 0, q2_, .ref q0_), (0, 1, q2_, .ref q1_), (5, 0, q1_, .ref q8_), (5, 1, q1_, .ref q9_), (8, 8, q0_, .int y0_), (9, 8, q4_, .int y1_), (7, 3, q3_, .int y2_), (6, 12, q5_, .int y3_), (5, 2, q1_, .int y4_), (7, 1, q3_, .int y5_)]) rfl (fun r_3 fr_3 H locs hp hMr_3 g => ?_)
  have hG_4 := eOK.frame hMr_3 go_.2.2.2.1 mq2_ kq2_ (by decide) (by decide) hG_2
  refine lv_istore_n (lv' := [(2, .int r_3), (1, .int r_1), (0, .ref a0_)]) hx hb dX2_readMark_15 rfl hl (by decide) rfl (fun ls hl => ?_)
  refine lv_aload_n hx hb dX2_readMark_16 rfl (lv_at hl 2 rfl) ?_
  refine g_getk (C := RX2) (T := TX2) (N := 16) hx hb hts (mc_ inX2) hown hK g rfl 5 (by decide) rfl (hts _ (List.mem_cons_of_mem _ t_421)) (fun _ h9 => h9) 5 rfl dX2_readMark_17 ?_
  refine g_getk (C := RX6) (T := TX6) (N := 13) hx hb hts (mc_ inX6) hown hK g rfl 12 (by decide) rfl (hts _ (List.mem_cons_of_mem _ t_591)) (fun _ h9 => h9) 13 rfl dX2_readMark_20 ?_
  refine lv_bipush (v := 8) hx hb dX2_readMark_23 (by decide) ?_
  have kb_8 : bd 8 8 (8 : Int32) := ⟨by decide, by decide⟩
  refine lv_icmp_lt (tgt := 37) hx hb dX2_readMark_25 (by decide) (fun c_5 => ?_) (fun c_5 => ?_)
  · have fc_5 := lt_f c_5
    have b_6 : bd 0 7 y3_ := ltL fc_5 by3_ kb_8 (by decide)
    refine lv_aload_n hx hb dX2_readMark_37 rfl (lv_at hl 2 rfl) ?_
    refine g_getk (C := RX2) (T := TX2) (N := 16) hx hb hts (mc_ inX2) hown hK g rfl 0 (by decide) rfl (hts _ (List.mem_cons_of_mem _ t_416)) (fun _ h9 => h9) 0 rfl dX2_readMark_38 ?_
    have go_ := g
    refine g_callv (va_runV (As := []) (rest := []) ⟨hx, hb, hml, hown, hts⟩ (r_X8_next l dC dI L kd tys fr_3 H.size g.2.2.2.1 q0_ mq0_ kq0_) (cwV 0 hts (gV_ t_1131 t_1103 t_1104 t_184 t_1105) rfl rfl rfl (by decide +kernel) ⟨(Nat.le_of_ble_eq_true rfl), (Nat.le_of_ble_eq_true rfl)⟩) (pre3V g hK mq0_ kq0_ (by decide) (q := (RX8, TX8, 10)) rfl) rfl rfl hl.1 rfl (lv_room (Nat.le_of_ble_eq_true rfl)) dX2_readMark_41 ⟨(Nat.le_of_ble_eq_true rfl), (Nat.le_of_ble_eq_true rfl)⟩) g hK (by decide) (by decide) (fx' := [(2, 0, a0_, .ref q0_), (2, 1, a0_, .ref q1_), (2, 2, a0_, .ref q2_), (2, 3, a0_, .ref q3_), (2, 4, a0_, .ref q4_), (2, 5, a0_, .ref q5_), (0, 0, q2_, .ref q0_), (0, 1, q2_, .ref q1_), (5, 0, q1_, .ref q8_), (5, 1, q1_, .ref q9_), (8, 8, q0_, .int y0_), (9, 8, q4_, .int y1_), (7, 3, q3_, .int y2_), (6, 12, q5_, .int y3_), (5, 2, q1_, .int y4_), (7, 1, q3_, .int y5_)]) rfl (fun fr_7 H locs hp hMr_7 g => ?_)
    obtain ⟨x_8, h_9, hF_10⟩ := hp
    have hG_11 := eOK.frame hMr_7 go_.2.2.2.1 mq2_ kq2_ (by decide) (by decide) hG_4
    have g := g.more hF_10
    refine lv_iload_n hx hb dX2_readMark_44 rfl (lv_at hl 1 rfl) ?_
    refine lv_bipush (v := 20) hx hb dX2_readMark_45 (by decide) ?_
    have kb_20 : bd 20 20 (20 : Int32) := ⟨by decide, by decide⟩
    refine lv_icmp_eq (tgt := 56) hx hb dX2_readMark_47 (by decide) (fun c_12 => ?_) (fun c_12 => ?_)
    · have fc_12 := eq_f c_12
      have b_13 : bd 20 20 r_1 := eqX fc_12 (bdT r_1) kb_20 (by decide)
      refine lv_aload_n hx hb dX2_readMark_56 rfl (lv_at hl 2 rfl) ?_
      refine g_geti (C := RX2) (T := TX2) (N := 16) hx hb hts (mc_ inX2) hown hK g ma0_ ka0_ (by decide) rfl 6 (by decide) rfl (hts _ (List.mem_cons_of_mem _ t_422)) (fun _ h9 => h9) rfl dX2_readMark_57 (fun x_14 bx_14 g => ?_)
      have kb_0 : bd 0 0 (0 : Int32) := ⟨by decide, by decide⟩
      refine lv_if_eq (tgt := 72) hx hb dX2_readMark_60 (by decide) (fun c_15 => ?_) (fun c_15 => ?_)
      · have fc_15 := eq_f c_15
        have b_16 : bd 0 0 x_14 := eqX fc_15 bx_14 kb_0 (by decide)
        refine lv_aload_n hx hb dX2_readMark_72 rfl (lv_at hl 2 rfl) ?_
        refine lv_iconst (v := 1) hx hb dX2_readMark_73 (by decide) ?_
        have kb_1 : bd 1 1 (1 : Int32) := ⟨by decide, by decide⟩
        have go_ := g
        refine g_put (C := RX2) (T := TX2) (N := 16) hx hb hts (mc_ inX2) tyX2 tyX2_ok nmX2 hown hK g ma0_ ka0_ (by decide) rfl 6 (by decide) (hts _ (List.mem_cons_of_mem _ t_422)) (fun _ h9 => h9) rfl rfl (okV_i (bd_sub kb_1 (by decide))) rfl rfl (by decide) (Or.inr (Or.inl (by decide))) (fx' := [(8, 6, q0_, .int x_8), (2, 0, a0_, .ref q0_), (2, 1, a0_, .ref q1_), (2, 2, a0_, .ref q2_), (2, 3, a0_, .ref q3_), (2, 4, a0_, .ref q4_), (2, 5, a0_, .ref q5_), (0, 0, q2_, .ref q0_), (0, 1, q2_, .ref q1_), (5, 0, q1_, .ref q8_), (5, 1, q1_, .ref q9_), (8, 8, q0_, .int y0_), (9, 8, q4_, .int y1_), (7, 3, q3_, .int y2_), (6, 12, q5_, .int y3_), (5, 2, q1_, .int y4_), (7, 1, q3_, .int y5_)]) rfl dX2_readMark_74 (fun f H locs hM_17 g => ?_)
        have hG_18 := eOK.frame hM_17 go_.2.2.2.1 mq2_ kq2_ (by decide) (by decide) hG_11
        refine lv_aload_n hx hb dX2_readMark_77 rfl (lv_at hl 2 rfl) ?_
        refine g_getk (C := RX2) (T := TX2) (N := 16) hx hb hts (mc_ inX2) hown hK g rfl 5 (by decide) rfl (hts _ (List.mem_cons_of_mem _ t_421)) (fun _ h9 => h9) 7 rfl dX2_readMark_78 ?_
        refine lv_dup hx hb dX2_readMark_81 rfl ?_
        refine g_getk (C := RX6) (T := TX6) (N := 13) hx hb hts (mc_ inX6) hown hK g rfl 12 (by decide) rfl (hts _ (List.mem_cons_of_mem _ t_591)) (fun _ h9 => h9) 15 rfl dX2_readMark_82 ?_
        refine lv_iconst (v := 1) hx hb dX2_readMark_85 (by decide) ?_
        refine lv_iadd hx hb dX2_readMark_86 ?_
        refine lv_topi (fun y_19 ey_19 => ?_)
        have ty_19 := add_bd ey_19 b_6 kb_1 (by decide)
        have b_20 : bd 1 8 y_19 := add_rg ty_19 b_6 kb_1 (by decide)
        have go_ := g
        refine g_put (C := RX6) (T := TX6) (N := 13) hx hb hts (mc_ inX6) tyX6 tyX6_ok nmX6 hown hK g mq5_ kq5_ (by decide) rfl 12 (by decide) (hts _ (List.mem_cons_of_mem _ t_591)) (fun _ h9 => h9) rfl rfl (okV_i (bd_sub b_20 (by decide))) rfl rfl (by decide) (Or.inr (Or.inl (by decide))) (fx' := [(2, 6, a0_, .int 1), (8, 6, q0_, .int x_8), (2, 0, a0_, .ref q0_), (2, 1, a0_, .ref q1_), (2, 2, a0_, .ref q2_), (2, 3, a0_, .ref q3_), (2, 4, a0_, .ref q4_), (2, 5, a0_, .ref q5_), (0, 0, q2_, .ref q0_), (0, 1, q2_, .ref q1_), (5, 0, q1_, .ref q8_), (5, 1, q1_, .ref q9_), (8, 8, q0_, .int y0_), (9, 8, q4_, .int y1_), (7, 3, q3_, .int y2_), (5, 2, q1_, .int y4_), (7, 1, q3_, .int y5_)]) rfl dX2_readMark_87 (fun f H locs hM_21 g => ?_)
        have hG_22 := eOK.frame hM_21 go_.2.2.2.1 mq2_ kq2_ (by decide) (by decide) hG_18
        refine lv_iload_n hx hb dX2_readMark_90 rfl (lv_at hl 1 rfl) ?_
        by_cases e_23 : r_1 = 16
        · refine lv_topi (fun z_24 ez_24 => ?_)
          obtain rfl : z_24 = 16 := ez_24.trans e_23
          have kb_16 : bd 16 16 (16 : Int32) := ⟨by decide, by decide⟩
          exact bd_no (eqX (eq_f e_23) b_13 kb_16 (lo := 20) (hi := 16) (by decide)) (by decide)
        by_cases e_25 : r_1 = 17
        · refine lv_topi (fun z_26 ez_26 => ?_)
          obtain rfl : z_26 = 17 := ez_26.trans e_25
          have kb_17 : bd 17 17 (17 : Int32) := ⟨by decide, by decide⟩
          exact bd_no (eqX (eq_f e_25) b_13 kb_17 (lo := 20) (hi := 17) (by decide)) (by decide)
        by_cases e_27 : r_1 = 18
        · refine lv_topi (fun z_28 ez_28 => ?_)
          obtain rfl : z_28 = 18 := ez_28.trans e_27
          have kb_18 : bd 18 18 (18 : Int32) := ⟨by decide, by decide⟩
          exact bd_no (eqX (eq_f e_27) b_13 kb_18 (lo := 20) (hi := 18) (by decide)) (by decide)
        by_cases e_29 : r_1 = 19
        · refine lv_topi (fun z_30 ez_30 => ?_)
          obtain rfl : z_30 = 19 := ez_30.trans e_29
          have kb_19 : bd 19 19 (19 : Int32) := ⟨by decide, by decide⟩
          exact bd_no (eqX (eq_f e_29) b_13 kb_19 (lo := 20) (hi := 19) (by decide)) (by decide)
        by_cases e_31 : r_1 = 20
        · refine lv_topi (fun z_32 ez_32 => ?_)
          obtain rfl : z_32 = 20 := ez_32.trans e_31
          have b_33 : bd 20 20 r_1 := eqX (eq_f e_31) b_13 kb_20 (by decide)
          refine lv_tableIn (off := 110) (tgt := 201) hx hb dX2_readMark_91 (by decide) (by decide) rfl (by decide) ?_
          refine lv_aload_n hx hb dX2_readMark_201 rfl (lv_at hl 2 rfl) ?_
          have go_ := g
          refine g_callv (va_runV (As := []) (rest := []) ⟨hx, hb, hml, hown, hts⟩ (r_X2_readOnly l dC dI L kd tys f H.size g.2.2.2.1 a0_ ma0_ ka0_ q0_ mq0_ kq0_ q3_ mq3_ kq3_ q4_ mq4_ kq4_ y0_ by0_ (g.fcts [3, 6, 7, 13] rfl)) (cwV 0 hts (gV_ t_1330 t_1332 t_38 t_183 t_1333) rfl rfl rfl (by decide +kernel) ⟨(Nat.le_of_ble_eq_true rfl), (Nat.le_of_ble_eq_true rfl)⟩) (pre3V g hK ma0_ ka0_ (by decide) (q := (RX2, TX2, 16)) rfl) rfl rfl hl.1 rfl (lv_room (Nat.le_of_ble_eq_true rfl)) dX2_readMark_202 ⟨(Nat.le_of_ble_eq_true rfl), (Nat.le_of_ble_eq_true rfl)⟩) g hK (by decide) (by decide) (fx' := [(6, 12, q5_, .int y_19), (2, 6, a0_, .int 1), (2, 0, a0_, .ref q0_), (2, 1, a0_, .ref q1_), (2, 2, a0_, .ref q2_), (2, 3, a0_, .ref q3_), (2, 4, a0_, .ref q4_), (2, 5, a0_, .ref q5_), (0, 0, q2_, .ref q0_), (0, 1, q2_, .ref q1_), (5, 0, q1_, .ref q8_), (5, 1, q1_, .ref q9_), (9, 8, q4_, .int y1_), (7, 3, q3_, .int y2_), (5, 2, q1_, .int y4_), (7, 1, q3_, .int y5_)]) rfl (fun fr_34 H locs hp hMr_34 g => ?_)
          rcases hp with ⟨x_35, h_36, hF_37⟩ | ⟨x_38, h_39, x_40, h_41, hF_42⟩
          · have hG_43 := eOK.frame hMr_34 go_.2.2.2.1 mq2_ kq2_ (by decide) (by decide) hG_22
            have g := g.more hF_37
            refine lv_goto (tgt := 234) hx hb dX2_readMark_205 (by decide) ?_
            refine lv_aload_n hx hb dX2_readMark_234 rfl (lv_at hl 2 rfl) ?_
            refine g_getk (C := RX2) (T := TX2) (N := 16) hx hb hts (mc_ inX2) hown hK g rfl 0 (by decide) rfl (hts _ (List.mem_cons_of_mem _ t_416)) (fun _ h9 => h9) 4 rfl dX2_readMark_235 ?_
            refine lv_bipush (v := 59) hx hb dX2_readMark_238 (by decide) ?_
            have go_ := g
            refine g_callv (va_runV (As := [.int 59]) (rest := []) ⟨hx, hb, hml, hown, hts⟩ (r_X8_take l dC dI L kd tys fr_34 H.size g.2.2.2.1 q0_ mq0_ kq0_ 59 y0_ by0_ (g.fcts [1] rfl)) (cwV 1 hts (gV_ t_1098 t_1099 t_1100 t_184 t_1101) rfl rfl rfl (by decide +kernel) ⟨(Nat.le_of_ble_eq_true rfl), (Nat.le_of_ble_eq_true rfl)⟩) (pre3V g hK mq0_ kq0_ (by decide) (q := (RX8, TX8, 10)) rfl) rfl rfl hl.1 rfl (lv_room (Nat.le_of_ble_eq_true rfl)) dX2_readMark_240 ⟨(Nat.le_of_ble_eq_true rfl), (Nat.le_of_ble_eq_true rfl)⟩) g hK (by decide) (by decide) (fx' := [(7, 13, q3_, .int x_35), (6, 12, q5_, .int y_19), (2, 6, a0_, .int 1), (2, 0, a0_, .ref q0_), (2, 1, a0_, .ref q1_), (2, 2, a0_, .ref q2_), (2, 3, a0_, .ref q3_), (2, 4, a0_, .ref q4_), (2, 5, a0_, .ref q5_), (0, 0, q2_, .ref q0_), (0, 1, q2_, .ref q1_), (5, 0, q1_, .ref q8_), (5, 1, q1_, .ref q9_), (9, 8, q4_, .int y1_), (7, 3, q3_, .int y2_), (5, 2, q1_, .int y4_), (7, 1, q3_, .int y5_)]) rfl (fun fr_44 H locs hp hMr_44 g => ?_)
            rcases hp with ⟨x_45, h_46, hF_47⟩ | ⟨x_48, h_49, hF_50⟩
            · have hG_51 := eOK.frame hMr_44 go_.2.2.2.1 mq2_ kq2_ (by decide) (by decide) hG_43
              have g := g.more hF_47
              subst hQ
              exact W.vret hx hb hr (fun t ht hW => ⟨⟨_, rfl, Or.inl ⟨hG_51, b_6, x_45, h_46, x_35, h_36, y_19, b_20, (g.fcts [0, 1, 2, 3] rfl)⟩, q3_of g hK ht hW⟩, g.2.2.1.F ht⟩) g.2.2.1.2.2 dX2_readMark_243
            · have hG_52 := eOK.frame hMr_44 go_.2.2.2.1 mq2_ kq2_ (by decide) (by decide) hG_43
              have g := g.more hF_50
              have kb_1201 : bd 1201 1201 (1201 : Int32) := ⟨by decide, by decide⟩
              subst hQ
              exact W.vret hx hb hr (fun t ht hW => ⟨⟨_, rfl, Or.inr (⟨hG_52, 1201, kb_1201, x_48, h_49, x_35, h_36, y_19, (bd_sub b_20 (by decide)), (g.fcts [0, 1, 2, 3] rfl)⟩), q3_of g hK ht hW⟩, g.2.2.1.F ht⟩) g.2.2.1.2.2 dX2_readMark_243
          · have hG_53 := eOK.frame hMr_34 go_.2.2.2.1 mq2_ kq2_ (by decide) (by decide) hG_22
            have g := g.more hF_42
            refine lv_goto (tgt := 234) hx hb dX2_readMark_205 (by decide) ?_
            refine lv_aload_n hx hb dX2_readMark_234 rfl (lv_at hl 2 rfl) ?_
            refine g_getk (C := RX2) (T := TX2) (N := 16) hx hb hts (mc_ inX2) hown hK g rfl 0 (by decide) rfl (hts _ (List.mem_cons_of_mem _ t_416)) (fun _ h9 => h9) 5 rfl dX2_readMark_235 ?_
            refine lv_bipush (v := 59) hx hb dX2_readMark_238 (by decide) ?_
            have kb_1201 : bd 1201 1201 (1201 : Int32) := ⟨by decide, by decide⟩
            have go_ := g
            refine g_callv (va_runV (As := [.int 59]) (rest := []) ⟨hx, hb, hml, hown, hts⟩ (r_X8_take_2 l dC dI L kd tys fr_34 H.size g.2.2.2.1 q0_ mq0_ kq0_ 59 1201 kb_1201 x_38 h_39 (g.fcts [0, 1] rfl)) (cwV 1 hts (gV_ t_1098 t_1099 t_1100 t_184 t_1101) rfl rfl rfl (by decide +kernel) ⟨(Nat.le_of_ble_eq_true rfl), (Nat.le_of_ble_eq_true rfl)⟩) (pre3V g hK mq0_ kq0_ (by decide) (q := (RX8, TX8, 10)) rfl) rfl rfl hl.1 rfl (lv_room (Nat.le_of_ble_eq_true rfl)) dX2_readMark_240 ⟨(Nat.le_of_ble_eq_true rfl), (Nat.le_of_ble_eq_true rfl)⟩) g hK (by decide) (by decide) (fx' := [(8, 8, q0_, .int x_38), (7, 13, q3_, .int x_40), (6, 12, q5_, .int y_19), (2, 6, a0_, .int 1), (2, 0, a0_, .ref q0_), (2, 1, a0_, .ref q1_), (2, 2, a0_, .ref q2_), (2, 3, a0_, .ref q3_), (2, 4, a0_, .ref q4_), (2, 5, a0_, .ref q5_), (0, 0, q2_, .ref q0_), (0, 1, q2_, .ref q1_), (5, 0, q1_, .ref q8_), (5, 1, q1_, .ref q9_), (9, 8, q4_, .int y1_), (7, 3, q3_, .int y2_), (5, 2, q1_, .int y4_), (7, 1, q3_, .int y5_)]) rfl (fun fr_54 H locs hp hMr_54 g => ?_)
            obtain ⟨x_55, h_56, hF_57⟩ := hp
            have hG_58 := eOK.frame hMr_54 go_.2.2.2.1 mq2_ kq2_ (by decide) (by decide) hG_53
            have g := g.more hF_57
            subst hQ
            exact W.vret hx hb hr (fun t ht hW => ⟨⟨_, rfl, Or.inr (⟨hG_58, x_55, h_56, x_38, h_39, x_40, h_41, y_19, (bd_sub b_20 (by decide)), (g.fcts [0, 1, 2, 3] rfl)⟩), q3_of g hK ht hW⟩, g.2.2.1.F ht⟩) g.2.2.1.2.2 dX2_readMark_243
        refine lv_tableOut (tgt := 208) hx hb dX2_readMark_91 (by have a0 : r_1.toInt ≠ 16 := fun h => e_23 (Int32.toInt_inj.mp (h.trans (by decide))); have a1 : r_1.toInt ≠ 17 := fun h => e_25 (Int32.toInt_inj.mp (h.trans (by decide))); have a2 : r_1.toInt ≠ 18 := fun h => e_27 (Int32.toInt_inj.mp (h.trans (by decide))); have a3 : r_1.toInt ≠ 19 := fun h => e_29 (Int32.toInt_inj.mp (h.trans (by decide))); have a4 : r_1.toInt ≠ 20 := fun h => e_31 (Int32.toInt_inj.mp (h.trans (by decide))); omega) (by decide) ?_
        refine lv_aload_n hx hb dX2_readMark_208 rfl (lv_at hl 2 rfl) ?_
        refine g_getk (C := RX2) (T := TX2) (N := 16) hx hb hts (mc_ inX2) hown hK g rfl 3 (by decide) rfl (hts _ (List.mem_cons_of_mem _ t_419)) (fun _ h9 => h9) 6 rfl dX2_readMark_209 ?_
        refine lv_bipush (v := 6) hx hb dX2_readMark_212 (by decide) ?_
        refine lv_aload_n hx hb dX2_readMark_214 rfl (lv_at hl 2 rfl) ?_
        refine g_getk (C := RX2) (T := TX2) (N := 16) hx hb hts (mc_ inX2) hown hK g rfl 1 (by decide) rfl (hts _ (List.mem_cons_of_mem _ t_417)) (fun _ h9 => h9) 4 rfl dX2_readMark_215 ?_
        refine g_getk (C := RX5) (T := TX5) (N := 9) hx hb hts (mc_ inX5) hown hK g rfl 2 (by decide) rfl (hts _ (List.mem_cons_of_mem _ t_333)) (fun _ h9 => h9) 16 rfl dX2_readMark_218 ?_
        refine lv_iload_n hx hb dX2_readMark_221 rfl (lv_at hl 0 rfl) ?_
        have go_ := g
        refine g_calli (va_runV (As := [.int 6, .int y4_, .int r_3]) (rest := []) ⟨hx, hb, hml, hown, hts⟩ (r_X7_addMark l dC dI L kd tys f H.size g.2.2.2.1 q3_ mq3_ kq3_ 6 y4_ r_3) (cwV 3 hts (gV_ t_1173 t_1174 t_1175 t_191 t_1176) rfl rfl rfl (by decide +kernel) ⟨(Nat.le_of_ble_eq_true rfl), (Nat.le_of_ble_eq_true rfl)⟩) (pre3V g hK mq3_ kq3_ (by decide) (q := (RX7, TX7, 19)) rfl) rfl rfl hl.1 rfl (lv_room (Nat.le_of_ble_eq_true rfl)) dX2_readMark_222 ⟨(Nat.le_of_ble_eq_true rfl), (Nat.le_of_ble_eq_true rfl)⟩) g hK (by decide) (by decide) (fx' := [(6, 12, q5_, .int y_19), (2, 6, a0_, .int 1), (8, 6, q0_, .int x_8), (2, 0, a0_, .ref q0_), (2, 1, a0_, .ref q1_), (2, 2, a0_, .ref q2_), (2, 3, a0_, .ref q3_), (2, 4, a0_, .ref q4_), (2, 5, a0_, .ref q5_), (0, 0, q2_, .ref q0_), (0, 1, q2_, .ref q1_), (5, 0, q1_, .ref q8_), (5, 1, q1_, .ref q9_), (8, 8, q0_, .int y0_), (9, 8, q4_, .int y1_), (7, 3, q3_, .int y2_), (5, 2, q1_, .int y4_), (7, 1, q3_, .int y5_)]) rfl (fun r_59 fr_59 H locs hp hMr_59 g => ?_)
        obtain ⟨h_60, x_61, h_62, hF_63⟩ := hp
        have hG_64 := eOK.frame hMr_59 go_.2.2.2.1 mq2_ kq2_ (by decide) (by decide) hG_22
        have g := g.more hF_63
        refine lv_pop hx hb dX2_readMark_225 rfl ?_
        refine lv_aload_n hx hb dX2_readMark_226 rfl (lv_at hl 2 rfl) ?_
        refine g_getk (C := RX2) (T := TX2) (N := 16) hx hb hts (mc_ inX2) hown hK g rfl 5 (by decide) rfl (hts _ (List.mem_cons_of_mem _ t_421)) (fun _ h9 => h9) 9 rfl dX2_readMark_227 ?_
        refine lv_iconst (v := 1) hx hb dX2_readMark_230 (by decide) ?_
        have go_ := g
        refine g_put (C := RX6) (T := TX6) (N := 13) hx hb hts (mc_ inX6) tyX6 tyX6_ok nmX6 hown hK g mq5_ kq5_ (by decide) rfl 6 (by decide) (hts _ (List.mem_cons_of_mem _ t_578)) (fun _ h9 => h9) rfl rfl (okV_i (bd_sub kb_1 (by decide))) rfl rfl (by decide) (Or.inr (Or.inl (by decide))) (fx' := [(7, 13, q3_, .int x_61), (6, 12, q5_, .int y_19), (2, 6, a0_, .int 1), (8, 6, q0_, .int x_8), (2, 0, a0_, .ref q0_), (2, 1, a0_, .ref q1_), (2, 2, a0_, .ref q2_), (2, 3, a0_, .ref q3_), (2, 4, a0_, .ref q4_), (2, 5, a0_, .ref q5_), (0, 0, q2_, .ref q0_), (0, 1, q2_, .ref q1_), (5, 0, q1_, .ref q8_), (5, 1, q1_, .ref q9_), (8, 8, q0_, .int y0_), (9, 8, q4_, .int y1_), (7, 3, q3_, .int y2_), (5, 2, q1_, .int y4_), (7, 1, q3_, .int y5_)]) rfl dX2_readMark_231 (fun f H locs hM_65 g => ?_)
        have hG_66 := eOK.frame hM_65 go_.2.2.2.1 mq2_ kq2_ (by decide) (by decide) hG_64
        refine lv_aload_n hx hb dX2_readMark_234 rfl (lv_at hl 2 rfl) ?_
        refine g_getk (C := RX2) (T := TX2) (N := 16) hx hb hts (mc_ inX2) hown hK g rfl 0 (by decide) rfl (hts _ (List.mem_cons_of_mem _ t_416)) (fun _ h9 => h9) 5 rfl dX2_readMark_235 ?_
        refine lv_bipush (v := 59) hx hb dX2_readMark_238 (by decide) ?_
        have go_ := g
        refine g_callv (va_runV (As := [.int 59]) (rest := []) ⟨hx, hb, hml, hown, hts⟩ (r_X8_take l dC dI L kd tys f H.size g.2.2.2.1 q0_ mq0_ kq0_ 59 y0_ by0_ (g.fcts [15] rfl)) (cwV 1 hts (gV_ t_1098 t_1099 t_1100 t_184 t_1101) rfl rfl rfl (by decide +kernel) ⟨(Nat.le_of_ble_eq_true rfl), (Nat.le_of_ble_eq_true rfl)⟩) (pre3V g hK mq0_ kq0_ (by decide) (q := (RX8, TX8, 10)) rfl) rfl rfl hl.1 rfl (lv_room (Nat.le_of_ble_eq_true rfl)) dX2_readMark_240 ⟨(Nat.le_of_ble_eq_true rfl), (Nat.le_of_ble_eq_true rfl)⟩) g hK (by decide) (by decide) (fx' := [(6, 6, q5_, .int 1), (7, 13, q3_, .int x_61), (6, 12, q5_, .int y_19), (2, 6, a0_, .int 1), (2, 0, a0_, .ref q0_), (2, 1, a0_, .ref q1_), (2, 2, a0_, .ref q2_), (2, 3, a0_, .ref q3_), (2, 4, a0_, .ref q4_), (2, 5, a0_, .ref q5_), (0, 0, q2_, .ref q0_), (0, 1, q2_, .ref q1_), (5, 0, q1_, .ref q8_), (5, 1, q1_, .ref q9_), (9, 8, q4_, .int y1_), (7, 3, q3_, .int y2_), (5, 2, q1_, .int y4_), (7, 1, q3_, .int y5_)]) rfl (fun fr_67 H locs hp hMr_67 g => ?_)
        rcases hp with ⟨x_68, h_69, hF_70⟩ | ⟨x_71, h_72, hF_73⟩
        · have hG_74 := eOK.frame hMr_67 go_.2.2.2.1 mq2_ kq2_ (by decide) (by decide) hG_66
          have g := g.more hF_70
          subst hQ
          exact W.vret hx hb hr (fun t ht hW => ⟨⟨_, rfl, Or.inl ⟨hG_74, b_6, x_68, h_69, x_61, h_62, y_19, b_20, (g.fcts [0, 1, 3, 4] rfl)⟩, q3_of g hK ht hW⟩, g.2.2.1.F ht⟩) g.2.2.1.2.2 dX2_readMark_243
        · have hG_75 := eOK.frame hMr_67 go_.2.2.2.1 mq2_ kq2_ (by decide) (by decide) hG_66
          have g := g.more hF_73
          have kb_1201 : bd 1201 1201 (1201 : Int32) := ⟨by decide, by decide⟩
          subst hQ
          exact W.vret hx hb hr (fun t ht hW => ⟨⟨_, rfl, Or.inr (⟨hG_75, 1201, kb_1201, x_71, h_72, x_61, h_62, y_19, (bd_sub b_20 (by decide)), (g.fcts [0, 1, 3, 4] rfl)⟩), q3_of g hK ht hW⟩, g.2.2.1.F ht⟩) g.2.2.1.2.2 dX2_readMark_243
      · have fc_15 := neq_f c_15
        have b_76 : bd 1 1 x_14 := neX fc_15 bx_14 kb_0 (by decide)
        refine lv_aload_n hx hb dX2_readMark_63 rfl (lv_at hl 2 rfl) ?_
        refine g_getk (C := RX2) (T := TX2) (N := 16) hx hb hts (mc_ inX2) hown hK g rfl 0 (by decide) rfl (hts _ (List.mem_cons_of_mem _ t_416)) (fun _ h9 => h9) 2 rfl dX2_readMark_64 ?_
        refine lv_iconst (v := 5) hx hb dX2_readMark_67 (by decide) ?_
        refine lv_iload_n hx hb dX2_readMark_68 rfl (lv_at hl 0 rfl) ?_
        have kb_5 : bd 5 5 (5 : Int32) := ⟨by decide, by decide⟩
        have go_ := g
        refine g_callv (va_runV (As := [.int 5, .int r_3]) (rest := []) ⟨hx, hb, hml, hown, hts⟩ (r_X8_fail l dC dI L kd tys fr_7 H.size g.2.2.2.1 q0_ mq0_ kq0_ 5 (bd_sub kb_5 (by decide)) r_3 y0_ by0_ (g.fcts [12] rfl)) (cwV 2 hts (gV_ t_1122 t_1107 t_1108 t_184 t_1109) rfl rfl rfl (by decide +kernel) ⟨(Nat.le_of_ble_eq_true rfl), (Nat.le_of_ble_eq_true rfl)⟩) (pre3V g hK mq0_ kq0_ (by decide) (q := (RX8, TX8, 10)) rfl) rfl rfl hl.1 rfl (lv_room (Nat.le_of_ble_eq_true rfl)) dX2_readMark_69 ⟨(Nat.le_of_ble_eq_true rfl), (Nat.le_of_ble_eq_true rfl)⟩) g hK (by decide) (by decide) (fx' := [(2, 6, a0_, .int x_14), (2, 0, a0_, .ref q0_), (2, 1, a0_, .ref q1_), (2, 2, a0_, .ref q2_), (2, 3, a0_, .ref q3_), (2, 4, a0_, .ref q4_), (2, 5, a0_, .ref q5_), (0, 0, q2_, .ref q0_), (0, 1, q2_, .ref q1_), (5, 0, q1_, .ref q8_), (5, 1, q1_, .ref q9_), (9, 8, q4_, .int y1_), (7, 3, q3_, .int y2_), (6, 12, q5_, .int y3_), (5, 2, q1_, .int y4_), (7, 1, q3_, .int y5_)]) rfl (fun fr_77 H locs hp hMr_77 g => ?_)
        obtain ⟨x_78, h_79, hF_80⟩ := hp
        have hG_81 := eOK.frame hMr_77 go_.2.2.2.1 mq2_ kq2_ (by decide) (by decide) hG_11
        have g := g.more hF_80
        refine lv_aload_n hx hb dX2_readMark_72 rfl (lv_at hl 2 rfl) ?_
        refine lv_iconst (v := 1) hx hb dX2_readMark_73 (by decide) ?_
        have kb_1 : bd 1 1 (1 : Int32) := ⟨by decide, by decide⟩
        have go_ := g
        refine g_put (C := RX2) (T := TX2) (N := 16) hx hb hts (mc_ inX2) tyX2 tyX2_ok nmX2 hown hK g ma0_ ka0_ (by decide) rfl 6 (by decide) (hts _ (List.mem_cons_of_mem _ t_422)) (fun _ h9 => h9) rfl rfl (okV_i (bd_sub kb_1 (by decide))) rfl rfl (by decide) (Or.inr (Or.inl (by decide))) (fx' := [(8, 6, q0_, .int 1201), (8, 8, q0_, .int x_78), (2, 0, a0_, .ref q0_), (2, 1, a0_, .ref q1_), (2, 2, a0_, .ref q2_), (2, 3, a0_, .ref q3_), (2, 4, a0_, .ref q4_), (2, 5, a0_, .ref q5_), (0, 0, q2_, .ref q0_), (0, 1, q2_, .ref q1_), (5, 0, q1_, .ref q8_), (5, 1, q1_, .ref q9_), (9, 8, q4_, .int y1_), (7, 3, q3_, .int y2_), (6, 12, q5_, .int y3_), (5, 2, q1_, .int y4_), (7, 1, q3_, .int y5_)]) rfl dX2_readMark_74 (fun f H locs hM_82 g => ?_)
        have hG_83 := eOK.frame hM_82 go_.2.2.2.1 mq2_ kq2_ (by decide) (by decide) hG_81
        refine lv_aload_n hx hb dX2_readMark_77 rfl (lv_at hl 2 rfl) ?_
        refine g_getk (C := RX2) (T := TX2) (N := 16) hx hb hts (mc_ inX2) hown hK g rfl 5 (by decide) rfl (hts _ (List.mem_cons_of_mem _ t_421)) (fun _ h9 => h9) 8 rfl dX2_readMark_78 ?_
        refine lv_dup hx hb dX2_readMark_81 rfl ?_
        refine g_getk (C := RX6) (T := TX6) (N := 13) hx hb hts (mc_ inX6) hown hK g rfl 12 (by decide) rfl (hts _ (List.mem_cons_of_mem _ t_591)) (fun _ h9 => h9) 15 rfl dX2_readMark_82 ?_
        refine lv_iconst (v := 1) hx hb dX2_readMark_85 (by decide) ?_
        refine lv_iadd hx hb dX2_readMark_86 ?_
        refine lv_topi (fun y_84 ey_84 => ?_)
        have ty_84 := add_bd ey_84 b_6 kb_1 (by decide)
        have b_85 : bd 1 8 y_84 := add_rg ty_84 b_6 kb_1 (by decide)
        have go_ := g
        refine g_put (C := RX6) (T := TX6) (N := 13) hx hb hts (mc_ inX6) tyX6 tyX6_ok nmX6 hown hK g mq5_ kq5_ (by decide) rfl 12 (by decide) (hts _ (List.mem_cons_of_mem _ t_591)) (fun _ h9 => h9) rfl rfl (okV_i (bd_sub b_85 (by decide))) rfl rfl (by decide) (Or.inr (Or.inl (by decide))) (fx' := [(2, 6, a0_, .int 1), (8, 6, q0_, .int 1201), (8, 8, q0_, .int x_78), (2, 0, a0_, .ref q0_), (2, 1, a0_, .ref q1_), (2, 2, a0_, .ref q2_), (2, 3, a0_, .ref q3_), (2, 4, a0_, .ref q4_), (2, 5, a0_, .ref q5_), (0, 0, q2_, .ref q0_), (0, 1, q2_, .ref q1_), (5, 0, q1_, .ref q8_), (5, 1, q1_, .ref q9_), (9, 8, q4_, .int y1_), (7, 3, q3_, .int y2_), (5, 2, q1_, .int y4_), (7, 1, q3_, .int y5_)]) rfl dX2_readMark_87 (fun f H locs hM_86 g => ?_)
        have hG_87 := eOK.frame hM_86 go_.2.2.2.1 mq2_ kq2_ (by decide) (by decide) hG_83
        refine lv_iload_n hx hb dX2_readMark_90 rfl (lv_at hl 1 rfl) ?_
        by_cases e_88 : r_1 = 16
        · refine lv_topi (fun z_89 ez_89 => ?_)
          obtain rfl : z_89 = 16 := ez_89.trans e_88
          have kb_16 : bd 16 16 (16 : Int32) := ⟨by decide, by decide⟩
          exact bd_no (eqX (eq_f e_88) b_13 kb_16 (lo := 20) (hi := 16) (by decide)) (by decide)
        by_cases e_90 : r_1 = 17
        · refine lv_topi (fun z_91 ez_91 => ?_)
          obtain rfl : z_91 = 17 := ez_91.trans e_90
          have kb_17 : bd 17 17 (17 : Int32) := ⟨by decide, by decide⟩
          exact bd_no (eqX (eq_f e_90) b_13 kb_17 (lo := 20) (hi := 17) (by decide)) (by decide)
        by_cases e_92 : r_1 = 18
        · refine lv_topi (fun z_93 ez_93 => ?_)
          obtain rfl : z_93 = 18 := ez_93.trans e_92
          have kb_18 : bd 18 18 (18 : Int32) := ⟨by decide, by decide⟩
          exact bd_no (eqX (eq_f e_92) b_13 kb_18 (lo := 20) (hi := 18) (by decide)) (by decide)
        by_cases e_94 : r_1 = 19
        · refine lv_topi (fun z_95 ez_95 => ?_)
          obtain rfl : z_95 = 19 := ez_95.trans e_94
          have kb_19 : bd 19 19 (19 : Int32) := ⟨by decide, by decide⟩
          exact bd_no (eqX (eq_f e_94) b_13 kb_19 (lo := 20) (hi := 19) (by decide)) (by decide)
        by_cases e_96 : r_1 = 20
        · refine lv_topi (fun z_97 ez_97 => ?_)
          obtain rfl : z_97 = 20 := ez_97.trans e_96
          have b_98 : bd 20 20 r_1 := eqX (eq_f e_96) b_13 kb_20 (by decide)
          refine lv_tableIn (off := 110) (tgt := 201) hx hb dX2_readMark_91 (by decide) (by decide) rfl (by decide) ?_
          refine lv_aload_n hx hb dX2_readMark_201 rfl (lv_at hl 2 rfl) ?_
          have kb_1201 : bd 1201 1201 (1201 : Int32) := ⟨by decide, by decide⟩
          have go_ := g
          refine g_callv (va_runV (As := []) (rest := []) ⟨hx, hb, hml, hown, hts⟩ (r_X2_readOnly_2 l dC dI L kd tys f H.size g.2.2.2.1 a0_ ma0_ ka0_ q0_ mq0_ kq0_ q3_ mq3_ kq3_ q4_ mq4_ kq4_ 1201 kb_1201 x_78 h_79 (g.fcts [4, 7, 8, 2, 3] rfl)) (cwV 0 hts (gV_ t_1330 t_1332 t_38 t_183 t_1333) rfl rfl rfl (by decide +kernel) ⟨(Nat.le_of_ble_eq_true rfl), (Nat.le_of_ble_eq_true rfl)⟩) (pre3V g hK ma0_ ka0_ (by decide) (q := (RX2, TX2, 16)) rfl) rfl rfl hl.1 rfl (lv_room (Nat.le_of_ble_eq_true rfl)) dX2_readMark_202 ⟨(Nat.le_of_ble_eq_true rfl), (Nat.le_of_ble_eq_true rfl)⟩) g hK (by decide) (by decide) (fx' := [(6, 12, q5_, .int y_84), (2, 6, a0_, .int 1), (8, 8, q0_, .int x_78), (2, 0, a0_, .ref q0_), (2, 1, a0_, .ref q1_), (2, 2, a0_, .ref q2_), (2, 3, a0_, .ref q3_), (2, 4, a0_, .ref q4_), (2, 5, a0_, .ref q5_), (0, 0, q2_, .ref q0_), (0, 1, q2_, .ref q1_), (5, 0, q1_, .ref q8_), (5, 1, q1_, .ref q9_), (9, 8, q4_, .int y1_), (7, 3, q3_, .int y2_), (5, 2, q1_, .int y4_), (7, 1, q3_, .int y5_)]) rfl (fun fr_99 H locs hp hMr_99 g => ?_)
          obtain ⟨x_100, h_101, x_102, h_103, hF_104⟩ := hp
          have hG_105 := eOK.frame hMr_99 go_.2.2.2.1 mq2_ kq2_ (by decide) (by decide) hG_87
          have g := g.more hF_104
          refine lv_goto (tgt := 234) hx hb dX2_readMark_205 (by decide) ?_
          refine lv_aload_n hx hb dX2_readMark_234 rfl (lv_at hl 2 rfl) ?_
          refine g_getk (C := RX2) (T := TX2) (N := 16) hx hb hts (mc_ inX2) hown hK g rfl 0 (by decide) rfl (hts _ (List.mem_cons_of_mem _ t_416)) (fun _ h9 => h9) 5 rfl dX2_readMark_235 ?_
          refine lv_bipush (v := 59) hx hb dX2_readMark_238 (by decide) ?_
          have go_ := g
          refine g_callv (va_runV (As := [.int 59]) (rest := []) ⟨hx, hb, hml, hown, hts⟩ (r_X8_take_2 l dC dI L kd tys fr_99 H.size g.2.2.2.1 q0_ mq0_ kq0_ 59 x_102 h_103 x_78 h_79 (g.fcts [1, 4] rfl)) (cwV 1 hts (gV_ t_1098 t_1099 t_1100 t_184 t_1101) rfl rfl rfl (by decide +kernel) ⟨(Nat.le_of_ble_eq_true rfl), (Nat.le_of_ble_eq_true rfl)⟩) (pre3V g hK mq0_ kq0_ (by decide) (q := (RX8, TX8, 10)) rfl) rfl rfl hl.1 rfl (lv_room (Nat.le_of_ble_eq_true rfl)) dX2_readMark_240 ⟨(Nat.le_of_ble_eq_true rfl), (Nat.le_of_ble_eq_true rfl)⟩) g hK (by decide) (by decide) (fx' := [(7, 13, q3_, .int x_100), (6, 12, q5_, .int y_84), (2, 6, a0_, .int 1), (8, 8, q0_, .int x_78), (2, 0, a0_, .ref q0_), (2, 1, a0_, .ref q1_), (2, 2, a0_, .ref q2_), (2, 3, a0_, .ref q3_), (2, 4, a0_, .ref q4_), (2, 5, a0_, .ref q5_), (0, 0, q2_, .ref q0_), (0, 1, q2_, .ref q1_), (5, 0, q1_, .ref q8_), (5, 1, q1_, .ref q9_), (9, 8, q4_, .int y1_), (7, 3, q3_, .int y2_), (5, 2, q1_, .int y4_), (7, 1, q3_, .int y5_)]) rfl (fun fr_106 H locs hp hMr_106 g => ?_)
          obtain ⟨x_107, h_108, hF_109⟩ := hp
          have hG_110 := eOK.frame hMr_106 go_.2.2.2.1 mq2_ kq2_ (by decide) (by decide) hG_105
          have g := g.more hF_109
          subst hQ
          exact W.vret hx hb hr (fun t ht hW => ⟨⟨_, rfl, Or.inr (⟨hG_110, x_107, h_108, x_78, h_79, x_100, h_101, y_84, (bd_sub b_85 (by decide)), (g.fcts [0, 4, 1, 2] rfl)⟩), q3_of g hK ht hW⟩, g.2.2.1.F ht⟩) g.2.2.1.2.2 dX2_readMark_243
        refine lv_tableOut (tgt := 208) hx hb dX2_readMark_91 (by have a0 : r_1.toInt ≠ 16 := fun h => e_88 (Int32.toInt_inj.mp (h.trans (by decide))); have a1 : r_1.toInt ≠ 17 := fun h => e_90 (Int32.toInt_inj.mp (h.trans (by decide))); have a2 : r_1.toInt ≠ 18 := fun h => e_92 (Int32.toInt_inj.mp (h.trans (by decide))); have a3 : r_1.toInt ≠ 19 := fun h => e_94 (Int32.toInt_inj.mp (h.trans (by decide))); have a4 : r_1.toInt ≠ 20 := fun h => e_96 (Int32.toInt_inj.mp (h.trans (by decide))); omega) (by decide) ?_
        refine lv_aload_n hx hb dX2_readMark_208 rfl (lv_at hl 2 rfl) ?_
        refine g_getk (C := RX2) (T := TX2) (N := 16) hx hb hts (mc_ inX2) hown hK g rfl 3 (by decide) rfl (hts _ (List.mem_cons_of_mem _ t_419)) (fun _ h9 => h9) 7 rfl dX2_readMark_209 ?_
        refine lv_bipush (v := 6) hx hb dX2_readMark_212 (by decide) ?_
        refine lv_aload_n hx hb dX2_readMark_214 rfl (lv_at hl 2 rfl) ?_
        refine g_getk (C := RX2) (T := TX2) (N := 16) hx hb hts (mc_ inX2) hown hK g rfl 1 (by decide) rfl (hts _ (List.mem_cons_of_mem _ t_417)) (fun _ h9 => h9) 5 rfl dX2_readMark_215 ?_
        refine g_getk (C := RX5) (T := TX5) (N := 9) hx hb hts (mc_ inX5) hown hK g rfl 2 (by decide) rfl (hts _ (List.mem_cons_of_mem _ t_333)) (fun _ h9 => h9) 16 rfl dX2_readMark_218 ?_
        refine lv_iload_n hx hb dX2_readMark_221 rfl (lv_at hl 0 rfl) ?_
        have go_ := g
        refine g_calli (va_runV (As := [.int 6, .int y4_, .int r_3]) (rest := []) ⟨hx, hb, hml, hown, hts⟩ (r_X7_addMark l dC dI L kd tys f H.size g.2.2.2.1 q3_ mq3_ kq3_ 6 y4_ r_3) (cwV 3 hts (gV_ t_1173 t_1174 t_1175 t_191 t_1176) rfl rfl rfl (by decide +kernel) ⟨(Nat.le_of_ble_eq_true rfl), (Nat.le_of_ble_eq_true rfl)⟩) (pre3V g hK mq3_ kq3_ (by decide) (q := (RX7, TX7, 19)) rfl) rfl rfl hl.1 rfl (lv_room (Nat.le_of_ble_eq_true rfl)) dX2_readMark_222 ⟨(Nat.le_of_ble_eq_true rfl), (Nat.le_of_ble_eq_true rfl)⟩) g hK (by decide) (by decide) (fx' := [(6, 12, q5_, .int y_84), (2, 6, a0_, .int 1), (8, 6, q0_, .int 1201), (8, 8, q0_, .int x_78), (2, 0, a0_, .ref q0_), (2, 1, a0_, .ref q1_), (2, 2, a0_, .ref q2_), (2, 3, a0_, .ref q3_), (2, 4, a0_, .ref q4_), (2, 5, a0_, .ref q5_), (0, 0, q2_, .ref q0_), (0, 1, q2_, .ref q1_), (5, 0, q1_, .ref q8_), (5, 1, q1_, .ref q9_), (9, 8, q4_, .int y1_), (7, 3, q3_, .int y2_), (5, 2, q1_, .int y4_), (7, 1, q3_, .int y5_)]) rfl (fun r_111 fr_111 H locs hp hMr_111 g => ?_)
        obtain ⟨h_112, x_113, h_114, hF_115⟩ := hp
        have hG_116 := eOK.frame hMr_111 go_.2.2.2.1 mq2_ kq2_ (by decide) (by decide) hG_87
        have g := g.more hF_115
        refine lv_pop hx hb dX2_readMark_225 rfl ?_
        refine lv_aload_n hx hb dX2_readMark_226 rfl (lv_at hl 2 rfl) ?_
        refine g_getk (C := RX2) (T := TX2) (N := 16) hx hb hts (mc_ inX2) hown hK g rfl 5 (by decide) rfl (hts _ (List.mem_cons_of_mem _ t_421)) (fun _ h9 => h9) 10 rfl dX2_readMark_227 ?_
        refine lv_iconst (v := 1) hx hb dX2_readMark_230 (by decide) ?_
        have go_ := g
        refine g_put (C := RX6) (T := TX6) (N := 13) hx hb hts (mc_ inX6) tyX6 tyX6_ok nmX6 hown hK g mq5_ kq5_ (by decide) rfl 6 (by decide) (hts _ (List.mem_cons_of_mem _ t_578)) (fun _ h9 => h9) rfl rfl (okV_i (bd_sub kb_1 (by decide))) rfl rfl (by decide) (Or.inr (Or.inl (by decide))) (fx' := [(7, 13, q3_, .int x_113), (6, 12, q5_, .int y_84), (2, 6, a0_, .int 1), (8, 6, q0_, .int 1201), (8, 8, q0_, .int x_78), (2, 0, a0_, .ref q0_), (2, 1, a0_, .ref q1_), (2, 2, a0_, .ref q2_), (2, 3, a0_, .ref q3_), (2, 4, a0_, .ref q4_), (2, 5, a0_, .ref q5_), (0, 0, q2_, .ref q0_), (0, 1, q2_, .ref q1_), (5, 0, q1_, .ref q8_), (5, 1, q1_, .ref q9_), (9, 8, q4_, .int y1_), (7, 3, q3_, .int y2_), (5, 2, q1_, .int y4_), (7, 1, q3_, .int y5_)]) rfl dX2_readMark_231 (fun f H locs hM_117 g => ?_)
        have hG_118 := eOK.frame hM_117 go_.2.2.2.1 mq2_ kq2_ (by decide) (by decide) hG_116
        refine lv_aload_n hx hb dX2_readMark_234 rfl (lv_at hl 2 rfl) ?_
        refine g_getk (C := RX2) (T := TX2) (N := 16) hx hb hts (mc_ inX2) hown hK g rfl 0 (by decide) rfl (hts _ (List.mem_cons_of_mem _ t_416)) (fun _ h9 => h9) 6 rfl dX2_readMark_235 ?_
        refine lv_bipush (v := 59) hx hb dX2_readMark_238 (by decide) ?_
        have kb_1201 : bd 1201 1201 (1201 : Int32) := ⟨by decide, by decide⟩
        have go_ := g
        refine g_callv (va_runV (As := [.int 59]) (rest := []) ⟨hx, hb, hml, hown, hts⟩ (r_X8_take_2 l dC dI L kd tys f H.size g.2.2.2.1 q0_ mq0_ kq0_ 59 1201 kb_1201 x_78 h_79 (g.fcts [4, 5] rfl)) (cwV 1 hts (gV_ t_1098 t_1099 t_1100 t_184 t_1101) rfl rfl rfl (by decide +kernel) ⟨(Nat.le_of_ble_eq_true rfl), (Nat.le_of_ble_eq_true rfl)⟩) (pre3V g hK mq0_ kq0_ (by decide) (q := (RX8, TX8, 10)) rfl) rfl rfl hl.1 rfl (lv_room (Nat.le_of_ble_eq_true rfl)) dX2_readMark_240 ⟨(Nat.le_of_ble_eq_true rfl), (Nat.le_of_ble_eq_true rfl)⟩) g hK (by decide) (by decide) (fx' := [(6, 6, q5_, .int 1), (7, 13, q3_, .int x_113), (6, 12, q5_, .int y_84), (2, 6, a0_, .int 1), (8, 8, q0_, .int x_78), (2, 0, a0_, .ref q0_), (2, 1, a0_, .ref q1_), (2, 2, a0_, .ref q2_), (2, 3, a0_, .ref q3_), (2, 4, a0_, .ref q4_), (2, 5, a0_, .ref q5_), (0, 0, q2_, .ref q0_), (0, 1, q2_, .ref q1_), (5, 0, q1_, .ref q8_), (5, 1, q1_, .ref q9_), (9, 8, q4_, .int y1_), (7, 3, q3_, .int y2_), (5, 2, q1_, .int y4_), (7, 1, q3_, .int y5_)]) rfl (fun fr_119 H locs hp hMr_119 g => ?_)
        obtain ⟨x_120, h_121, hF_122⟩ := hp
        have hG_123 := eOK.frame hMr_119 go_.2.2.2.1 mq2_ kq2_ (by decide) (by decide) hG_118
        have g := g.more hF_122
        subst hQ
        exact W.vret hx hb hr (fun t ht hW => ⟨⟨_, rfl, Or.inr (⟨hG_123, x_120, h_121, x_78, h_79, x_113, h_114, y_84, (bd_sub b_85 (by decide)), (g.fcts [0, 5, 2, 3] rfl)⟩), q3_of g hK ht hW⟩, g.2.2.1.F ht⟩) g.2.2.1.2.2 dX2_readMark_243
    · have fc_12 := neq_f c_12
      refine lv_iload_n hx hb dX2_readMark_50 rfl (lv_at hl 1 rfl) ?_
      refine lv_bipush (v := 21) hx hb dX2_readMark_51 (by decide) ?_
      have kb_21 : bd 21 21 (21 : Int32) := ⟨by decide, by decide⟩
      refine lv_icmp_ne (tgt := 77) hx hb dX2_readMark_53 (by decide) (fun c_124 => ?_) (fun c_124 => ?_)
      · have fc_124 := neq_f c_124
        refine lv_aload_n hx hb dX2_readMark_77 rfl (lv_at hl 2 rfl) ?_
        refine g_getk (C := RX2) (T := TX2) (N := 16) hx hb hts (mc_ inX2) hown hK g rfl 5 (by decide) rfl (hts _ (List.mem_cons_of_mem _ t_421)) (fun _ h9 => h9) 6 rfl dX2_readMark_78 ?_
        refine lv_dup hx hb dX2_readMark_81 rfl ?_
        refine g_getk (C := RX6) (T := TX6) (N := 13) hx hb hts (mc_ inX6) hown hK g rfl 12 (by decide) rfl (hts _ (List.mem_cons_of_mem _ t_591)) (fun _ h9 => h9) 14 rfl dX2_readMark_82 ?_
        refine lv_iconst (v := 1) hx hb dX2_readMark_85 (by decide) ?_
        have kb_1 : bd 1 1 (1 : Int32) := ⟨by decide, by decide⟩
        refine lv_iadd hx hb dX2_readMark_86 ?_
        refine lv_topi (fun y_125 ey_125 => ?_)
        have ty_125 := add_bd ey_125 b_6 kb_1 (by decide)
        have b_126 : bd 1 8 y_125 := add_rg ty_125 b_6 kb_1 (by decide)
        have go_ := g
        refine g_put (C := RX6) (T := TX6) (N := 13) hx hb hts (mc_ inX6) tyX6 tyX6_ok nmX6 hown hK g mq5_ kq5_ (by decide) rfl 12 (by decide) (hts _ (List.mem_cons_of_mem _ t_591)) (fun _ h9 => h9) rfl rfl (okV_i (bd_sub b_126 (by decide))) rfl rfl (by decide) (Or.inr (Or.inl (by decide))) (fx' := [(8, 6, q0_, .int x_8), (2, 0, a0_, .ref q0_), (2, 1, a0_, .ref q1_), (2, 2, a0_, .ref q2_), (2, 3, a0_, .ref q3_), (2, 4, a0_, .ref q4_), (2, 5, a0_, .ref q5_), (0, 0, q2_, .ref q0_), (0, 1, q2_, .ref q1_), (5, 0, q1_, .ref q8_), (5, 1, q1_, .ref q9_), (8, 8, q0_, .int y0_), (9, 8, q4_, .int y1_), (7, 3, q3_, .int y2_), (5, 2, q1_, .int y4_), (7, 1, q3_, .int y5_)]) rfl dX2_readMark_87 (fun f H locs hM_127 g => ?_)
        have hG_128 := eOK.frame hM_127 go_.2.2.2.1 mq2_ kq2_ (by decide) (by decide) hG_11
        refine lv_iload_n hx hb dX2_readMark_90 rfl (lv_at hl 1 rfl) ?_
        by_cases e_129 : r_1 = 16
        · refine lv_topi (fun z_130 ez_130 => ?_)
          obtain rfl : z_130 = 16 := ez_130.trans e_129
          have kb_16 : bd 16 16 (16 : Int32) := ⟨by decide, by decide⟩
          have b_131 : bd 16 16 r_1 := eqX (eq_f e_129) (bdT r_1) kb_16 (by decide)
          refine lv_tableIn (off := 33) (tgt := 124) hx hb dX2_readMark_91 (by decide) (by decide) rfl (by decide) ?_
          refine lv_aload_n hx hb dX2_readMark_124 rfl (lv_at hl 2 rfl) ?_
          refine g_getk (C := RX2) (T := TX2) (N := 16) hx hb hts (mc_ inX2) hown hK g rfl 3 (by decide) rfl (hts _ (List.mem_cons_of_mem _ t_419)) (fun _ h9 => h9) 5 rfl dX2_readMark_125 ?_
          refine lv_iconst (v := 1) hx hb dX2_readMark_128 (by decide) ?_
          refine lv_aload_n hx hb dX2_readMark_129 rfl (lv_at hl 2 rfl) ?_
          refine g_getk (C := RX2) (T := TX2) (N := 16) hx hb hts (mc_ inX2) hown hK g rfl 1 (by decide) rfl (hts _ (List.mem_cons_of_mem _ t_417)) (fun _ h9 => h9) 3 rfl dX2_readMark_130 ?_
          refine g_getk (C := RX5) (T := TX5) (N := 9) hx hb hts (mc_ inX5) hown hK g rfl 2 (by decide) rfl (hts _ (List.mem_cons_of_mem _ t_333)) (fun _ h9 => h9) 15 rfl dX2_readMark_133 ?_
          refine lv_aload_n hx hb dX2_readMark_136 rfl (lv_at hl 2 rfl) ?_
          refine g_getk (C := RX2) (T := TX2) (N := 16) hx hb hts (mc_ inX2) hown hK g rfl 0 (by decide) rfl (hts _ (List.mem_cons_of_mem _ t_416)) (fun _ h9 => h9) 2 rfl dX2_readMark_137 ?_
          have go_ := g
          refine g_calli (va_runV (As := []) (rest := [.int y4_, .int 1, .ref q3_]) ⟨hx, hb, hml, hown, hts⟩ (r_X8_place l dC dI L kd tys f H.size g.2.2.2.1 q0_ mq0_ kq0_) (cwV 0 hts (gV_ t_1110 t_1111 t_1112 t_184 t_1113) rfl rfl rfl (by decide +kernel) ⟨(Nat.le_of_ble_eq_true rfl), (Nat.le_of_ble_eq_true rfl)⟩) (pre3V g hK mq0_ kq0_ (by decide) (q := (RX8, TX8, 10)) rfl) rfl rfl hl.1 rfl (lv_room (Nat.le_of_ble_eq_true rfl)) dX2_readMark_140 ⟨(Nat.le_of_ble_eq_true rfl), (Nat.le_of_ble_eq_true rfl)⟩) g hK (by decide) (by decide) (fx' := [(6, 12, q5_, .int y_125), (8, 6, q0_, .int x_8), (2, 0, a0_, .ref q0_), (2, 1, a0_, .ref q1_), (2, 2, a0_, .ref q2_), (2, 3, a0_, .ref q3_), (2, 4, a0_, .ref q4_), (2, 5, a0_, .ref q5_), (0, 0, q2_, .ref q0_), (0, 1, q2_, .ref q1_), (5, 0, q1_, .ref q8_), (5, 1, q1_, .ref q9_), (8, 8, q0_, .int y0_), (9, 8, q4_, .int y1_), (7, 3, q3_, .int y2_), (5, 2, q1_, .int y4_), (7, 1, q3_, .int y5_)]) rfl (fun r_132 fr_132 H locs hp hMr_132 g => ?_)
          have hG_133 := eOK.frame hMr_132 go_.2.2.2.1 mq2_ kq2_ (by decide) (by decide) hG_128
          have go_ := g
          refine g_calli (va_runV (As := [.int 1, .int y4_, .int r_132]) (rest := []) ⟨hx, hb, hml, hown, hts⟩ (r_X7_addMark l dC dI L kd tys fr_132 H.size g.2.2.2.1 q3_ mq3_ kq3_ 1 y4_ r_132) (cwV 3 hts (gV_ t_1173 t_1174 t_1175 t_191 t_1176) rfl rfl rfl (by decide +kernel) ⟨(Nat.le_of_ble_eq_true rfl), (Nat.le_of_ble_eq_true rfl)⟩) (pre3V g hK mq3_ kq3_ (by decide) (q := (RX7, TX7, 19)) rfl) rfl rfl hl.1 rfl (lv_room (Nat.le_of_ble_eq_true rfl)) dX2_readMark_143 ⟨(Nat.le_of_ble_eq_true rfl), (Nat.le_of_ble_eq_true rfl)⟩) g hK (by decide) (by decide) (fx' := [(6, 12, q5_, .int y_125), (8, 6, q0_, .int x_8), (2, 0, a0_, .ref q0_), (2, 1, a0_, .ref q1_), (2, 2, a0_, .ref q2_), (2, 3, a0_, .ref q3_), (2, 4, a0_, .ref q4_), (2, 5, a0_, .ref q5_), (0, 0, q2_, .ref q0_), (0, 1, q2_, .ref q1_), (5, 0, q1_, .ref q8_), (5, 1, q1_, .ref q9_), (8, 8, q0_, .int y0_), (9, 8, q4_, .int y1_), (7, 3, q3_, .int y2_), (5, 2, q1_, .int y4_), (7, 1, q3_, .int y5_)]) rfl (fun r_134 fr_134 H locs hp hMr_134 g => ?_)
          obtain ⟨h_135, x_136, h_137, hF_138⟩ := hp
          have hG_139 := eOK.frame hMr_134 go_.2.2.2.1 mq2_ kq2_ (by decide) (by decide) hG_133
          have g := g.more hF_138
          refine lv_pop hx hb dX2_readMark_146 rfl ?_
          refine lv_aload_n hx hb dX2_readMark_147 rfl (lv_at hl 2 rfl) ?_
          refine lv_iconst (v := 0) hx hb dX2_readMark_148 (by decide) ?_
          have kb_0 : bd 0 0 (0 : Int32) := ⟨by decide, by decide⟩
          have go_ := g
          refine g_callv (va_runV (As := [.int 0]) (rest := []) ⟨hx, hb, hml, hown, hts⟩ (r_X2_readAsked_8 l dC dI L kd tys fr_134 H.size g.2.2.2.1 a0_ ma0_ ka0_ 0 kb_0 q0_ mq0_ kq0_ q1_ mq1_ kq1_ q2_ mq2_ kq2_ q3_ mq3_ kq3_ q8_ mq8_ kq8_ q9_ mq9_ kq9_ x_136 h_137 y0_ by0_ y2_ by2_ y4_ by4_ y5_ by5_ hG_139 (g.fcts [3, 4, 5, 6, 9, 10, 11, 12, 0, 13, 15, 16, 17] rfl)) (cwV 1 hts (gV_ t_1178 t_1180 t_13 t_183 t_1181) rfl rfl rfl (by decide +kernel) ⟨(Nat.le_of_ble_eq_true rfl), (Nat.le_of_ble_eq_true rfl)⟩) (pre3V g hK ma0_ ka0_ (by decide) (q := (RX2, TX2, 16)) rfl) rfl rfl hl.1 rfl (lv_room (Nat.le_of_ble_eq_true rfl)) dX2_readMark_149 ⟨(Nat.le_of_ble_eq_true rfl), (Nat.le_of_ble_eq_true rfl)⟩) g hK (by decide) (by decide) (fx' := [(7, 13, q3_, .int x_136), (6, 12, q5_, .int y_125), (2, 0, a0_, .ref q0_), (2, 1, a0_, .ref q1_), (2, 2, a0_, .ref q2_), (2, 3, a0_, .ref q3_), (2, 4, a0_, .ref q4_), (2, 5, a0_, .ref q5_), (0, 0, q2_, .ref q0_), (0, 1, q2_, .ref q1_), (5, 0, q1_, .ref q8_), (5, 1, q1_, .ref q9_), (9, 8, q4_, .int y1_), (7, 3, q3_, .int y2_), (5, 2, q1_, .int y4_), (7, 1, q3_, .int y5_)]) rfl (fun fr_140 H locs hp hMr_140 g => ?_)
          rcases hp with ⟨hG_141, x_142, h_143, hF_144⟩ | ⟨hG_145, x_146, h_147, x_148, h_149, x_150, h_151, hF_152⟩
          · have g := g.more hF_144
            refine lv_goto (tgt := 234) hx hb dX2_readMark_152 (by decide) ?_
            refine lv_aload_n hx hb dX2_readMark_234 rfl (lv_at hl 2 rfl) ?_
            refine g_getk (C := RX2) (T := TX2) (N := 16) hx hb hts (mc_ inX2) hown hK g rfl 0 (by decide) rfl (hts _ (List.mem_cons_of_mem _ t_416)) (fun _ h9 => h9) 7 rfl dX2_readMark_235 ?_
            refine lv_bipush (v := 59) hx hb dX2_readMark_238 (by decide) ?_
            have go_ := g
            refine g_callv (va_runV (As := [.int 59]) (rest := []) ⟨hx, hb, hml, hown, hts⟩ (r_X8_take l dC dI L kd tys fr_140 H.size g.2.2.2.1 q0_ mq0_ kq0_ 59 y0_ by0_ (g.fcts [4] rfl)) (cwV 1 hts (gV_ t_1098 t_1099 t_1100 t_184 t_1101) rfl rfl rfl (by decide +kernel) ⟨(Nat.le_of_ble_eq_true rfl), (Nat.le_of_ble_eq_true rfl)⟩) (pre3V g hK mq0_ kq0_ (by decide) (q := (RX8, TX8, 10)) rfl) rfl rfl hl.1 rfl (lv_room (Nat.le_of_ble_eq_true rfl)) dX2_readMark_240 ⟨(Nat.le_of_ble_eq_true rfl), (Nat.le_of_ble_eq_true rfl)⟩) g hK (by decide) (by decide) (fx' := [(7, 6, q3_, .int x_142), (5, 8, q1_, .int 0), (5, 7, q1_, .int 0), (0, 2, q2_, .ref q8_), (7, 13, q3_, .int x_136), (6, 12, q5_, .int y_125), (2, 0, a0_, .ref q0_), (2, 1, a0_, .ref q1_), (2, 2, a0_, .ref q2_), (2, 3, a0_, .ref q3_), (2, 4, a0_, .ref q4_), (2, 5, a0_, .ref q5_), (0, 0, q2_, .ref q0_), (0, 1, q2_, .ref q1_), (5, 0, q1_, .ref q8_), (5, 1, q1_, .ref q9_), (9, 8, q4_, .int y1_), (7, 3, q3_, .int y2_), (5, 2, q1_, .int y4_), (7, 1, q3_, .int y5_)]) rfl (fun fr_153 H locs hp hMr_153 g => ?_)
            rcases hp with ⟨x_154, h_155, hF_156⟩ | ⟨x_157, h_158, hF_159⟩
            · have hG_160 := eOK.frame hMr_153 go_.2.2.2.1 mq2_ kq2_ (by decide) (by decide) hG_141
              have g := g.more hF_156
              subst hQ
              exact W.vret hx hb hr (fun t ht hW => ⟨⟨_, rfl, Or.inl ⟨hG_160, b_6, x_154, h_155, x_136, h_137, y_125, b_126, (g.fcts [0, 1, 6, 7] rfl)⟩, q3_of g hK ht hW⟩, g.2.2.1.F ht⟩) g.2.2.1.2.2 dX2_readMark_243
            · have hG_161 := eOK.frame hMr_153 go_.2.2.2.1 mq2_ kq2_ (by decide) (by decide) hG_141
              have g := g.more hF_159
              have kb_1201 : bd 1201 1201 (1201 : Int32) := ⟨by decide, by decide⟩
              subst hQ
              exact W.vret hx hb hr (fun t ht hW => ⟨⟨_, rfl, Or.inr (⟨hG_161, 1201, kb_1201, x_157, h_158, x_136, h_137, y_125, (bd_sub b_126 (by decide)), (g.fcts [0, 1, 6, 7] rfl)⟩), q3_of g hK ht hW⟩, g.2.2.1.F ht⟩) g.2.2.1.2.2 dX2_readMark_243
          · have g := g.more hF_152
            refine lv_goto (tgt := 234) hx hb dX2_readMark_152 (by decide) ?_
            refine lv_aload_n hx hb dX2_readMark_234 rfl (lv_at hl 2 rfl) ?_
            refine g_getk (C := RX2) (T := TX2) (N := 16) hx hb hts (mc_ inX2) hown hK g rfl 0 (by decide) rfl (hts _ (List.mem_cons_of_mem _ t_416)) (fun _ h9 => h9) 8 rfl dX2_readMark_235 ?_
            refine lv_bipush (v := 59) hx hb dX2_readMark_238 (by decide) ?_
            have go_ := g
            refine g_callv (va_runV (As := [.int 59]) (rest := []) ⟨hx, hb, hml, hown, hts⟩ (r_X8_take_2 l dC dI L kd tys fr_140 H.size g.2.2.2.1 q0_ mq0_ kq0_ 59 x_148 h_149 x_150 h_151 (g.fcts [3, 4] rfl)) (cwV 1 hts (gV_ t_1098 t_1099 t_1100 t_184 t_1101) rfl rfl rfl (by decide +kernel) ⟨(Nat.le_of_ble_eq_true rfl), (Nat.le_of_ble_eq_true rfl)⟩) (pre3V g hK mq0_ kq0_ (by decide) (q := (RX8, TX8, 10)) rfl) rfl rfl hl.1 rfl (lv_room (Nat.le_of_ble_eq_true rfl)) dX2_readMark_240 ⟨(Nat.le_of_ble_eq_true rfl), (Nat.le_of_ble_eq_true rfl)⟩) g hK (by decide) (by decide) (fx' := [(7, 6, q3_, .int x_146), (5, 8, q1_, .int 0), (5, 7, q1_, .int 0), (8, 8, q0_, .int x_150), (0, 2, q2_, .ref q8_), (7, 13, q3_, .int x_136), (6, 12, q5_, .int y_125), (2, 0, a0_, .ref q0_), (2, 1, a0_, .ref q1_), (2, 2, a0_, .ref q2_), (2, 3, a0_, .ref q3_), (2, 4, a0_, .ref q4_), (2, 5, a0_, .ref q5_), (0, 0, q2_, .ref q0_), (0, 1, q2_, .ref q1_), (5, 0, q1_, .ref q8_), (5, 1, q1_, .ref q9_), (9, 8, q4_, .int y1_), (7, 3, q3_, .int y2_), (5, 2, q1_, .int y4_), (7, 1, q3_, .int y5_)]) rfl (fun fr_162 H locs hp hMr_162 g => ?_)
            obtain ⟨x_163, h_164, hF_165⟩ := hp
            have hG_166 := eOK.frame hMr_162 go_.2.2.2.1 mq2_ kq2_ (by decide) (by decide) hG_145
            have g := g.more hF_165
            subst hQ
            exact W.vret hx hb hr (fun t ht hW => ⟨⟨_, rfl, Or.inr (⟨hG_166, x_163, h_164, x_150, h_151, x_136, h_137, y_125, (bd_sub b_126 (by decide)), (g.fcts [0, 4, 6, 7] rfl)⟩), q3_of g hK ht hW⟩, g.2.2.1.F ht⟩) g.2.2.1.2.2 dX2_readMark_243
        by_cases e_167 : r_1 = 17
        · refine lv_topi (fun z_168 ez_168 => ?_)
          obtain rfl : z_168 = 17 := ez_168.trans e_167
          have kb_17 : bd 17 17 (17 : Int32) := ⟨by decide, by decide⟩
          have b_169 : bd 17 17 r_1 := eqX (eq_f e_167) (bdT r_1) kb_17 (by decide)
          refine lv_tableIn (off := 64) (tgt := 155) hx hb dX2_readMark_91 (by decide) (by decide) rfl (by decide) ?_
          refine lv_aload_n hx hb dX2_readMark_155 rfl (lv_at hl 2 rfl) ?_
          refine g_getk (C := RX2) (T := TX2) (N := 16) hx hb hts (mc_ inX2) hown hK g rfl 3 (by decide) rfl (hts _ (List.mem_cons_of_mem _ t_419)) (fun _ h9 => h9) 5 rfl dX2_readMark_156 ?_
          refine lv_iconst (v := 2) hx hb dX2_readMark_159 (by decide) ?_
          refine lv_aload_n hx hb dX2_readMark_160 rfl (lv_at hl 2 rfl) ?_
          refine g_getk (C := RX2) (T := TX2) (N := 16) hx hb hts (mc_ inX2) hown hK g rfl 1 (by decide) rfl (hts _ (List.mem_cons_of_mem _ t_417)) (fun _ h9 => h9) 3 rfl dX2_readMark_161 ?_
          refine g_getk (C := RX5) (T := TX5) (N := 9) hx hb hts (mc_ inX5) hown hK g rfl 2 (by decide) rfl (hts _ (List.mem_cons_of_mem _ t_333)) (fun _ h9 => h9) 15 rfl dX2_readMark_164 ?_
          refine lv_aload_n hx hb dX2_readMark_167 rfl (lv_at hl 2 rfl) ?_
          refine g_getk (C := RX2) (T := TX2) (N := 16) hx hb hts (mc_ inX2) hown hK g rfl 0 (by decide) rfl (hts _ (List.mem_cons_of_mem _ t_416)) (fun _ h9 => h9) 2 rfl dX2_readMark_168 ?_
          have go_ := g
          refine g_calli (va_runV (As := []) (rest := [.int y4_, .int 2, .ref q3_]) ⟨hx, hb, hml, hown, hts⟩ (r_X8_place l dC dI L kd tys f H.size g.2.2.2.1 q0_ mq0_ kq0_) (cwV 0 hts (gV_ t_1110 t_1111 t_1112 t_184 t_1113) rfl rfl rfl (by decide +kernel) ⟨(Nat.le_of_ble_eq_true rfl), (Nat.le_of_ble_eq_true rfl)⟩) (pre3V g hK mq0_ kq0_ (by decide) (q := (RX8, TX8, 10)) rfl) rfl rfl hl.1 rfl (lv_room (Nat.le_of_ble_eq_true rfl)) dX2_readMark_171 ⟨(Nat.le_of_ble_eq_true rfl), (Nat.le_of_ble_eq_true rfl)⟩) g hK (by decide) (by decide) (fx' := [(6, 12, q5_, .int y_125), (8, 6, q0_, .int x_8), (2, 0, a0_, .ref q0_), (2, 1, a0_, .ref q1_), (2, 2, a0_, .ref q2_), (2, 3, a0_, .ref q3_), (2, 4, a0_, .ref q4_), (2, 5, a0_, .ref q5_), (0, 0, q2_, .ref q0_), (0, 1, q2_, .ref q1_), (5, 0, q1_, .ref q8_), (5, 1, q1_, .ref q9_), (8, 8, q0_, .int y0_), (9, 8, q4_, .int y1_), (7, 3, q3_, .int y2_), (5, 2, q1_, .int y4_), (7, 1, q3_, .int y5_)]) rfl (fun r_170 fr_170 H locs hp hMr_170 g => ?_)
          have hG_171 := eOK.frame hMr_170 go_.2.2.2.1 mq2_ kq2_ (by decide) (by decide) hG_128
          have go_ := g
          refine g_calli (va_runV (As := [.int 2, .int y4_, .int r_170]) (rest := []) ⟨hx, hb, hml, hown, hts⟩ (r_X7_addMark l dC dI L kd tys fr_170 H.size g.2.2.2.1 q3_ mq3_ kq3_ 2 y4_ r_170) (cwV 3 hts (gV_ t_1173 t_1174 t_1175 t_191 t_1176) rfl rfl rfl (by decide +kernel) ⟨(Nat.le_of_ble_eq_true rfl), (Nat.le_of_ble_eq_true rfl)⟩) (pre3V g hK mq3_ kq3_ (by decide) (q := (RX7, TX7, 19)) rfl) rfl rfl hl.1 rfl (lv_room (Nat.le_of_ble_eq_true rfl)) dX2_readMark_174 ⟨(Nat.le_of_ble_eq_true rfl), (Nat.le_of_ble_eq_true rfl)⟩) g hK (by decide) (by decide) (fx' := [(6, 12, q5_, .int y_125), (8, 6, q0_, .int x_8), (2, 0, a0_, .ref q0_), (2, 1, a0_, .ref q1_), (2, 2, a0_, .ref q2_), (2, 3, a0_, .ref q3_), (2, 4, a0_, .ref q4_), (2, 5, a0_, .ref q5_), (0, 0, q2_, .ref q0_), (0, 1, q2_, .ref q1_), (5, 0, q1_, .ref q8_), (5, 1, q1_, .ref q9_), (8, 8, q0_, .int y0_), (9, 8, q4_, .int y1_), (7, 3, q3_, .int y2_), (5, 2, q1_, .int y4_), (7, 1, q3_, .int y5_)]) rfl (fun r_172 fr_172 H locs hp hMr_172 g => ?_)
          obtain ⟨h_173, x_174, h_175, hF_176⟩ := hp
          have hG_177 := eOK.frame hMr_172 go_.2.2.2.1 mq2_ kq2_ (by decide) (by decide) hG_171
          have g := g.more hF_176
          refine lv_pop hx hb dX2_readMark_177 rfl ?_
          refine lv_aload_n hx hb dX2_readMark_178 rfl (lv_at hl 2 rfl) ?_
          refine lv_iconst (v := 1) hx hb dX2_readMark_179 (by decide) ?_
          have go_ := g
          refine g_callv (va_runV (As := [.int 1]) (rest := []) ⟨hx, hb, hml, hown, hts⟩ (r_X2_readAsked_9 l dC dI L kd tys fr_172 H.size g.2.2.2.1 a0_ ma0_ ka0_ 1 kb_1 q0_ mq0_ kq0_ q1_ mq1_ kq1_ q2_ mq2_ kq2_ q3_ mq3_ kq3_ q8_ mq8_ kq8_ q9_ mq9_ kq9_ x_174 h_175 y0_ by0_ y2_ by2_ y4_ by4_ y5_ by5_ hG_177 (g.fcts [3, 4, 5, 6, 9, 10, 11, 12, 0, 13, 15, 16, 17] rfl)) (cwV 1 hts (gV_ t_1178 t_1180 t_13 t_183 t_1181) rfl rfl rfl (by decide +kernel) ⟨(Nat.le_of_ble_eq_true rfl), (Nat.le_of_ble_eq_true rfl)⟩) (pre3V g hK ma0_ ka0_ (by decide) (q := (RX2, TX2, 16)) rfl) rfl rfl hl.1 rfl (lv_room (Nat.le_of_ble_eq_true rfl)) dX2_readMark_180 ⟨(Nat.le_of_ble_eq_true rfl), (Nat.le_of_ble_eq_true rfl)⟩) g hK (by decide) (by decide) (fx' := [(7, 13, q3_, .int x_174), (6, 12, q5_, .int y_125), (2, 0, a0_, .ref q0_), (2, 1, a0_, .ref q1_), (2, 2, a0_, .ref q2_), (2, 3, a0_, .ref q3_), (2, 4, a0_, .ref q4_), (2, 5, a0_, .ref q5_), (0, 0, q2_, .ref q0_), (0, 1, q2_, .ref q1_), (5, 0, q1_, .ref q8_), (5, 1, q1_, .ref q9_), (9, 8, q4_, .int y1_), (7, 3, q3_, .int y2_), (5, 2, q1_, .int y4_), (7, 1, q3_, .int y5_)]) rfl (fun fr_178 H locs hp hMr_178 g => ?_)
          rcases hp with ⟨hG_179, x_180, h_181, hF_182⟩ | ⟨hG_183, x_184, h_185, x_186, h_187, x_188, h_189, hF_190⟩
          · have g := g.more hF_182
            refine lv_goto (tgt := 234) hx hb dX2_readMark_183 (by decide) ?_
            refine lv_aload_n hx hb dX2_readMark_234 rfl (lv_at hl 2 rfl) ?_
            refine g_getk (C := RX2) (T := TX2) (N := 16) hx hb hts (mc_ inX2) hown hK g rfl 0 (by decide) rfl (hts _ (List.mem_cons_of_mem _ t_416)) (fun _ h9 => h9) 7 rfl dX2_readMark_235 ?_
            refine lv_bipush (v := 59) hx hb dX2_readMark_238 (by decide) ?_
            have go_ := g
            refine g_callv (va_runV (As := [.int 59]) (rest := []) ⟨hx, hb, hml, hown, hts⟩ (r_X8_take l dC dI L kd tys fr_178 H.size g.2.2.2.1 q0_ mq0_ kq0_ 59 y0_ by0_ (g.fcts [4] rfl)) (cwV 1 hts (gV_ t_1098 t_1099 t_1100 t_184 t_1101) rfl rfl rfl (by decide +kernel) ⟨(Nat.le_of_ble_eq_true rfl), (Nat.le_of_ble_eq_true rfl)⟩) (pre3V g hK mq0_ kq0_ (by decide) (q := (RX8, TX8, 10)) rfl) rfl rfl hl.1 rfl (lv_room (Nat.le_of_ble_eq_true rfl)) dX2_readMark_240 ⟨(Nat.le_of_ble_eq_true rfl), (Nat.le_of_ble_eq_true rfl)⟩) g hK (by decide) (by decide) (fx' := [(7, 6, q3_, .int x_180), (5, 8, q1_, .int 0), (5, 7, q1_, .int 0), (0, 2, q2_, .ref q8_), (7, 13, q3_, .int x_174), (6, 12, q5_, .int y_125), (2, 0, a0_, .ref q0_), (2, 1, a0_, .ref q1_), (2, 2, a0_, .ref q2_), (2, 3, a0_, .ref q3_), (2, 4, a0_, .ref q4_), (2, 5, a0_, .ref q5_), (0, 0, q2_, .ref q0_), (0, 1, q2_, .ref q1_), (5, 0, q1_, .ref q8_), (5, 1, q1_, .ref q9_), (9, 8, q4_, .int y1_), (7, 3, q3_, .int y2_), (5, 2, q1_, .int y4_), (7, 1, q3_, .int y5_)]) rfl (fun fr_191 H locs hp hMr_191 g => ?_)
            rcases hp with ⟨x_192, h_193, hF_194⟩ | ⟨x_195, h_196, hF_197⟩
            · have hG_198 := eOK.frame hMr_191 go_.2.2.2.1 mq2_ kq2_ (by decide) (by decide) hG_179
              have g := g.more hF_194
              subst hQ
              exact W.vret hx hb hr (fun t ht hW => ⟨⟨_, rfl, Or.inl ⟨hG_198, b_6, x_192, h_193, x_174, h_175, y_125, b_126, (g.fcts [0, 1, 6, 7] rfl)⟩, q3_of g hK ht hW⟩, g.2.2.1.F ht⟩) g.2.2.1.2.2 dX2_readMark_243
            · have hG_199 := eOK.frame hMr_191 go_.2.2.2.1 mq2_ kq2_ (by decide) (by decide) hG_179
              have g := g.more hF_197
              have kb_1201 : bd 1201 1201 (1201 : Int32) := ⟨by decide, by decide⟩
              subst hQ
              exact W.vret hx hb hr (fun t ht hW => ⟨⟨_, rfl, Or.inr (⟨hG_199, 1201, kb_1201, x_195, h_196, x_174, h_175, y_125, (bd_sub b_126 (by decide)), (g.fcts [0, 1, 6, 7] rfl)⟩), q3_of g hK ht hW⟩, g.2.2.1.F ht⟩) g.2.2.1.2.2 dX2_readMark_243
          · have g := g.more hF_190
            refine lv_goto (tgt := 234) hx hb dX2_readMark_183 (by decide) ?_
            refine lv_aload_n hx hb dX2_readMark_234 rfl (lv_at hl 2 rfl) ?_
            refine g_getk (C := RX2) (T := TX2) (N := 16) hx hb hts (mc_ inX2) hown hK g rfl 0 (by decide) rfl (hts _ (List.mem_cons_of_mem _ t_416)) (fun _ h9 => h9) 8 rfl dX2_readMark_235 ?_
            refine lv_bipush (v := 59) hx hb dX2_readMark_238 (by decide) ?_
            have go_ := g
            refine g_callv (va_runV (As := [.int 59]) (rest := []) ⟨hx, hb, hml, hown, hts⟩ (r_X8_take_2 l dC dI L kd tys fr_178 H.size g.2.2.2.1 q0_ mq0_ kq0_ 59 x_186 h_187 x_188 h_189 (g.fcts [3, 4] rfl)) (cwV 1 hts (gV_ t_1098 t_1099 t_1100 t_184 t_1101) rfl rfl rfl (by decide +kernel) ⟨(Nat.le_of_ble_eq_true rfl), (Nat.le_of_ble_eq_true rfl)⟩) (pre3V g hK mq0_ kq0_ (by decide) (q := (RX8, TX8, 10)) rfl) rfl rfl hl.1 rfl (lv_room (Nat.le_of_ble_eq_true rfl)) dX2_readMark_240 ⟨(Nat.le_of_ble_eq_true rfl), (Nat.le_of_ble_eq_true rfl)⟩) g hK (by decide) (by decide) (fx' := [(7, 6, q3_, .int x_184), (5, 8, q1_, .int 0), (5, 7, q1_, .int 0), (8, 8, q0_, .int x_188), (0, 2, q2_, .ref q8_), (7, 13, q3_, .int x_174), (6, 12, q5_, .int y_125), (2, 0, a0_, .ref q0_), (2, 1, a0_, .ref q1_), (2, 2, a0_, .ref q2_), (2, 3, a0_, .ref q3_), (2, 4, a0_, .ref q4_), (2, 5, a0_, .ref q5_), (0, 0, q2_, .ref q0_), (0, 1, q2_, .ref q1_), (5, 0, q1_, .ref q8_), (5, 1, q1_, .ref q9_), (9, 8, q4_, .int y1_), (7, 3, q3_, .int y2_), (5, 2, q1_, .int y4_), (7, 1, q3_, .int y5_)]) rfl (fun fr_200 H locs hp hMr_200 g => ?_)
            obtain ⟨x_201, h_202, hF_203⟩ := hp
            have hG_204 := eOK.frame hMr_200 go_.2.2.2.1 mq2_ kq2_ (by decide) (by decide) hG_183
            have g := g.more hF_203
            subst hQ
            exact W.vret hx hb hr (fun t ht hW => ⟨⟨_, rfl, Or.inr (⟨hG_204, x_201, h_202, x_188, h_189, x_174, h_175, y_125, (bd_sub b_126 (by decide)), (g.fcts [0, 4, 6, 7] rfl)⟩), q3_of g hK ht hW⟩, g.2.2.1.F ht⟩) g.2.2.1.2.2 dX2_readMark_243
        by_cases e_205 : r_1 = 18
        · refine lv_topi (fun z_206 ez_206 => ?_)
          obtain rfl : z_206 = 18 := ez_206.trans e_205
          have kb_18 : bd 18 18 (18 : Int32) := ⟨by decide, by decide⟩
          have b_207 : bd 18 18 r_1 := eqX (eq_f e_205) (bdT r_1) kb_18 (by decide)
          refine lv_tableIn (off := 95) (tgt := 186) hx hb dX2_readMark_91 (by decide) (by decide) rfl (by decide) ?_
          refine lv_aload_n hx hb dX2_readMark_186 rfl (lv_at hl 2 rfl) ?_
          have go_ := g
          refine g_calli (va_runV (As := []) (rest := []) ⟨hx, hb, hml, hown, hts⟩ (r_X2_readThrownWord l dC dI L kd tys f H.size g.2.2.2.1 a0_ ma0_ ka0_ q0_ mq0_ kq0_ q3_ mq3_ kq3_ y0_ by0_ (g.fcts [2, 5, 12] rfl)) (cwV 0 hts (gV_ t_1326 t_1328 t_37 t_183 t_1329) rfl rfl rfl (by decide +kernel) ⟨(Nat.le_of_ble_eq_true rfl), (Nat.le_of_ble_eq_true rfl)⟩) (pre3V g hK ma0_ ka0_ (by decide) (q := (RX2, TX2, 16)) rfl) rfl rfl hl.1 rfl (lv_room (Nat.le_of_ble_eq_true rfl)) dX2_readMark_187 ⟨(Nat.le_of_ble_eq_true rfl), (Nat.le_of_ble_eq_true rfl)⟩) g hK (by decide) (by decide) (fx' := [(6, 12, q5_, .int y_125), (2, 0, a0_, .ref q0_), (2, 1, a0_, .ref q1_), (2, 2, a0_, .ref q2_), (2, 3, a0_, .ref q3_), (2, 4, a0_, .ref q4_), (2, 5, a0_, .ref q5_), (0, 0, q2_, .ref q0_), (0, 1, q2_, .ref q1_), (5, 0, q1_, .ref q8_), (5, 1, q1_, .ref q9_), (9, 8, q4_, .int y1_), (7, 3, q3_, .int y2_), (5, 2, q1_, .int y4_), (7, 1, q3_, .int y5_)]) rfl (fun r_208 fr_208 H locs hp hMr_208 g => ?_)
          rcases hp with ⟨h_209, x_210, h_211, x_212, h_213, hF_214⟩ | ⟨h_215, x_216, h_217, x_218, h_219, hF_220⟩ | ⟨h_221, x_222, h_223, x_224, h_225, hF_226⟩
          · have hG_227 := eOK.frame hMr_208 go_.2.2.2.1 mq2_ kq2_ (by decide) (by decide) hG_128
            obtain rfl : r_208 = 0 := h_209
            have g := g.more hF_214
            refine lv_if_eq (tgt := 234) hx hb dX2_readMark_190 (by decide) (fun c_ => ?_) (fun c_ => absurd (by decide) c_)
            refine lv_aload_n hx hb dX2_readMark_234 rfl (lv_at hl 2 rfl) ?_
            refine g_getk (C := RX2) (T := TX2) (N := 16) hx hb hts (mc_ inX2) hown hK g rfl 0 (by decide) rfl (hts _ (List.mem_cons_of_mem _ t_416)) (fun _ h9 => h9) 4 rfl dX2_readMark_235 ?_
            refine lv_bipush (v := 59) hx hb dX2_readMark_238 (by decide) ?_
            have go_ := g
            refine g_callv (va_runV (As := [.int 59]) (rest := []) ⟨hx, hb, hml, hown, hts⟩ (r_X8_take l dC dI L kd tys fr_208 H.size g.2.2.2.1 q0_ mq0_ kq0_ 59 y0_ by0_ (g.fcts [1] rfl)) (cwV 1 hts (gV_ t_1098 t_1099 t_1100 t_184 t_1101) rfl rfl rfl (by decide +kernel) ⟨(Nat.le_of_ble_eq_true rfl), (Nat.le_of_ble_eq_true rfl)⟩) (pre3V g hK mq0_ kq0_ (by decide) (q := (RX8, TX8, 10)) rfl) rfl rfl hl.1 rfl (lv_room (Nat.le_of_ble_eq_true rfl)) dX2_readMark_240 ⟨(Nat.le_of_ble_eq_true rfl), (Nat.le_of_ble_eq_true rfl)⟩) g hK (by decide) (by decide) (fx' := [(7, 13, q3_, .int x_212), (6, 12, q5_, .int y_125), (2, 0, a0_, .ref q0_), (2, 1, a0_, .ref q1_), (2, 2, a0_, .ref q2_), (2, 3, a0_, .ref q3_), (2, 4, a0_, .ref q4_), (2, 5, a0_, .ref q5_), (0, 0, q2_, .ref q0_), (0, 1, q2_, .ref q1_), (5, 0, q1_, .ref q8_), (5, 1, q1_, .ref q9_), (9, 8, q4_, .int y1_), (7, 3, q3_, .int y2_), (5, 2, q1_, .int y4_), (7, 1, q3_, .int y5_)]) rfl (fun fr_228 H locs hp hMr_228 g => ?_)
            rcases hp with ⟨x_229, h_230, hF_231⟩ | ⟨x_232, h_233, hF_234⟩
            · have hG_235 := eOK.frame hMr_228 go_.2.2.2.1 mq2_ kq2_ (by decide) (by decide) hG_227
              have g := g.more hF_231
              subst hQ
              exact W.vret hx hb hr (fun t ht hW => ⟨⟨_, rfl, Or.inl ⟨hG_235, b_6, x_229, h_230, x_212, h_213, y_125, b_126, (g.fcts [0, 1, 2, 3] rfl)⟩, q3_of g hK ht hW⟩, g.2.2.1.F ht⟩) g.2.2.1.2.2 dX2_readMark_243
            · have hG_236 := eOK.frame hMr_228 go_.2.2.2.1 mq2_ kq2_ (by decide) (by decide) hG_227
              have g := g.more hF_234
              have kb_1201 : bd 1201 1201 (1201 : Int32) := ⟨by decide, by decide⟩
              subst hQ
              exact W.vret hx hb hr (fun t ht hW => ⟨⟨_, rfl, Or.inr (⟨hG_236, 1201, kb_1201, x_232, h_233, x_212, h_213, y_125, (bd_sub b_126 (by decide)), (g.fcts [0, 1, 2, 3] rfl)⟩), q3_of g hK ht hW⟩, g.2.2.1.F ht⟩) g.2.2.1.2.2 dX2_readMark_243
          · have hG_237 := eOK.frame hMr_208 go_.2.2.2.1 mq2_ kq2_ (by decide) (by decide) hG_128
            obtain rfl : r_208 = 0 := h_215
            have g := g.more hF_220
            refine lv_if_eq (tgt := 234) hx hb dX2_readMark_190 (by decide) (fun c_ => ?_) (fun c_ => absurd (by decide) c_)
            refine lv_aload_n hx hb dX2_readMark_234 rfl (lv_at hl 2 rfl) ?_
            refine g_getk (C := RX2) (T := TX2) (N := 16) hx hb hts (mc_ inX2) hown hK g rfl 0 (by decide) rfl (hts _ (List.mem_cons_of_mem _ t_416)) (fun _ h9 => h9) 4 rfl dX2_readMark_235 ?_
            refine lv_bipush (v := 59) hx hb dX2_readMark_238 (by decide) ?_
            have kb_1201 : bd 1201 1201 (1201 : Int32) := ⟨by decide, by decide⟩
            have go_ := g
            refine g_callv (va_runV (As := [.int 59]) (rest := []) ⟨hx, hb, hml, hown, hts⟩ (r_X8_take_2 l dC dI L kd tys fr_208 H.size g.2.2.2.1 q0_ mq0_ kq0_ 59 1201 kb_1201 x_216 h_217 (g.fcts [0, 1] rfl)) (cwV 1 hts (gV_ t_1098 t_1099 t_1100 t_184 t_1101) rfl rfl rfl (by decide +kernel) ⟨(Nat.le_of_ble_eq_true rfl), (Nat.le_of_ble_eq_true rfl)⟩) (pre3V g hK mq0_ kq0_ (by decide) (q := (RX8, TX8, 10)) rfl) rfl rfl hl.1 rfl (lv_room (Nat.le_of_ble_eq_true rfl)) dX2_readMark_240 ⟨(Nat.le_of_ble_eq_true rfl), (Nat.le_of_ble_eq_true rfl)⟩) g hK (by decide) (by decide) (fx' := [(8, 8, q0_, .int x_216), (7, 13, q3_, .int x_218), (6, 12, q5_, .int y_125), (2, 0, a0_, .ref q0_), (2, 1, a0_, .ref q1_), (2, 2, a0_, .ref q2_), (2, 3, a0_, .ref q3_), (2, 4, a0_, .ref q4_), (2, 5, a0_, .ref q5_), (0, 0, q2_, .ref q0_), (0, 1, q2_, .ref q1_), (5, 0, q1_, .ref q8_), (5, 1, q1_, .ref q9_), (9, 8, q4_, .int y1_), (7, 3, q3_, .int y2_), (5, 2, q1_, .int y4_), (7, 1, q3_, .int y5_)]) rfl (fun fr_238 H locs hp hMr_238 g => ?_)
            obtain ⟨x_239, h_240, hF_241⟩ := hp
            have hG_242 := eOK.frame hMr_238 go_.2.2.2.1 mq2_ kq2_ (by decide) (by decide) hG_237
            have g := g.more hF_241
            subst hQ
            exact W.vret hx hb hr (fun t ht hW => ⟨⟨_, rfl, Or.inr (⟨hG_242, x_239, h_240, x_216, h_217, x_218, h_219, y_125, (bd_sub b_126 (by decide)), (g.fcts [0, 1, 2, 3] rfl)⟩), q3_of g hK ht hW⟩, g.2.2.1.F ht⟩) g.2.2.1.2.2 dX2_readMark_243
          · have hG_243 := eOK.frame hMr_208 go_.2.2.2.1 mq2_ kq2_ (by decide) (by decide) hG_128
            obtain rfl : r_208 = 1 := h_221
            have g := g.more hF_226
            refine lv_if_eq (tgt := 234) hx hb dX2_readMark_190 (by decide) (fun c_ => absurd c_ (by decide)) (fun c_ => ?_)
            refine lv_aload_n hx hb dX2_readMark_193 rfl (lv_at hl 2 rfl) ?_
            refine lv_iconst (v := 0) hx hb dX2_readMark_194 (by decide) ?_
            have kb_0 : bd 0 0 (0 : Int32) := ⟨by decide, by decide⟩
            have go_ := g
            refine g_callv (va_runV (As := [.int 0]) (rest := []) ⟨hx, hb, hml, hown, hts⟩ (r_X2_readAsked_10 l dC dI L kd tys fr_208 H.size g.2.2.2.1 a0_ ma0_ ka0_ 0 kb_0 q0_ mq0_ kq0_ q1_ mq1_ kq1_ q2_ mq2_ kq2_ q3_ mq3_ kq3_ q8_ mq8_ kq8_ q9_ mq9_ kq9_ y0_ by0_ x_224 h_225 y2_ by2_ y4_ by4_ y5_ by5_ hG_243 (g.fcts [4, 5, 6, 7, 10, 11, 12, 13, 1, 2, 15, 16, 17] rfl)) (cwV 1 hts (gV_ t_1178 t_1180 t_13 t_183 t_1181) rfl rfl rfl (by decide +kernel) ⟨(Nat.le_of_ble_eq_true rfl), (Nat.le_of_ble_eq_true rfl)⟩) (pre3V g hK ma0_ ka0_ (by decide) (q := (RX2, TX2, 16)) rfl) rfl rfl hl.1 rfl (lv_room (Nat.le_of_ble_eq_true rfl)) dX2_readMark_195 ⟨(Nat.le_of_ble_eq_true rfl), (Nat.le_of_ble_eq_true rfl)⟩) g hK (by decide) (by decide) (fx' := [(7, 13, q3_, .int x_224), (6, 12, q5_, .int y_125), (2, 0, a0_, .ref q0_), (2, 1, a0_, .ref q1_), (2, 2, a0_, .ref q2_), (2, 3, a0_, .ref q3_), (2, 4, a0_, .ref q4_), (2, 5, a0_, .ref q5_), (0, 0, q2_, .ref q0_), (0, 1, q2_, .ref q1_), (5, 0, q1_, .ref q8_), (5, 1, q1_, .ref q9_), (9, 8, q4_, .int y1_), (7, 3, q3_, .int y2_), (5, 2, q1_, .int y4_), (7, 1, q3_, .int y5_)]) rfl (fun fr_244 H locs hp hMr_244 g => ?_)
            rcases hp with ⟨hG_245, x_246, h_247, hF_248⟩ | ⟨hG_249, x_250, h_251, x_252, h_253, x_254, h_255, hF_256⟩
            · have g := g.more hF_248
              refine lv_goto (tgt := 234) hx hb dX2_readMark_198 (by decide) ?_
              refine lv_aload_n hx hb dX2_readMark_234 rfl (lv_at hl 2 rfl) ?_
              refine g_getk (C := RX2) (T := TX2) (N := 16) hx hb hts (mc_ inX2) hown hK g rfl 0 (by decide) rfl (hts _ (List.mem_cons_of_mem _ t_416)) (fun _ h9 => h9) 7 rfl dX2_readMark_235 ?_
              refine lv_bipush (v := 59) hx hb dX2_readMark_238 (by decide) ?_
              have go_ := g
              refine g_callv (va_runV (As := [.int 59]) (rest := []) ⟨hx, hb, hml, hown, hts⟩ (r_X8_take l dC dI L kd tys fr_244 H.size g.2.2.2.1 q0_ mq0_ kq0_ 59 y0_ by0_ (g.fcts [4] rfl)) (cwV 1 hts (gV_ t_1098 t_1099 t_1100 t_184 t_1101) rfl rfl rfl (by decide +kernel) ⟨(Nat.le_of_ble_eq_true rfl), (Nat.le_of_ble_eq_true rfl)⟩) (pre3V g hK mq0_ kq0_ (by decide) (q := (RX8, TX8, 10)) rfl) rfl rfl hl.1 rfl (lv_room (Nat.le_of_ble_eq_true rfl)) dX2_readMark_240 ⟨(Nat.le_of_ble_eq_true rfl), (Nat.le_of_ble_eq_true rfl)⟩) g hK (by decide) (by decide) (fx' := [(7, 6, q3_, .int x_246), (5, 8, q1_, .int 0), (5, 7, q1_, .int 0), (0, 2, q2_, .ref q8_), (7, 13, q3_, .int x_224), (6, 12, q5_, .int y_125), (2, 0, a0_, .ref q0_), (2, 1, a0_, .ref q1_), (2, 2, a0_, .ref q2_), (2, 3, a0_, .ref q3_), (2, 4, a0_, .ref q4_), (2, 5, a0_, .ref q5_), (0, 0, q2_, .ref q0_), (0, 1, q2_, .ref q1_), (5, 0, q1_, .ref q8_), (5, 1, q1_, .ref q9_), (9, 8, q4_, .int y1_), (7, 3, q3_, .int y2_), (5, 2, q1_, .int y4_), (7, 1, q3_, .int y5_)]) rfl (fun fr_257 H locs hp hMr_257 g => ?_)
              rcases hp with ⟨x_258, h_259, hF_260⟩ | ⟨x_261, h_262, hF_263⟩
              · have hG_264 := eOK.frame hMr_257 go_.2.2.2.1 mq2_ kq2_ (by decide) (by decide) hG_245
                have g := g.more hF_260
                subst hQ
                exact W.vret hx hb hr (fun t ht hW => ⟨⟨_, rfl, Or.inl ⟨hG_264, b_6, x_258, h_259, x_224, h_225, y_125, b_126, (g.fcts [0, 1, 6, 7] rfl)⟩, q3_of g hK ht hW⟩, g.2.2.1.F ht⟩) g.2.2.1.2.2 dX2_readMark_243
              · have hG_265 := eOK.frame hMr_257 go_.2.2.2.1 mq2_ kq2_ (by decide) (by decide) hG_245
                have g := g.more hF_263
                have kb_1201 : bd 1201 1201 (1201 : Int32) := ⟨by decide, by decide⟩
                subst hQ
                exact W.vret hx hb hr (fun t ht hW => ⟨⟨_, rfl, Or.inr (⟨hG_265, 1201, kb_1201, x_261, h_262, x_224, h_225, y_125, (bd_sub b_126 (by decide)), (g.fcts [0, 1, 6, 7] rfl)⟩), q3_of g hK ht hW⟩, g.2.2.1.F ht⟩) g.2.2.1.2.2 dX2_readMark_243
            · have g := g.more hF_256
              refine lv_goto (tgt := 234) hx hb dX2_readMark_198 (by decide) ?_
              refine lv_aload_n hx hb dX2_readMark_234 rfl (lv_at hl 2 rfl) ?_
              refine g_getk (C := RX2) (T := TX2) (N := 16) hx hb hts (mc_ inX2) hown hK g rfl 0 (by decide) rfl (hts _ (List.mem_cons_of_mem _ t_416)) (fun _ h9 => h9) 8 rfl dX2_readMark_235 ?_
              refine lv_bipush (v := 59) hx hb dX2_readMark_238 (by decide) ?_
              have go_ := g
              refine g_callv (va_runV (As := [.int 59]) (rest := []) ⟨hx, hb, hml, hown, hts⟩ (r_X8_take_2 l dC dI L kd tys fr_244 H.size g.2.2.2.1 q0_ mq0_ kq0_ 59 x_252 h_253 x_254 h_255 (g.fcts [3, 4] rfl)) (cwV 1 hts (gV_ t_1098 t_1099 t_1100 t_184 t_1101) rfl rfl rfl (by decide +kernel) ⟨(Nat.le_of_ble_eq_true rfl), (Nat.le_of_ble_eq_true rfl)⟩) (pre3V g hK mq0_ kq0_ (by decide) (q := (RX8, TX8, 10)) rfl) rfl rfl hl.1 rfl (lv_room (Nat.le_of_ble_eq_true rfl)) dX2_readMark_240 ⟨(Nat.le_of_ble_eq_true rfl), (Nat.le_of_ble_eq_true rfl)⟩) g hK (by decide) (by decide) (fx' := [(7, 6, q3_, .int x_250), (5, 8, q1_, .int 0), (5, 7, q1_, .int 0), (8, 8, q0_, .int x_254), (0, 2, q2_, .ref q8_), (7, 13, q3_, .int x_224), (6, 12, q5_, .int y_125), (2, 0, a0_, .ref q0_), (2, 1, a0_, .ref q1_), (2, 2, a0_, .ref q2_), (2, 3, a0_, .ref q3_), (2, 4, a0_, .ref q4_), (2, 5, a0_, .ref q5_), (0, 0, q2_, .ref q0_), (0, 1, q2_, .ref q1_), (5, 0, q1_, .ref q8_), (5, 1, q1_, .ref q9_), (9, 8, q4_, .int y1_), (7, 3, q3_, .int y2_), (5, 2, q1_, .int y4_), (7, 1, q3_, .int y5_)]) rfl (fun fr_266 H locs hp hMr_266 g => ?_)
              obtain ⟨x_267, h_268, hF_269⟩ := hp
              have hG_270 := eOK.frame hMr_266 go_.2.2.2.1 mq2_ kq2_ (by decide) (by decide) hG_249
              have g := g.more hF_269
              subst hQ
              exact W.vret hx hb hr (fun t ht hW => ⟨⟨_, rfl, Or.inr (⟨hG_270, x_267, h_268, x_254, h_255, x_224, h_225, y_125, (bd_sub b_126 (by decide)), (g.fcts [0, 4, 6, 7] rfl)⟩), q3_of g hK ht hW⟩, g.2.2.1.F ht⟩) g.2.2.1.2.2 dX2_readMark_243
        by_cases e_271 : r_1 = 19
        · refine lv_topi (fun z_272 ez_272 => ?_)
          obtain rfl : z_272 = 19 := ez_272.trans e_271
          have kb_19 : bd 19 19 (19 : Int32) := ⟨by decide, by decide⟩
          have b_273 : bd 19 19 r_1 := eqX (eq_f e_271) (bdT r_1) kb_19 (by decide)
          refine lv_tableIn (off := 117) (tgt := 208) hx hb dX2_readMark_91 (by decide) (by decide) rfl (by decide) ?_
          refine lv_aload_n hx hb dX2_readMark_208 rfl (lv_at hl 2 rfl) ?_
          refine g_getk (C := RX2) (T := TX2) (N := 16) hx hb hts (mc_ inX2) hown hK g rfl 3 (by decide) rfl (hts _ (List.mem_cons_of_mem _ t_419)) (fun _ h9 => h9) 5 rfl dX2_readMark_209 ?_
          refine lv_bipush (v := 6) hx hb dX2_readMark_212 (by decide) ?_
          refine lv_aload_n hx hb dX2_readMark_214 rfl (lv_at hl 2 rfl) ?_
          refine g_getk (C := RX2) (T := TX2) (N := 16) hx hb hts (mc_ inX2) hown hK g rfl 1 (by decide) rfl (hts _ (List.mem_cons_of_mem _ t_417)) (fun _ h9 => h9) 3 rfl dX2_readMark_215 ?_
          refine g_getk (C := RX5) (T := TX5) (N := 9) hx hb hts (mc_ inX5) hown hK g rfl 2 (by decide) rfl (hts _ (List.mem_cons_of_mem _ t_333)) (fun _ h9 => h9) 15 rfl dX2_readMark_218 ?_
          refine lv_iload_n hx hb dX2_readMark_221 rfl (lv_at hl 0 rfl) ?_
          have go_ := g
          refine g_calli (va_runV (As := [.int 6, .int y4_, .int r_3]) (rest := []) ⟨hx, hb, hml, hown, hts⟩ (r_X7_addMark l dC dI L kd tys f H.size g.2.2.2.1 q3_ mq3_ kq3_ 6 y4_ r_3) (cwV 3 hts (gV_ t_1173 t_1174 t_1175 t_191 t_1176) rfl rfl rfl (by decide +kernel) ⟨(Nat.le_of_ble_eq_true rfl), (Nat.le_of_ble_eq_true rfl)⟩) (pre3V g hK mq3_ kq3_ (by decide) (q := (RX7, TX7, 19)) rfl) rfl rfl hl.1 rfl (lv_room (Nat.le_of_ble_eq_true rfl)) dX2_readMark_222 ⟨(Nat.le_of_ble_eq_true rfl), (Nat.le_of_ble_eq_true rfl)⟩) g hK (by decide) (by decide) (fx' := [(6, 12, q5_, .int y_125), (8, 6, q0_, .int x_8), (2, 0, a0_, .ref q0_), (2, 1, a0_, .ref q1_), (2, 2, a0_, .ref q2_), (2, 3, a0_, .ref q3_), (2, 4, a0_, .ref q4_), (2, 5, a0_, .ref q5_), (0, 0, q2_, .ref q0_), (0, 1, q2_, .ref q1_), (5, 0, q1_, .ref q8_), (5, 1, q1_, .ref q9_), (8, 8, q0_, .int y0_), (9, 8, q4_, .int y1_), (7, 3, q3_, .int y2_), (5, 2, q1_, .int y4_), (7, 1, q3_, .int y5_)]) rfl (fun r_274 fr_274 H locs hp hMr_274 g => ?_)
          obtain ⟨h_275, x_276, h_277, hF_278⟩ := hp
          have hG_279 := eOK.frame hMr_274 go_.2.2.2.1 mq2_ kq2_ (by decide) (by decide) hG_128
          have g := g.more hF_278
          refine lv_pop hx hb dX2_readMark_225 rfl ?_
          refine lv_aload_n hx hb dX2_readMark_226 rfl (lv_at hl 2 rfl) ?_
          refine g_getk (C := RX2) (T := TX2) (N := 16) hx hb hts (mc_ inX2) hown hK g rfl 5 (by decide) rfl (hts _ (List.mem_cons_of_mem _ t_421)) (fun _ h9 => h9) 8 rfl dX2_readMark_227 ?_
          refine lv_iconst (v := 1) hx hb dX2_readMark_230 (by decide) ?_
          have go_ := g
          refine g_put (C := RX6) (T := TX6) (N := 13) hx hb hts (mc_ inX6) tyX6 tyX6_ok nmX6 hown hK g mq5_ kq5_ (by decide) rfl 6 (by decide) (hts _ (List.mem_cons_of_mem _ t_578)) (fun _ h9 => h9) rfl rfl (okV_i (bd_sub kb_1 (by decide))) rfl rfl (by decide) (Or.inr (Or.inl (by decide))) (fx' := [(7, 13, q3_, .int x_276), (6, 12, q5_, .int y_125), (8, 6, q0_, .int x_8), (2, 0, a0_, .ref q0_), (2, 1, a0_, .ref q1_), (2, 2, a0_, .ref q2_), (2, 3, a0_, .ref q3_), (2, 4, a0_, .ref q4_), (2, 5, a0_, .ref q5_), (0, 0, q2_, .ref q0_), (0, 1, q2_, .ref q1_), (5, 0, q1_, .ref q8_), (5, 1, q1_, .ref q9_), (8, 8, q0_, .int y0_), (9, 8, q4_, .int y1_), (7, 3, q3_, .int y2_), (5, 2, q1_, .int y4_), (7, 1, q3_, .int y5_)]) rfl dX2_readMark_231 (fun f H locs hM_280 g => ?_)
          have hG_281 := eOK.frame hM_280 go_.2.2.2.1 mq2_ kq2_ (by decide) (by decide) hG_279
          refine lv_aload_n hx hb dX2_readMark_234 rfl (lv_at hl 2 rfl) ?_
          refine g_getk (C := RX2) (T := TX2) (N := 16) hx hb hts (mc_ inX2) hown hK g rfl 0 (by decide) rfl (hts _ (List.mem_cons_of_mem _ t_416)) (fun _ h9 => h9) 4 rfl dX2_readMark_235 ?_
          refine lv_bipush (v := 59) hx hb dX2_readMark_238 (by decide) ?_
          have go_ := g
          refine g_callv (va_runV (As := [.int 59]) (rest := []) ⟨hx, hb, hml, hown, hts⟩ (r_X8_take l dC dI L kd tys f H.size g.2.2.2.1 q0_ mq0_ kq0_ 59 y0_ by0_ (g.fcts [14] rfl)) (cwV 1 hts (gV_ t_1098 t_1099 t_1100 t_184 t_1101) rfl rfl rfl (by decide +kernel) ⟨(Nat.le_of_ble_eq_true rfl), (Nat.le_of_ble_eq_true rfl)⟩) (pre3V g hK mq0_ kq0_ (by decide) (q := (RX8, TX8, 10)) rfl) rfl rfl hl.1 rfl (lv_room (Nat.le_of_ble_eq_true rfl)) dX2_readMark_240 ⟨(Nat.le_of_ble_eq_true rfl), (Nat.le_of_ble_eq_true rfl)⟩) g hK (by decide) (by decide) (fx' := [(6, 6, q5_, .int 1), (7, 13, q3_, .int x_276), (6, 12, q5_, .int y_125), (2, 0, a0_, .ref q0_), (2, 1, a0_, .ref q1_), (2, 2, a0_, .ref q2_), (2, 3, a0_, .ref q3_), (2, 4, a0_, .ref q4_), (2, 5, a0_, .ref q5_), (0, 0, q2_, .ref q0_), (0, 1, q2_, .ref q1_), (5, 0, q1_, .ref q8_), (5, 1, q1_, .ref q9_), (9, 8, q4_, .int y1_), (7, 3, q3_, .int y2_), (5, 2, q1_, .int y4_), (7, 1, q3_, .int y5_)]) rfl (fun fr_282 H locs hp hMr_282 g => ?_)
          rcases hp with ⟨x_283, h_284, hF_285⟩ | ⟨x_286, h_287, hF_288⟩
          · have hG_289 := eOK.frame hMr_282 go_.2.2.2.1 mq2_ kq2_ (by decide) (by decide) hG_281
            have g := g.more hF_285
            subst hQ
            exact W.vret hx hb hr (fun t ht hW => ⟨⟨_, rfl, Or.inl ⟨hG_289, b_6, x_283, h_284, x_276, h_277, y_125, b_126, (g.fcts [0, 1, 3, 4] rfl)⟩, q3_of g hK ht hW⟩, g.2.2.1.F ht⟩) g.2.2.1.2.2 dX2_readMark_243
          · have hG_290 := eOK.frame hMr_282 go_.2.2.2.1 mq2_ kq2_ (by decide) (by decide) hG_281
            have g := g.more hF_288
            have kb_1201 : bd 1201 1201 (1201 : Int32) := ⟨by decide, by decide⟩
            subst hQ
            exact W.vret hx hb hr (fun t ht hW => ⟨⟨_, rfl, Or.inr (⟨hG_290, 1201, kb_1201, x_286, h_287, x_276, h_277, y_125, (bd_sub b_126 (by decide)), (g.fcts [0, 1, 3, 4] rfl)⟩), q3_of g hK ht hW⟩, g.2.2.1.F ht⟩) g.2.2.1.2.2 dX2_readMark_243
        by_cases e_291 : r_1 = 20
        · refine lv_topi (fun z_292 ez_292 => ?_)
          obtain rfl : z_292 = 20 := ez_292.trans e_291
          have b_293 : bd 20 20 r_1 := eqX (eq_f e_291) (bdT r_1) kb_20 (by decide)
          refine lv_tableIn (off := 110) (tgt := 201) hx hb dX2_readMark_91 (by decide) (by decide) rfl (by decide) ?_
          refine lv_aload_n hx hb dX2_readMark_201 rfl (lv_at hl 2 rfl) ?_
          have go_ := g
          refine g_callv (va_runV (As := []) (rest := []) ⟨hx, hb, hml, hown, hts⟩ (r_X2_readOnly l dC dI L kd tys f H.size g.2.2.2.1 a0_ ma0_ ka0_ q0_ mq0_ kq0_ q3_ mq3_ kq3_ q4_ mq4_ kq4_ y0_ by0_ (g.fcts [2, 5, 6, 12] rfl)) (cwV 0 hts (gV_ t_1330 t_1332 t_38 t_183 t_1333) rfl rfl rfl (by decide +kernel) ⟨(Nat.le_of_ble_eq_true rfl), (Nat.le_of_ble_eq_true rfl)⟩) (pre3V g hK ma0_ ka0_ (by decide) (q := (RX2, TX2, 16)) rfl) rfl rfl hl.1 rfl (lv_room (Nat.le_of_ble_eq_true rfl)) dX2_readMark_202 ⟨(Nat.le_of_ble_eq_true rfl), (Nat.le_of_ble_eq_true rfl)⟩) g hK (by decide) (by decide) (fx' := [(6, 12, q5_, .int y_125), (2, 0, a0_, .ref q0_), (2, 1, a0_, .ref q1_), (2, 2, a0_, .ref q2_), (2, 3, a0_, .ref q3_), (2, 4, a0_, .ref q4_), (2, 5, a0_, .ref q5_), (0, 0, q2_, .ref q0_), (0, 1, q2_, .ref q1_), (5, 0, q1_, .ref q8_), (5, 1, q1_, .ref q9_), (9, 8, q4_, .int y1_), (7, 3, q3_, .int y2_), (5, 2, q1_, .int y4_), (7, 1, q3_, .int y5_)]) rfl (fun fr_294 H locs hp hMr_294 g => ?_)
          rcases hp with ⟨x_295, h_296, hF_297⟩ | ⟨x_298, h_299, x_300, h_301, hF_302⟩
          · have hG_303 := eOK.frame hMr_294 go_.2.2.2.1 mq2_ kq2_ (by decide) (by decide) hG_128
            have g := g.more hF_297
            refine lv_goto (tgt := 234) hx hb dX2_readMark_205 (by decide) ?_
            refine lv_aload_n hx hb dX2_readMark_234 rfl (lv_at hl 2 rfl) ?_
            refine g_getk (C := RX2) (T := TX2) (N := 16) hx hb hts (mc_ inX2) hown hK g rfl 0 (by decide) rfl (hts _ (List.mem_cons_of_mem _ t_416)) (fun _ h9 => h9) 3 rfl dX2_readMark_235 ?_
            refine lv_bipush (v := 59) hx hb dX2_readMark_238 (by decide) ?_
            have go_ := g
            refine g_callv (va_runV (As := [.int 59]) (rest := []) ⟨hx, hb, hml, hown, hts⟩ (r_X8_take l dC dI L kd tys fr_294 H.size g.2.2.2.1 q0_ mq0_ kq0_ 59 y0_ by0_ (g.fcts [1] rfl)) (cwV 1 hts (gV_ t_1098 t_1099 t_1100 t_184 t_1101) rfl rfl rfl (by decide +kernel) ⟨(Nat.le_of_ble_eq_true rfl), (Nat.le_of_ble_eq_true rfl)⟩) (pre3V g hK mq0_ kq0_ (by decide) (q := (RX8, TX8, 10)) rfl) rfl rfl hl.1 rfl (lv_room (Nat.le_of_ble_eq_true rfl)) dX2_readMark_240 ⟨(Nat.le_of_ble_eq_true rfl), (Nat.le_of_ble_eq_true rfl)⟩) g hK (by decide) (by decide) (fx' := [(7, 13, q3_, .int x_295), (6, 12, q5_, .int y_125), (2, 0, a0_, .ref q0_), (2, 1, a0_, .ref q1_), (2, 2, a0_, .ref q2_), (2, 3, a0_, .ref q3_), (2, 4, a0_, .ref q4_), (2, 5, a0_, .ref q5_), (0, 0, q2_, .ref q0_), (0, 1, q2_, .ref q1_), (5, 0, q1_, .ref q8_), (5, 1, q1_, .ref q9_), (9, 8, q4_, .int y1_), (7, 3, q3_, .int y2_), (5, 2, q1_, .int y4_), (7, 1, q3_, .int y5_)]) rfl (fun fr_304 H locs hp hMr_304 g => ?_)
            rcases hp with ⟨x_305, h_306, hF_307⟩ | ⟨x_308, h_309, hF_310⟩
            · have hG_311 := eOK.frame hMr_304 go_.2.2.2.1 mq2_ kq2_ (by decide) (by decide) hG_303
              have g := g.more hF_307
              subst hQ
              exact W.vret hx hb hr (fun t ht hW => ⟨⟨_, rfl, Or.inl ⟨hG_311, b_6, x_305, h_306, x_295, h_296, y_125, b_126, (g.fcts [0, 1, 2, 3] rfl)⟩, q3_of g hK ht hW⟩, g.2.2.1.F ht⟩) g.2.2.1.2.2 dX2_readMark_243
            · have hG_312 := eOK.frame hMr_304 go_.2.2.2.1 mq2_ kq2_ (by decide) (by decide) hG_303
              have g := g.more hF_310
              have kb_1201 : bd 1201 1201 (1201 : Int32) := ⟨by decide, by decide⟩
              subst hQ
              exact W.vret hx hb hr (fun t ht hW => ⟨⟨_, rfl, Or.inr (⟨hG_312, 1201, kb_1201, x_308, h_309, x_295, h_296, y_125, (bd_sub b_126 (by decide)), (g.fcts [0, 1, 2, 3] rfl)⟩), q3_of g hK ht hW⟩, g.2.2.1.F ht⟩) g.2.2.1.2.2 dX2_readMark_243
          · have hG_313 := eOK.frame hMr_294 go_.2.2.2.1 mq2_ kq2_ (by decide) (by decide) hG_128
            have g := g.more hF_302
            refine lv_goto (tgt := 234) hx hb dX2_readMark_205 (by decide) ?_
            refine lv_aload_n hx hb dX2_readMark_234 rfl (lv_at hl 2 rfl) ?_
            refine g_getk (C := RX2) (T := TX2) (N := 16) hx hb hts (mc_ inX2) hown hK g rfl 0 (by decide) rfl (hts _ (List.mem_cons_of_mem _ t_416)) (fun _ h9 => h9) 4 rfl dX2_readMark_235 ?_
            refine lv_bipush (v := 59) hx hb dX2_readMark_238 (by decide) ?_
            have kb_1201 : bd 1201 1201 (1201 : Int32) := ⟨by decide, by decide⟩
            have go_ := g
            refine g_callv (va_runV (As := [.int 59]) (rest := []) ⟨hx, hb, hml, hown, hts⟩ (r_X8_take_2 l dC dI L kd tys fr_294 H.size g.2.2.2.1 q0_ mq0_ kq0_ 59 1201 kb_1201 x_298 h_299 (g.fcts [0, 1] rfl)) (cwV 1 hts (gV_ t_1098 t_1099 t_1100 t_184 t_1101) rfl rfl rfl (by decide +kernel) ⟨(Nat.le_of_ble_eq_true rfl), (Nat.le_of_ble_eq_true rfl)⟩) (pre3V g hK mq0_ kq0_ (by decide) (q := (RX8, TX8, 10)) rfl) rfl rfl hl.1 rfl (lv_room (Nat.le_of_ble_eq_true rfl)) dX2_readMark_240 ⟨(Nat.le_of_ble_eq_true rfl), (Nat.le_of_ble_eq_true rfl)⟩) g hK (by decide) (by decide) (fx' := [(8, 8, q0_, .int x_298), (7, 13, q3_, .int x_300), (6, 12, q5_, .int y_125), (2, 0, a0_, .ref q0_), (2, 1, a0_, .ref q1_), (2, 2, a0_, .ref q2_), (2, 3, a0_, .ref q3_), (2, 4, a0_, .ref q4_), (2, 5, a0_, .ref q5_), (0, 0, q2_, .ref q0_), (0, 1, q2_, .ref q1_), (5, 0, q1_, .ref q8_), (5, 1, q1_, .ref q9_), (9, 8, q4_, .int y1_), (7, 3, q3_, .int y2_), (5, 2, q1_, .int y4_), (7, 1, q3_, .int y5_)]) rfl (fun fr_314 H locs hp hMr_314 g => ?_)
            obtain ⟨x_315, h_316, hF_317⟩ := hp
            have hG_318 := eOK.frame hMr_314 go_.2.2.2.1 mq2_ kq2_ (by decide) (by decide) hG_313
            have g := g.more hF_317
            subst hQ
            exact W.vret hx hb hr (fun t ht hW => ⟨⟨_, rfl, Or.inr (⟨hG_318, x_315, h_316, x_298, h_299, x_300, h_301, y_125, (bd_sub b_126 (by decide)), (g.fcts [0, 1, 2, 3] rfl)⟩), q3_of g hK ht hW⟩, g.2.2.1.F ht⟩) g.2.2.1.2.2 dX2_readMark_243
        refine lv_tableOut (tgt := 208) hx hb dX2_readMark_91 (by have a0 : r_1.toInt ≠ 16 := fun h => e_129 (Int32.toInt_inj.mp (h.trans (by decide))); have a1 : r_1.toInt ≠ 17 := fun h => e_167 (Int32.toInt_inj.mp (h.trans (by decide))); have a2 : r_1.toInt ≠ 18 := fun h => e_205 (Int32.toInt_inj.mp (h.trans (by decide))); have a3 : r_1.toInt ≠ 19 := fun h => e_271 (Int32.toInt_inj.mp (h.trans (by decide))); have a4 : r_1.toInt ≠ 20 := fun h => e_291 (Int32.toInt_inj.mp (h.trans (by decide))); omega) (by decide) ?_
        refine lv_aload_n hx hb dX2_readMark_208 rfl (lv_at hl 2 rfl) ?_
        refine g_getk (C := RX2) (T := TX2) (N := 16) hx hb hts (mc_ inX2) hown hK g rfl 3 (by decide) rfl (hts _ (List.mem_cons_of_mem _ t_419)) (fun _ h9 => h9) 5 rfl dX2_readMark_209 ?_
        refine lv_bipush (v := 6) hx hb dX2_readMark_212 (by decide) ?_
        refine lv_aload_n hx hb dX2_readMark_214 rfl (lv_at hl 2 rfl) ?_
        refine g_getk (C := RX2) (T := TX2) (N := 16) hx hb hts (mc_ inX2) hown hK g rfl 1 (by decide) rfl (hts _ (List.mem_cons_of_mem _ t_417)) (fun _ h9 => h9) 3 rfl dX2_readMark_215 ?_
        refine g_getk (C := RX5) (T := TX5) (N := 9) hx hb hts (mc_ inX5) hown hK g rfl 2 (by decide) rfl (hts _ (List.mem_cons_of_mem _ t_333)) (fun _ h9 => h9) 15 rfl dX2_readMark_218 ?_
        refine lv_iload_n hx hb dX2_readMark_221 rfl (lv_at hl 0 rfl) ?_
        have go_ := g
        refine g_calli (va_runV (As := [.int 6, .int y4_, .int r_3]) (rest := []) ⟨hx, hb, hml, hown, hts⟩ (r_X7_addMark l dC dI L kd tys f H.size g.2.2.2.1 q3_ mq3_ kq3_ 6 y4_ r_3) (cwV 3 hts (gV_ t_1173 t_1174 t_1175 t_191 t_1176) rfl rfl rfl (by decide +kernel) ⟨(Nat.le_of_ble_eq_true rfl), (Nat.le_of_ble_eq_true rfl)⟩) (pre3V g hK mq3_ kq3_ (by decide) (q := (RX7, TX7, 19)) rfl) rfl rfl hl.1 rfl (lv_room (Nat.le_of_ble_eq_true rfl)) dX2_readMark_222 ⟨(Nat.le_of_ble_eq_true rfl), (Nat.le_of_ble_eq_true rfl)⟩) g hK (by decide) (by decide) (fx' := [(6, 12, q5_, .int y_125), (8, 6, q0_, .int x_8), (2, 0, a0_, .ref q0_), (2, 1, a0_, .ref q1_), (2, 2, a0_, .ref q2_), (2, 3, a0_, .ref q3_), (2, 4, a0_, .ref q4_), (2, 5, a0_, .ref q5_), (0, 0, q2_, .ref q0_), (0, 1, q2_, .ref q1_), (5, 0, q1_, .ref q8_), (5, 1, q1_, .ref q9_), (8, 8, q0_, .int y0_), (9, 8, q4_, .int y1_), (7, 3, q3_, .int y2_), (5, 2, q1_, .int y4_), (7, 1, q3_, .int y5_)]) rfl (fun r_319 fr_319 H locs hp hMr_319 g => ?_)
        obtain ⟨h_320, x_321, h_322, hF_323⟩ := hp
        have hG_324 := eOK.frame hMr_319 go_.2.2.2.1 mq2_ kq2_ (by decide) (by decide) hG_128
        have g := g.more hF_323
        refine lv_pop hx hb dX2_readMark_225 rfl ?_
        refine lv_aload_n hx hb dX2_readMark_226 rfl (lv_at hl 2 rfl) ?_
        refine g_getk (C := RX2) (T := TX2) (N := 16) hx hb hts (mc_ inX2) hown hK g rfl 5 (by decide) rfl (hts _ (List.mem_cons_of_mem _ t_421)) (fun _ h9 => h9) 8 rfl dX2_readMark_227 ?_
        refine lv_iconst (v := 1) hx hb dX2_readMark_230 (by decide) ?_
        have go_ := g
        refine g_put (C := RX6) (T := TX6) (N := 13) hx hb hts (mc_ inX6) tyX6 tyX6_ok nmX6 hown hK g mq5_ kq5_ (by decide) rfl 6 (by decide) (hts _ (List.mem_cons_of_mem _ t_578)) (fun _ h9 => h9) rfl rfl (okV_i (bd_sub kb_1 (by decide))) rfl rfl (by decide) (Or.inr (Or.inl (by decide))) (fx' := [(7, 13, q3_, .int x_321), (6, 12, q5_, .int y_125), (8, 6, q0_, .int x_8), (2, 0, a0_, .ref q0_), (2, 1, a0_, .ref q1_), (2, 2, a0_, .ref q2_), (2, 3, a0_, .ref q3_), (2, 4, a0_, .ref q4_), (2, 5, a0_, .ref q5_), (0, 0, q2_, .ref q0_), (0, 1, q2_, .ref q1_), (5, 0, q1_, .ref q8_), (5, 1, q1_, .ref q9_), (8, 8, q0_, .int y0_), (9, 8, q4_, .int y1_), (7, 3, q3_, .int y2_), (5, 2, q1_, .int y4_), (7, 1, q3_, .int y5_)]) rfl dX2_readMark_231 (fun f H locs hM_325 g => ?_)
        have hG_326 := eOK.frame hM_325 go_.2.2.2.1 mq2_ kq2_ (by decide) (by decide) hG_324
        refine lv_aload_n hx hb dX2_readMark_234 rfl (lv_at hl 2 rfl) ?_
        refine g_getk (C := RX2) (T := TX2) (N := 16) hx hb hts (mc_ inX2) hown hK g rfl 0 (by decide) rfl (hts _ (List.mem_cons_of_mem _ t_416)) (fun _ h9 => h9) 4 rfl dX2_readMark_235 ?_
        refine lv_bipush (v := 59) hx hb dX2_readMark_238 (by decide) ?_
        have go_ := g
        refine g_callv (va_runV (As := [.int 59]) (rest := []) ⟨hx, hb, hml, hown, hts⟩ (r_X8_take l dC dI L kd tys f H.size g.2.2.2.1 q0_ mq0_ kq0_ 59 y0_ by0_ (g.fcts [14] rfl)) (cwV 1 hts (gV_ t_1098 t_1099 t_1100 t_184 t_1101) rfl rfl rfl (by decide +kernel) ⟨(Nat.le_of_ble_eq_true rfl), (Nat.le_of_ble_eq_true rfl)⟩) (pre3V g hK mq0_ kq0_ (by decide) (q := (RX8, TX8, 10)) rfl) rfl rfl hl.1 rfl (lv_room (Nat.le_of_ble_eq_true rfl)) dX2_readMark_240 ⟨(Nat.le_of_ble_eq_true rfl), (Nat.le_of_ble_eq_true rfl)⟩) g hK (by decide) (by decide) (fx' := [(6, 6, q5_, .int 1), (7, 13, q3_, .int x_321), (6, 12, q5_, .int y_125), (2, 0, a0_, .ref q0_), (2, 1, a0_, .ref q1_), (2, 2, a0_, .ref q2_), (2, 3, a0_, .ref q3_), (2, 4, a0_, .ref q4_), (2, 5, a0_, .ref q5_), (0, 0, q2_, .ref q0_), (0, 1, q2_, .ref q1_), (5, 0, q1_, .ref q8_), (5, 1, q1_, .ref q9_), (9, 8, q4_, .int y1_), (7, 3, q3_, .int y2_), (5, 2, q1_, .int y4_), (7, 1, q3_, .int y5_)]) rfl (fun fr_327 H locs hp hMr_327 g => ?_)
        rcases hp with ⟨x_328, h_329, hF_330⟩ | ⟨x_331, h_332, hF_333⟩
        · have hG_334 := eOK.frame hMr_327 go_.2.2.2.1 mq2_ kq2_ (by decide) (by decide) hG_326
          have g := g.more hF_330
          subst hQ
          exact W.vret hx hb hr (fun t ht hW => ⟨⟨_, rfl, Or.inl ⟨hG_334, b_6, x_328, h_329, x_321, h_322, y_125, b_126, (g.fcts [0, 1, 3, 4] rfl)⟩, q3_of g hK ht hW⟩, g.2.2.1.F ht⟩) g.2.2.1.2.2 dX2_readMark_243
        · have hG_335 := eOK.frame hMr_327 go_.2.2.2.1 mq2_ kq2_ (by decide) (by decide) hG_326
          have g := g.more hF_333
          have kb_1201 : bd 1201 1201 (1201 : Int32) := ⟨by decide, by decide⟩
          subst hQ
          exact W.vret hx hb hr (fun t ht hW => ⟨⟨_, rfl, Or.inr (⟨hG_335, 1201, kb_1201, x_331, h_332, x_321, h_322, y_125, (bd_sub b_126 (by decide)), (g.fcts [0, 1, 3, 4] rfl)⟩), q3_of g hK ht hW⟩, g.2.2.1.F ht⟩) g.2.2.1.2.2 dX2_readMark_243
      · have fc_124 := eq_f c_124
        have b_336 : bd 21 21 r_1 := eqX fc_124 (bdT r_1) kb_21 (by decide)
        refine lv_aload_n hx hb dX2_readMark_56 rfl (lv_at hl 2 rfl) ?_
        refine g_geti (C := RX2) (T := TX2) (N := 16) hx hb hts (mc_ inX2) hown hK g ma0_ ka0_ (by decide) rfl 6 (by decide) rfl (hts _ (List.mem_cons_of_mem _ t_422)) (fun _ h9 => h9) rfl dX2_readMark_57 (fun x_337 bx_337 g => ?_)
        have kb_0 : bd 0 0 (0 : Int32) := ⟨by decide, by decide⟩
        refine lv_if_eq (tgt := 72) hx hb dX2_readMark_60 (by decide) (fun c_338 => ?_) (fun c_338 => ?_)
        · have fc_338 := eq_f c_338
          have b_339 : bd 0 0 x_337 := eqX fc_338 bx_337 kb_0 (by decide)
          refine lv_aload_n hx hb dX2_readMark_72 rfl (lv_at hl 2 rfl) ?_
          refine lv_iconst (v := 1) hx hb dX2_readMark_73 (by decide) ?_
          have kb_1 : bd 1 1 (1 : Int32) := ⟨by decide, by decide⟩
          have go_ := g
          refine g_put (C := RX2) (T := TX2) (N := 16) hx hb hts (mc_ inX2) tyX2 tyX2_ok nmX2 hown hK g ma0_ ka0_ (by decide) rfl 6 (by decide) (hts _ (List.mem_cons_of_mem _ t_422)) (fun _ h9 => h9) rfl rfl (okV_i (bd_sub kb_1 (by decide))) rfl rfl (by decide) (Or.inr (Or.inl (by decide))) (fx' := [(8, 6, q0_, .int x_8), (2, 0, a0_, .ref q0_), (2, 1, a0_, .ref q1_), (2, 2, a0_, .ref q2_), (2, 3, a0_, .ref q3_), (2, 4, a0_, .ref q4_), (2, 5, a0_, .ref q5_), (0, 0, q2_, .ref q0_), (0, 1, q2_, .ref q1_), (5, 0, q1_, .ref q8_), (5, 1, q1_, .ref q9_), (8, 8, q0_, .int y0_), (9, 8, q4_, .int y1_), (7, 3, q3_, .int y2_), (6, 12, q5_, .int y3_), (5, 2, q1_, .int y4_), (7, 1, q3_, .int y5_)]) rfl dX2_readMark_74 (fun f H locs hM_340 g => ?_)
          have hG_341 := eOK.frame hM_340 go_.2.2.2.1 mq2_ kq2_ (by decide) (by decide) hG_11
          refine lv_aload_n hx hb dX2_readMark_77 rfl (lv_at hl 2 rfl) ?_
          refine g_getk (C := RX2) (T := TX2) (N := 16) hx hb hts (mc_ inX2) hown hK g rfl 5 (by decide) rfl (hts _ (List.mem_cons_of_mem _ t_421)) (fun _ h9 => h9) 7 rfl dX2_readMark_78 ?_
          refine lv_dup hx hb dX2_readMark_81 rfl ?_
          refine g_getk (C := RX6) (T := TX6) (N := 13) hx hb hts (mc_ inX6) hown hK g rfl 12 (by decide) rfl (hts _ (List.mem_cons_of_mem _ t_591)) (fun _ h9 => h9) 15 rfl dX2_readMark_82 ?_
          refine lv_iconst (v := 1) hx hb dX2_readMark_85 (by decide) ?_
          refine lv_iadd hx hb dX2_readMark_86 ?_
          refine lv_topi (fun y_342 ey_342 => ?_)
          have ty_342 := add_bd ey_342 b_6 kb_1 (by decide)
          have b_343 : bd 1 8 y_342 := add_rg ty_342 b_6 kb_1 (by decide)
          have go_ := g
          refine g_put (C := RX6) (T := TX6) (N := 13) hx hb hts (mc_ inX6) tyX6 tyX6_ok nmX6 hown hK g mq5_ kq5_ (by decide) rfl 12 (by decide) (hts _ (List.mem_cons_of_mem _ t_591)) (fun _ h9 => h9) rfl rfl (okV_i (bd_sub b_343 (by decide))) rfl rfl (by decide) (Or.inr (Or.inl (by decide))) (fx' := [(2, 6, a0_, .int 1), (8, 6, q0_, .int x_8), (2, 0, a0_, .ref q0_), (2, 1, a0_, .ref q1_), (2, 2, a0_, .ref q2_), (2, 3, a0_, .ref q3_), (2, 4, a0_, .ref q4_), (2, 5, a0_, .ref q5_), (0, 0, q2_, .ref q0_), (0, 1, q2_, .ref q1_), (5, 0, q1_, .ref q8_), (5, 1, q1_, .ref q9_), (8, 8, q0_, .int y0_), (9, 8, q4_, .int y1_), (7, 3, q3_, .int y2_), (5, 2, q1_, .int y4_), (7, 1, q3_, .int y5_)]) rfl dX2_readMark_87 (fun f H locs hM_344 g => ?_)
          have hG_345 := eOK.frame hM_344 go_.2.2.2.1 mq2_ kq2_ (by decide) (by decide) hG_341
          refine lv_iload_n hx hb dX2_readMark_90 rfl (lv_at hl 1 rfl) ?_
          by_cases e_346 : r_1 = 16
          · refine lv_topi (fun z_347 ez_347 => ?_)
            obtain rfl : z_347 = 16 := ez_347.trans e_346
            have kb_16 : bd 16 16 (16 : Int32) := ⟨by decide, by decide⟩
            exact bd_no (eqX (eq_f e_346) b_336 kb_16 (lo := 21) (hi := 16) (by decide)) (by decide)
          by_cases e_348 : r_1 = 17
          · refine lv_topi (fun z_349 ez_349 => ?_)
            obtain rfl : z_349 = 17 := ez_349.trans e_348
            have kb_17 : bd 17 17 (17 : Int32) := ⟨by decide, by decide⟩
            exact bd_no (eqX (eq_f e_348) b_336 kb_17 (lo := 21) (hi := 17) (by decide)) (by decide)
          by_cases e_350 : r_1 = 18
          · refine lv_topi (fun z_351 ez_351 => ?_)
            obtain rfl : z_351 = 18 := ez_351.trans e_350
            have kb_18 : bd 18 18 (18 : Int32) := ⟨by decide, by decide⟩
            exact bd_no (eqX (eq_f e_350) b_336 kb_18 (lo := 21) (hi := 18) (by decide)) (by decide)
          by_cases e_352 : r_1 = 19
          · refine lv_topi (fun z_353 ez_353 => ?_)
            obtain rfl : z_353 = 19 := ez_353.trans e_352
            have kb_19 : bd 19 19 (19 : Int32) := ⟨by decide, by decide⟩
            exact bd_no (eqX (eq_f e_352) b_336 kb_19 (lo := 21) (hi := 19) (by decide)) (by decide)
          by_cases e_354 : r_1 = 20
          · refine lv_topi (fun z_355 ez_355 => ?_)
            obtain rfl : z_355 = 20 := ez_355.trans e_354
            exact bd_no (eqX (eq_f e_354) b_336 kb_20 (lo := 21) (hi := 20) (by decide)) (by decide)
          refine lv_tableOut (tgt := 208) hx hb dX2_readMark_91 (by have a0 : r_1.toInt ≠ 16 := fun h => e_346 (Int32.toInt_inj.mp (h.trans (by decide))); have a1 : r_1.toInt ≠ 17 := fun h => e_348 (Int32.toInt_inj.mp (h.trans (by decide))); have a2 : r_1.toInt ≠ 18 := fun h => e_350 (Int32.toInt_inj.mp (h.trans (by decide))); have a3 : r_1.toInt ≠ 19 := fun h => e_352 (Int32.toInt_inj.mp (h.trans (by decide))); have a4 : r_1.toInt ≠ 20 := fun h => e_354 (Int32.toInt_inj.mp (h.trans (by decide))); omega) (by decide) ?_
          refine lv_aload_n hx hb dX2_readMark_208 rfl (lv_at hl 2 rfl) ?_
          refine g_getk (C := RX2) (T := TX2) (N := 16) hx hb hts (mc_ inX2) hown hK g rfl 3 (by decide) rfl (hts _ (List.mem_cons_of_mem _ t_419)) (fun _ h9 => h9) 6 rfl dX2_readMark_209 ?_
          refine lv_bipush (v := 6) hx hb dX2_readMark_212 (by decide) ?_
          refine lv_aload_n hx hb dX2_readMark_214 rfl (lv_at hl 2 rfl) ?_
          refine g_getk (C := RX2) (T := TX2) (N := 16) hx hb hts (mc_ inX2) hown hK g rfl 1 (by decide) rfl (hts _ (List.mem_cons_of_mem _ t_417)) (fun _ h9 => h9) 4 rfl dX2_readMark_215 ?_
          refine g_getk (C := RX5) (T := TX5) (N := 9) hx hb hts (mc_ inX5) hown hK g rfl 2 (by decide) rfl (hts _ (List.mem_cons_of_mem _ t_333)) (fun _ h9 => h9) 16 rfl dX2_readMark_218 ?_
          refine lv_iload_n hx hb dX2_readMark_221 rfl (lv_at hl 0 rfl) ?_
          have go_ := g
          refine g_calli (va_runV (As := [.int 6, .int y4_, .int r_3]) (rest := []) ⟨hx, hb, hml, hown, hts⟩ (r_X7_addMark l dC dI L kd tys f H.size g.2.2.2.1 q3_ mq3_ kq3_ 6 y4_ r_3) (cwV 3 hts (gV_ t_1173 t_1174 t_1175 t_191 t_1176) rfl rfl rfl (by decide +kernel) ⟨(Nat.le_of_ble_eq_true rfl), (Nat.le_of_ble_eq_true rfl)⟩) (pre3V g hK mq3_ kq3_ (by decide) (q := (RX7, TX7, 19)) rfl) rfl rfl hl.1 rfl (lv_room (Nat.le_of_ble_eq_true rfl)) dX2_readMark_222 ⟨(Nat.le_of_ble_eq_true rfl), (Nat.le_of_ble_eq_true rfl)⟩) g hK (by decide) (by decide) (fx' := [(6, 12, q5_, .int y_342), (2, 6, a0_, .int 1), (8, 6, q0_, .int x_8), (2, 0, a0_, .ref q0_), (2, 1, a0_, .ref q1_), (2, 2, a0_, .ref q2_), (2, 3, a0_, .ref q3_), (2, 4, a0_, .ref q4_), (2, 5, a0_, .ref q5_), (0, 0, q2_, .ref q0_), (0, 1, q2_, .ref q1_), (5, 0, q1_, .ref q8_), (5, 1, q1_, .ref q9_), (8, 8, q0_, .int y0_), (9, 8, q4_, .int y1_), (7, 3, q3_, .int y2_), (5, 2, q1_, .int y4_), (7, 1, q3_, .int y5_)]) rfl (fun r_356 fr_356 H locs hp hMr_356 g => ?_)
          obtain ⟨h_357, x_358, h_359, hF_360⟩ := hp
          have hG_361 := eOK.frame hMr_356 go_.2.2.2.1 mq2_ kq2_ (by decide) (by decide) hG_345
          have g := g.more hF_360
          refine lv_pop hx hb dX2_readMark_225 rfl ?_
          refine lv_aload_n hx hb dX2_readMark_226 rfl (lv_at hl 2 rfl) ?_
          refine g_getk (C := RX2) (T := TX2) (N := 16) hx hb hts (mc_ inX2) hown hK g rfl 5 (by decide) rfl (hts _ (List.mem_cons_of_mem _ t_421)) (fun _ h9 => h9) 9 rfl dX2_readMark_227 ?_
          refine lv_iconst (v := 1) hx hb dX2_readMark_230 (by decide) ?_
          have go_ := g
          refine g_put (C := RX6) (T := TX6) (N := 13) hx hb hts (mc_ inX6) tyX6 tyX6_ok nmX6 hown hK g mq5_ kq5_ (by decide) rfl 6 (by decide) (hts _ (List.mem_cons_of_mem _ t_578)) (fun _ h9 => h9) rfl rfl (okV_i (bd_sub kb_1 (by decide))) rfl rfl (by decide) (Or.inr (Or.inl (by decide))) (fx' := [(7, 13, q3_, .int x_358), (6, 12, q5_, .int y_342), (2, 6, a0_, .int 1), (8, 6, q0_, .int x_8), (2, 0, a0_, .ref q0_), (2, 1, a0_, .ref q1_), (2, 2, a0_, .ref q2_), (2, 3, a0_, .ref q3_), (2, 4, a0_, .ref q4_), (2, 5, a0_, .ref q5_), (0, 0, q2_, .ref q0_), (0, 1, q2_, .ref q1_), (5, 0, q1_, .ref q8_), (5, 1, q1_, .ref q9_), (8, 8, q0_, .int y0_), (9, 8, q4_, .int y1_), (7, 3, q3_, .int y2_), (5, 2, q1_, .int y4_), (7, 1, q3_, .int y5_)]) rfl dX2_readMark_231 (fun f H locs hM_362 g => ?_)
          have hG_363 := eOK.frame hM_362 go_.2.2.2.1 mq2_ kq2_ (by decide) (by decide) hG_361
          refine lv_aload_n hx hb dX2_readMark_234 rfl (lv_at hl 2 rfl) ?_
          refine g_getk (C := RX2) (T := TX2) (N := 16) hx hb hts (mc_ inX2) hown hK g rfl 0 (by decide) rfl (hts _ (List.mem_cons_of_mem _ t_416)) (fun _ h9 => h9) 5 rfl dX2_readMark_235 ?_
          refine lv_bipush (v := 59) hx hb dX2_readMark_238 (by decide) ?_
          have go_ := g
          refine g_callv (va_runV (As := [.int 59]) (rest := []) ⟨hx, hb, hml, hown, hts⟩ (r_X8_take l dC dI L kd tys f H.size g.2.2.2.1 q0_ mq0_ kq0_ 59 y0_ by0_ (g.fcts [15] rfl)) (cwV 1 hts (gV_ t_1098 t_1099 t_1100 t_184 t_1101) rfl rfl rfl (by decide +kernel) ⟨(Nat.le_of_ble_eq_true rfl), (Nat.le_of_ble_eq_true rfl)⟩) (pre3V g hK mq0_ kq0_ (by decide) (q := (RX8, TX8, 10)) rfl) rfl rfl hl.1 rfl (lv_room (Nat.le_of_ble_eq_true rfl)) dX2_readMark_240 ⟨(Nat.le_of_ble_eq_true rfl), (Nat.le_of_ble_eq_true rfl)⟩) g hK (by decide) (by decide) (fx' := [(6, 6, q5_, .int 1), (7, 13, q3_, .int x_358), (6, 12, q5_, .int y_342), (2, 6, a0_, .int 1), (2, 0, a0_, .ref q0_), (2, 1, a0_, .ref q1_), (2, 2, a0_, .ref q2_), (2, 3, a0_, .ref q3_), (2, 4, a0_, .ref q4_), (2, 5, a0_, .ref q5_), (0, 0, q2_, .ref q0_), (0, 1, q2_, .ref q1_), (5, 0, q1_, .ref q8_), (5, 1, q1_, .ref q9_), (9, 8, q4_, .int y1_), (7, 3, q3_, .int y2_), (5, 2, q1_, .int y4_), (7, 1, q3_, .int y5_)]) rfl (fun fr_364 H locs hp hMr_364 g => ?_)
          rcases hp with ⟨x_365, h_366, hF_367⟩ | ⟨x_368, h_369, hF_370⟩
          · have hG_371 := eOK.frame hMr_364 go_.2.2.2.1 mq2_ kq2_ (by decide) (by decide) hG_363
            have g := g.more hF_367
            subst hQ
            exact W.vret hx hb hr (fun t ht hW => ⟨⟨_, rfl, Or.inl ⟨hG_371, b_6, x_365, h_366, x_358, h_359, y_342, b_343, (g.fcts [0, 1, 3, 4] rfl)⟩, q3_of g hK ht hW⟩, g.2.2.1.F ht⟩) g.2.2.1.2.2 dX2_readMark_243
          · have hG_372 := eOK.frame hMr_364 go_.2.2.2.1 mq2_ kq2_ (by decide) (by decide) hG_363
            have g := g.more hF_370
            have kb_1201 : bd 1201 1201 (1201 : Int32) := ⟨by decide, by decide⟩
            subst hQ
            exact W.vret hx hb hr (fun t ht hW => ⟨⟨_, rfl, Or.inr (⟨hG_372, 1201, kb_1201, x_368, h_369, x_358, h_359, y_342, (bd_sub b_343 (by decide)), (g.fcts [0, 1, 3, 4] rfl)⟩), q3_of g hK ht hW⟩, g.2.2.1.F ht⟩) g.2.2.1.2.2 dX2_readMark_243
        · have fc_338 := neq_f c_338
          have b_373 : bd 1 1 x_337 := neX fc_338 bx_337 kb_0 (by decide)
          refine lv_aload_n hx hb dX2_readMark_63 rfl (lv_at hl 2 rfl) ?_
          refine g_getk (C := RX2) (T := TX2) (N := 16) hx hb hts (mc_ inX2) hown hK g rfl 0 (by decide) rfl (hts _ (List.mem_cons_of_mem _ t_416)) (fun _ h9 => h9) 2 rfl dX2_readMark_64 ?_
          refine lv_iconst (v := 5) hx hb dX2_readMark_67 (by decide) ?_
          refine lv_iload_n hx hb dX2_readMark_68 rfl (lv_at hl 0 rfl) ?_
          have kb_5 : bd 5 5 (5 : Int32) := ⟨by decide, by decide⟩
          have go_ := g
          refine g_callv (va_runV (As := [.int 5, .int r_3]) (rest := []) ⟨hx, hb, hml, hown, hts⟩ (r_X8_fail l dC dI L kd tys fr_7 H.size g.2.2.2.1 q0_ mq0_ kq0_ 5 (bd_sub kb_5 (by decide)) r_3 y0_ by0_ (g.fcts [12] rfl)) (cwV 2 hts (gV_ t_1122 t_1107 t_1108 t_184 t_1109) rfl rfl rfl (by decide +kernel) ⟨(Nat.le_of_ble_eq_true rfl), (Nat.le_of_ble_eq_true rfl)⟩) (pre3V g hK mq0_ kq0_ (by decide) (q := (RX8, TX8, 10)) rfl) rfl rfl hl.1 rfl (lv_room (Nat.le_of_ble_eq_true rfl)) dX2_readMark_69 ⟨(Nat.le_of_ble_eq_true rfl), (Nat.le_of_ble_eq_true rfl)⟩) g hK (by decide) (by decide) (fx' := [(2, 6, a0_, .int x_337), (2, 0, a0_, .ref q0_), (2, 1, a0_, .ref q1_), (2, 2, a0_, .ref q2_), (2, 3, a0_, .ref q3_), (2, 4, a0_, .ref q4_), (2, 5, a0_, .ref q5_), (0, 0, q2_, .ref q0_), (0, 1, q2_, .ref q1_), (5, 0, q1_, .ref q8_), (5, 1, q1_, .ref q9_), (9, 8, q4_, .int y1_), (7, 3, q3_, .int y2_), (6, 12, q5_, .int y3_), (5, 2, q1_, .int y4_), (7, 1, q3_, .int y5_)]) rfl (fun fr_374 H locs hp hMr_374 g => ?_)
          obtain ⟨x_375, h_376, hF_377⟩ := hp
          have hG_378 := eOK.frame hMr_374 go_.2.2.2.1 mq2_ kq2_ (by decide) (by decide) hG_11
          have g := g.more hF_377
          refine lv_aload_n hx hb dX2_readMark_72 rfl (lv_at hl 2 rfl) ?_
          refine lv_iconst (v := 1) hx hb dX2_readMark_73 (by decide) ?_
          have kb_1 : bd 1 1 (1 : Int32) := ⟨by decide, by decide⟩
          have go_ := g
          refine g_put (C := RX2) (T := TX2) (N := 16) hx hb hts (mc_ inX2) tyX2 tyX2_ok nmX2 hown hK g ma0_ ka0_ (by decide) rfl 6 (by decide) (hts _ (List.mem_cons_of_mem _ t_422)) (fun _ h9 => h9) rfl rfl (okV_i (bd_sub kb_1 (by decide))) rfl rfl (by decide) (Or.inr (Or.inl (by decide))) (fx' := [(8, 6, q0_, .int 1201), (8, 8, q0_, .int x_375), (2, 0, a0_, .ref q0_), (2, 1, a0_, .ref q1_), (2, 2, a0_, .ref q2_), (2, 3, a0_, .ref q3_), (2, 4, a0_, .ref q4_), (2, 5, a0_, .ref q5_), (0, 0, q2_, .ref q0_), (0, 1, q2_, .ref q1_), (5, 0, q1_, .ref q8_), (5, 1, q1_, .ref q9_), (9, 8, q4_, .int y1_), (7, 3, q3_, .int y2_), (6, 12, q5_, .int y3_), (5, 2, q1_, .int y4_), (7, 1, q3_, .int y5_)]) rfl dX2_readMark_74 (fun f H locs hM_379 g => ?_)
          have hG_380 := eOK.frame hM_379 go_.2.2.2.1 mq2_ kq2_ (by decide) (by decide) hG_378
          refine lv_aload_n hx hb dX2_readMark_77 rfl (lv_at hl 2 rfl) ?_
          refine g_getk (C := RX2) (T := TX2) (N := 16) hx hb hts (mc_ inX2) hown hK g rfl 5 (by decide) rfl (hts _ (List.mem_cons_of_mem _ t_421)) (fun _ h9 => h9) 8 rfl dX2_readMark_78 ?_
          refine lv_dup hx hb dX2_readMark_81 rfl ?_
          refine g_getk (C := RX6) (T := TX6) (N := 13) hx hb hts (mc_ inX6) hown hK g rfl 12 (by decide) rfl (hts _ (List.mem_cons_of_mem _ t_591)) (fun _ h9 => h9) 15 rfl dX2_readMark_82 ?_
          refine lv_iconst (v := 1) hx hb dX2_readMark_85 (by decide) ?_
          refine lv_iadd hx hb dX2_readMark_86 ?_
          refine lv_topi (fun y_381 ey_381 => ?_)
          have ty_381 := add_bd ey_381 b_6 kb_1 (by decide)
          have b_382 : bd 1 8 y_381 := add_rg ty_381 b_6 kb_1 (by decide)
          have go_ := g
          refine g_put (C := RX6) (T := TX6) (N := 13) hx hb hts (mc_ inX6) tyX6 tyX6_ok nmX6 hown hK g mq5_ kq5_ (by decide) rfl 12 (by decide) (hts _ (List.mem_cons_of_mem _ t_591)) (fun _ h9 => h9) rfl rfl (okV_i (bd_sub b_382 (by decide))) rfl rfl (by decide) (Or.inr (Or.inl (by decide))) (fx' := [(2, 6, a0_, .int 1), (8, 6, q0_, .int 1201), (8, 8, q0_, .int x_375), (2, 0, a0_, .ref q0_), (2, 1, a0_, .ref q1_), (2, 2, a0_, .ref q2_), (2, 3, a0_, .ref q3_), (2, 4, a0_, .ref q4_), (2, 5, a0_, .ref q5_), (0, 0, q2_, .ref q0_), (0, 1, q2_, .ref q1_), (5, 0, q1_, .ref q8_), (5, 1, q1_, .ref q9_), (9, 8, q4_, .int y1_), (7, 3, q3_, .int y2_), (5, 2, q1_, .int y4_), (7, 1, q3_, .int y5_)]) rfl dX2_readMark_87 (fun f H locs hM_383 g => ?_)
          have hG_384 := eOK.frame hM_383 go_.2.2.2.1 mq2_ kq2_ (by decide) (by decide) hG_380
          refine lv_iload_n hx hb dX2_readMark_90 rfl (lv_at hl 1 rfl) ?_
          by_cases e_385 : r_1 = 16
          · refine lv_topi (fun z_386 ez_386 => ?_)
            obtain rfl : z_386 = 16 := ez_386.trans e_385
            have kb_16 : bd 16 16 (16 : Int32) := ⟨by decide, by decide⟩
            exact bd_no (eqX (eq_f e_385) b_336 kb_16 (lo := 21) (hi := 16) (by decide)) (by decide)
          by_cases e_387 : r_1 = 17
          · refine lv_topi (fun z_388 ez_388 => ?_)
            obtain rfl : z_388 = 17 := ez_388.trans e_387
            have kb_17 : bd 17 17 (17 : Int32) := ⟨by decide, by decide⟩
            exact bd_no (eqX (eq_f e_387) b_336 kb_17 (lo := 21) (hi := 17) (by decide)) (by decide)
          by_cases e_389 : r_1 = 18
          · refine lv_topi (fun z_390 ez_390 => ?_)
            obtain rfl : z_390 = 18 := ez_390.trans e_389
            have kb_18 : bd 18 18 (18 : Int32) := ⟨by decide, by decide⟩
            exact bd_no (eqX (eq_f e_389) b_336 kb_18 (lo := 21) (hi := 18) (by decide)) (by decide)
          by_cases e_391 : r_1 = 19
          · refine lv_topi (fun z_392 ez_392 => ?_)
            obtain rfl : z_392 = 19 := ez_392.trans e_391
            have kb_19 : bd 19 19 (19 : Int32) := ⟨by decide, by decide⟩
            exact bd_no (eqX (eq_f e_391) b_336 kb_19 (lo := 21) (hi := 19) (by decide)) (by decide)
          by_cases e_393 : r_1 = 20
          · refine lv_topi (fun z_394 ez_394 => ?_)
            obtain rfl : z_394 = 20 := ez_394.trans e_393
            exact bd_no (eqX (eq_f e_393) b_336 kb_20 (lo := 21) (hi := 20) (by decide)) (by decide)
          refine lv_tableOut (tgt := 208) hx hb dX2_readMark_91 (by have a0 : r_1.toInt ≠ 16 := fun h => e_385 (Int32.toInt_inj.mp (h.trans (by decide))); have a1 : r_1.toInt ≠ 17 := fun h => e_387 (Int32.toInt_inj.mp (h.trans (by decide))); have a2 : r_1.toInt ≠ 18 := fun h => e_389 (Int32.toInt_inj.mp (h.trans (by decide))); have a3 : r_1.toInt ≠ 19 := fun h => e_391 (Int32.toInt_inj.mp (h.trans (by decide))); have a4 : r_1.toInt ≠ 20 := fun h => e_393 (Int32.toInt_inj.mp (h.trans (by decide))); omega) (by decide) ?_
          refine lv_aload_n hx hb dX2_readMark_208 rfl (lv_at hl 2 rfl) ?_
          refine g_getk (C := RX2) (T := TX2) (N := 16) hx hb hts (mc_ inX2) hown hK g rfl 3 (by decide) rfl (hts _ (List.mem_cons_of_mem _ t_419)) (fun _ h9 => h9) 7 rfl dX2_readMark_209 ?_
          refine lv_bipush (v := 6) hx hb dX2_readMark_212 (by decide) ?_
          refine lv_aload_n hx hb dX2_readMark_214 rfl (lv_at hl 2 rfl) ?_
          refine g_getk (C := RX2) (T := TX2) (N := 16) hx hb hts (mc_ inX2) hown hK g rfl 1 (by decide) rfl (hts _ (List.mem_cons_of_mem _ t_417)) (fun _ h9 => h9) 5 rfl dX2_readMark_215 ?_
          refine g_getk (C := RX5) (T := TX5) (N := 9) hx hb hts (mc_ inX5) hown hK g rfl 2 (by decide) rfl (hts _ (List.mem_cons_of_mem _ t_333)) (fun _ h9 => h9) 16 rfl dX2_readMark_218 ?_
          refine lv_iload_n hx hb dX2_readMark_221 rfl (lv_at hl 0 rfl) ?_
          have go_ := g
          refine g_calli (va_runV (As := [.int 6, .int y4_, .int r_3]) (rest := []) ⟨hx, hb, hml, hown, hts⟩ (r_X7_addMark l dC dI L kd tys f H.size g.2.2.2.1 q3_ mq3_ kq3_ 6 y4_ r_3) (cwV 3 hts (gV_ t_1173 t_1174 t_1175 t_191 t_1176) rfl rfl rfl (by decide +kernel) ⟨(Nat.le_of_ble_eq_true rfl), (Nat.le_of_ble_eq_true rfl)⟩) (pre3V g hK mq3_ kq3_ (by decide) (q := (RX7, TX7, 19)) rfl) rfl rfl hl.1 rfl (lv_room (Nat.le_of_ble_eq_true rfl)) dX2_readMark_222 ⟨(Nat.le_of_ble_eq_true rfl), (Nat.le_of_ble_eq_true rfl)⟩) g hK (by decide) (by decide) (fx' := [(6, 12, q5_, .int y_381), (2, 6, a0_, .int 1), (8, 6, q0_, .int 1201), (8, 8, q0_, .int x_375), (2, 0, a0_, .ref q0_), (2, 1, a0_, .ref q1_), (2, 2, a0_, .ref q2_), (2, 3, a0_, .ref q3_), (2, 4, a0_, .ref q4_), (2, 5, a0_, .ref q5_), (0, 0, q2_, .ref q0_), (0, 1, q2_, .ref q1_), (5, 0, q1_, .ref q8_), (5, 1, q1_, .ref q9_), (9, 8, q4_, .int y1_), (7, 3, q3_, .int y2_), (5, 2, q1_, .int y4_), (7, 1, q3_, .int y5_)]) rfl (fun r_395 fr_395 H locs hp hMr_395 g => ?_)
          obtain ⟨h_396, x_397, h_398, hF_399⟩ := hp
          have hG_400 := eOK.frame hMr_395 go_.2.2.2.1 mq2_ kq2_ (by decide) (by decide) hG_384
          have g := g.more hF_399
          refine lv_pop hx hb dX2_readMark_225 rfl ?_
          refine lv_aload_n hx hb dX2_readMark_226 rfl (lv_at hl 2 rfl) ?_
          refine g_getk (C := RX2) (T := TX2) (N := 16) hx hb hts (mc_ inX2) hown hK g rfl 5 (by decide) rfl (hts _ (List.mem_cons_of_mem _ t_421)) (fun _ h9 => h9) 10 rfl dX2_readMark_227 ?_
          refine lv_iconst (v := 1) hx hb dX2_readMark_230 (by decide) ?_
          have go_ := g
          refine g_put (C := RX6) (T := TX6) (N := 13) hx hb hts (mc_ inX6) tyX6 tyX6_ok nmX6 hown hK g mq5_ kq5_ (by decide) rfl 6 (by decide) (hts _ (List.mem_cons_of_mem _ t_578)) (fun _ h9 => h9) rfl rfl (okV_i (bd_sub kb_1 (by decide))) rfl rfl (by decide) (Or.inr (Or.inl (by decide))) (fx' := [(7, 13, q3_, .int x_397), (6, 12, q5_, .int y_381), (2, 6, a0_, .int 1), (8, 6, q0_, .int 1201), (8, 8, q0_, .int x_375), (2, 0, a0_, .ref q0_), (2, 1, a0_, .ref q1_), (2, 2, a0_, .ref q2_), (2, 3, a0_, .ref q3_), (2, 4, a0_, .ref q4_), (2, 5, a0_, .ref q5_), (0, 0, q2_, .ref q0_), (0, 1, q2_, .ref q1_), (5, 0, q1_, .ref q8_), (5, 1, q1_, .ref q9_), (9, 8, q4_, .int y1_), (7, 3, q3_, .int y2_), (5, 2, q1_, .int y4_), (7, 1, q3_, .int y5_)]) rfl dX2_readMark_231 (fun f H locs hM_401 g => ?_)
          have hG_402 := eOK.frame hM_401 go_.2.2.2.1 mq2_ kq2_ (by decide) (by decide) hG_400
          refine lv_aload_n hx hb dX2_readMark_234 rfl (lv_at hl 2 rfl) ?_
          refine g_getk (C := RX2) (T := TX2) (N := 16) hx hb hts (mc_ inX2) hown hK g rfl 0 (by decide) rfl (hts _ (List.mem_cons_of_mem _ t_416)) (fun _ h9 => h9) 6 rfl dX2_readMark_235 ?_
          refine lv_bipush (v := 59) hx hb dX2_readMark_238 (by decide) ?_
          have kb_1201 : bd 1201 1201 (1201 : Int32) := ⟨by decide, by decide⟩
          have go_ := g
          refine g_callv (va_runV (As := [.int 59]) (rest := []) ⟨hx, hb, hml, hown, hts⟩ (r_X8_take_2 l dC dI L kd tys f H.size g.2.2.2.1 q0_ mq0_ kq0_ 59 1201 kb_1201 x_375 h_376 (g.fcts [4, 5] rfl)) (cwV 1 hts (gV_ t_1098 t_1099 t_1100 t_184 t_1101) rfl rfl rfl (by decide +kernel) ⟨(Nat.le_of_ble_eq_true rfl), (Nat.le_of_ble_eq_true rfl)⟩) (pre3V g hK mq0_ kq0_ (by decide) (q := (RX8, TX8, 10)) rfl) rfl rfl hl.1 rfl (lv_room (Nat.le_of_ble_eq_true rfl)) dX2_readMark_240 ⟨(Nat.le_of_ble_eq_true rfl), (Nat.le_of_ble_eq_true rfl)⟩) g hK (by decide) (by decide) (fx' := [(6, 6, q5_, .int 1), (7, 13, q3_, .int x_397), (6, 12, q5_, .int y_381), (2, 6, a0_, .int 1), (8, 8, q0_, .int x_375), (2, 0, a0_, .ref q0_), (2, 1, a0_, .ref q1_), (2, 2, a0_, .ref q2_), (2, 3, a0_, .ref q3_), (2, 4, a0_, .ref q4_), (2, 5, a0_, .ref q5_), (0, 0, q2_, .ref q0_), (0, 1, q2_, .ref q1_), (5, 0, q1_, .ref q8_), (5, 1, q1_, .ref q9_), (9, 8, q4_, .int y1_), (7, 3, q3_, .int y2_), (5, 2, q1_, .int y4_), (7, 1, q3_, .int y5_)]) rfl (fun fr_403 H locs hp hMr_403 g => ?_)
          obtain ⟨x_404, h_405, hF_406⟩ := hp
          have hG_407 := eOK.frame hMr_403 go_.2.2.2.1 mq2_ kq2_ (by decide) (by decide) hG_402
          have g := g.more hF_406
          subst hQ
          exact W.vret hx hb hr (fun t ht hW => ⟨⟨_, rfl, Or.inr (⟨hG_407, x_404, h_405, x_375, h_376, x_397, h_398, y_381, (bd_sub b_382 (by decide)), (g.fcts [0, 5, 2, 3] rfl)⟩), q3_of g hK ht hW⟩, g.2.2.1.F ht⟩) g.2.2.1.2.2 dX2_readMark_243
  · have fc_5 := nlt_f c_5
    have b_408 : bd 8 8 y3_ := leR fc_5 kb_8 by3_ (by decide)
    refine lv_aload_n hx hb dX2_readMark_28 rfl (lv_at hl 2 rfl) ?_
    refine g_getk (C := RX2) (T := TX2) (N := 16) hx hb hts (mc_ inX2) hown hK g rfl 0 (by decide) rfl (hts _ (List.mem_cons_of_mem _ t_416)) (fun _ h9 => h9) 0 rfl dX2_readMark_29 ?_
    refine lv_iconst (v := 4) hx hb dX2_readMark_32 (by decide) ?_
    refine lv_iload_n hx hb dX2_readMark_33 rfl (lv_at hl 0 rfl) ?_
    have kb_4 : bd 4 4 (4 : Int32) := ⟨by decide, by decide⟩
    have go_ := g
    refine g_callv (va_runV (As := [.int 4, .int r_3]) (rest := []) ⟨hx, hb, hml, hown, hts⟩ (r_X8_fail l dC dI L kd tys fr_3 H.size g.2.2.2.1 q0_ mq0_ kq0_ 4 (bd_sub kb_4 (by decide)) r_3 y0_ by0_ (g.fcts [10] rfl)) (cwV 2 hts (gV_ t_1122 t_1107 t_1108 t_184 t_1109) rfl rfl rfl (by decide +kernel) ⟨(Nat.le_of_ble_eq_true rfl), (Nat.le_of_ble_eq_true rfl)⟩) (pre3V g hK mq0_ kq0_ (by decide) (q := (RX8, TX8, 10)) rfl) rfl rfl hl.1 rfl (lv_room (Nat.le_of_ble_eq_true rfl)) dX2_readMark_34 ⟨(Nat.le_of_ble_eq_true rfl), (Nat.le_of_ble_eq_true rfl)⟩) g hK (by decide) (by decide) (fx' := [(2, 0, a0_, .ref q0_), (2, 1, a0_, .ref q1_), (2, 2, a0_, .ref q2_), (2, 3, a0_, .ref q3_), (2, 4, a0_, .ref q4_), (2, 5, a0_, .ref q5_), (0, 0, q2_, .ref q0_), (0, 1, q2_, .ref q1_), (5, 0, q1_, .ref q8_), (5, 1, q1_, .ref q9_), (9, 8, q4_, .int y1_), (7, 3, q3_, .int y2_), (6, 12, q5_, .int y3_), (5, 2, q1_, .int y4_), (7, 1, q3_, .int y5_)]) rfl (fun fr_409 H locs hp hMr_409 g => ?_)
    obtain ⟨x_410, h_411, hF_412⟩ := hp
    have hG_413 := eOK.frame hMr_409 go_.2.2.2.1 mq2_ kq2_ (by decide) (by decide) hG_4
    have g := g.more hF_412
    refine lv_aload_n hx hb dX2_readMark_37 rfl (lv_at hl 2 rfl) ?_
    refine g_getk (C := RX2) (T := TX2) (N := 16) hx hb hts (mc_ inX2) hown hK g rfl 0 (by decide) rfl (hts _ (List.mem_cons_of_mem _ t_416)) (fun _ h9 => h9) 2 rfl dX2_readMark_38 ?_
    have kb_1201 : bd 1201 1201 (1201 : Int32) := ⟨by decide, by decide⟩
    have go_ := g
    refine g_callv (va_runV (As := []) (rest := []) ⟨hx, hb, hml, hown, hts⟩ (r_X8_next_2 l dC dI L kd tys fr_409 H.size g.2.2.2.1 q0_ mq0_ kq0_ 1201 kb_1201 (g.fcts [0] rfl)) (cwV 0 hts (gV_ t_1131 t_1103 t_1104 t_184 t_1105) rfl rfl rfl (by decide +kernel) ⟨(Nat.le_of_ble_eq_true rfl), (Nat.le_of_ble_eq_true rfl)⟩) (pre3V g hK mq0_ kq0_ (by decide) (q := (RX8, TX8, 10)) rfl) rfl rfl hl.1 rfl (lv_room (Nat.le_of_ble_eq_true rfl)) dX2_readMark_41 ⟨(Nat.le_of_ble_eq_true rfl), (Nat.le_of_ble_eq_true rfl)⟩) g hK (by decide) (by decide) (fx' := [(8, 6, q0_, .int 1201), (8, 8, q0_, .int x_410), (2, 0, a0_, .ref q0_), (2, 1, a0_, .ref q1_), (2, 2, a0_, .ref q2_), (2, 3, a0_, .ref q3_), (2, 4, a0_, .ref q4_), (2, 5, a0_, .ref q5_), (0, 0, q2_, .ref q0_), (0, 1, q2_, .ref q1_), (5, 0, q1_, .ref q8_), (5, 1, q1_, .ref q9_), (9, 8, q4_, .int y1_), (7, 3, q3_, .int y2_), (6, 12, q5_, .int y3_), (5, 2, q1_, .int y4_), (7, 1, q3_, .int y5_)]) rfl (fun fr_414 H locs hp hMr_414 g => ?_)
    have hG_415 := eOK.frame hMr_414 go_.2.2.2.1 mq2_ kq2_ (by decide) (by decide) hG_413
    refine lv_iload_n hx hb dX2_readMark_44 rfl (lv_at hl 1 rfl) ?_
    refine lv_bipush (v := 20) hx hb dX2_readMark_45 (by decide) ?_
    have kb_20 : bd 20 20 (20 : Int32) := ⟨by decide, by decide⟩
    refine lv_icmp_eq (tgt := 56) hx hb dX2_readMark_47 (by decide) (fun c_416 => ?_) (fun c_416 => ?_)
    · have fc_416 := eq_f c_416
      have b_417 : bd 20 20 r_1 := eqX fc_416 (bdT r_1) kb_20 (by decide)
      refine lv_aload_n hx hb dX2_readMark_56 rfl (lv_at hl 2 rfl) ?_
      refine g_geti (C := RX2) (T := TX2) (N := 16) hx hb hts (mc_ inX2) hown hK g ma0_ ka0_ (by decide) rfl 6 (by decide) rfl (hts _ (List.mem_cons_of_mem _ t_422)) (fun _ h9 => h9) rfl dX2_readMark_57 (fun x_418 bx_418 g => ?_)
      have kb_0 : bd 0 0 (0 : Int32) := ⟨by decide, by decide⟩
      refine lv_if_eq (tgt := 72) hx hb dX2_readMark_60 (by decide) (fun c_419 => ?_) (fun c_419 => ?_)
      · have fc_419 := eq_f c_419
        have b_420 : bd 0 0 x_418 := eqX fc_419 bx_418 kb_0 (by decide)
        refine lv_aload_n hx hb dX2_readMark_72 rfl (lv_at hl 2 rfl) ?_
        refine lv_iconst (v := 1) hx hb dX2_readMark_73 (by decide) ?_
        have kb_1 : bd 1 1 (1 : Int32) := ⟨by decide, by decide⟩
        have go_ := g
        refine g_put (C := RX2) (T := TX2) (N := 16) hx hb hts (mc_ inX2) tyX2 tyX2_ok nmX2 hown hK g ma0_ ka0_ (by decide) rfl 6 (by decide) (hts _ (List.mem_cons_of_mem _ t_422)) (fun _ h9 => h9) rfl rfl (okV_i (bd_sub kb_1 (by decide))) rfl rfl (by decide) (Or.inr (Or.inl (by decide))) (fx' := [(8, 6, q0_, .int 1201), (8, 8, q0_, .int x_410), (2, 0, a0_, .ref q0_), (2, 1, a0_, .ref q1_), (2, 2, a0_, .ref q2_), (2, 3, a0_, .ref q3_), (2, 4, a0_, .ref q4_), (2, 5, a0_, .ref q5_), (0, 0, q2_, .ref q0_), (0, 1, q2_, .ref q1_), (5, 0, q1_, .ref q8_), (5, 1, q1_, .ref q9_), (9, 8, q4_, .int y1_), (7, 3, q3_, .int y2_), (6, 12, q5_, .int y3_), (5, 2, q1_, .int y4_), (7, 1, q3_, .int y5_)]) rfl dX2_readMark_74 (fun f H locs hM_421 g => ?_)
        have hG_422 := eOK.frame hM_421 go_.2.2.2.1 mq2_ kq2_ (by decide) (by decide) hG_415
        refine lv_aload_n hx hb dX2_readMark_77 rfl (lv_at hl 2 rfl) ?_
        refine g_getk (C := RX2) (T := TX2) (N := 16) hx hb hts (mc_ inX2) hown hK g rfl 5 (by decide) rfl (hts _ (List.mem_cons_of_mem _ t_421)) (fun _ h9 => h9) 8 rfl dX2_readMark_78 ?_
        refine lv_dup hx hb dX2_readMark_81 rfl ?_
        refine g_getk (C := RX6) (T := TX6) (N := 13) hx hb hts (mc_ inX6) hown hK g rfl 12 (by decide) rfl (hts _ (List.mem_cons_of_mem _ t_591)) (fun _ h9 => h9) 15 rfl dX2_readMark_82 ?_
        refine lv_iconst (v := 1) hx hb dX2_readMark_85 (by decide) ?_
        refine lv_iadd hx hb dX2_readMark_86 ?_
        refine lv_topi (fun y_423 ey_423 => ?_)
        have ty_423 := add_bd ey_423 b_408 kb_1 (by decide)
        have b_424 : bd 9 9 y_423 := add_rg ty_423 b_408 kb_1 (by decide)
        have go_ := g
        refine g_put (C := RX6) (T := TX6) (N := 13) hx hb hts (mc_ inX6) tyX6 tyX6_ok nmX6 hown hK g mq5_ kq5_ (by decide) rfl 12 (by decide) (hts _ (List.mem_cons_of_mem _ t_591)) (fun _ h9 => h9) rfl rfl (okV_i (bd_sub b_424 (by decide))) rfl rfl (by decide) (Or.inr (Or.inl (by decide))) (fx' := [(2, 6, a0_, .int 1), (8, 6, q0_, .int 1201), (8, 8, q0_, .int x_410), (2, 0, a0_, .ref q0_), (2, 1, a0_, .ref q1_), (2, 2, a0_, .ref q2_), (2, 3, a0_, .ref q3_), (2, 4, a0_, .ref q4_), (2, 5, a0_, .ref q5_), (0, 0, q2_, .ref q0_), (0, 1, q2_, .ref q1_), (5, 0, q1_, .ref q8_), (5, 1, q1_, .ref q9_), (9, 8, q4_, .int y1_), (7, 3, q3_, .int y2_), (5, 2, q1_, .int y4_), (7, 1, q3_, .int y5_)]) rfl dX2_readMark_87 (fun f H locs hM_425 g => ?_)
        have hG_426 := eOK.frame hM_425 go_.2.2.2.1 mq2_ kq2_ (by decide) (by decide) hG_422
        refine lv_iload_n hx hb dX2_readMark_90 rfl (lv_at hl 1 rfl) ?_
        by_cases e_427 : r_1 = 16
        · refine lv_topi (fun z_428 ez_428 => ?_)
          obtain rfl : z_428 = 16 := ez_428.trans e_427
          have kb_16 : bd 16 16 (16 : Int32) := ⟨by decide, by decide⟩
          exact bd_no (eqX (eq_f e_427) b_417 kb_16 (lo := 20) (hi := 16) (by decide)) (by decide)
        by_cases e_429 : r_1 = 17
        · refine lv_topi (fun z_430 ez_430 => ?_)
          obtain rfl : z_430 = 17 := ez_430.trans e_429
          have kb_17 : bd 17 17 (17 : Int32) := ⟨by decide, by decide⟩
          exact bd_no (eqX (eq_f e_429) b_417 kb_17 (lo := 20) (hi := 17) (by decide)) (by decide)
        by_cases e_431 : r_1 = 18
        · refine lv_topi (fun z_432 ez_432 => ?_)
          obtain rfl : z_432 = 18 := ez_432.trans e_431
          have kb_18 : bd 18 18 (18 : Int32) := ⟨by decide, by decide⟩
          exact bd_no (eqX (eq_f e_431) b_417 kb_18 (lo := 20) (hi := 18) (by decide)) (by decide)
        by_cases e_433 : r_1 = 19
        · refine lv_topi (fun z_434 ez_434 => ?_)
          obtain rfl : z_434 = 19 := ez_434.trans e_433
          have kb_19 : bd 19 19 (19 : Int32) := ⟨by decide, by decide⟩
          exact bd_no (eqX (eq_f e_433) b_417 kb_19 (lo := 20) (hi := 19) (by decide)) (by decide)
        by_cases e_435 : r_1 = 20
        · refine lv_topi (fun z_436 ez_436 => ?_)
          obtain rfl : z_436 = 20 := ez_436.trans e_435
          have b_437 : bd 20 20 r_1 := eqX (eq_f e_435) b_417 kb_20 (by decide)
          refine lv_tableIn (off := 110) (tgt := 201) hx hb dX2_readMark_91 (by decide) (by decide) rfl (by decide) ?_
          refine lv_aload_n hx hb dX2_readMark_201 rfl (lv_at hl 2 rfl) ?_
          have go_ := g
          refine g_callv (va_runV (As := []) (rest := []) ⟨hx, hb, hml, hown, hts⟩ (r_X2_readOnly_2 l dC dI L kd tys f H.size g.2.2.2.1 a0_ ma0_ ka0_ q0_ mq0_ kq0_ q3_ mq3_ kq3_ q4_ mq4_ kq4_ 1201 kb_1201 x_410 h_411 (g.fcts [4, 7, 8, 2, 3] rfl)) (cwV 0 hts (gV_ t_1330 t_1332 t_38 t_183 t_1333) rfl rfl rfl (by decide +kernel) ⟨(Nat.le_of_ble_eq_true rfl), (Nat.le_of_ble_eq_true rfl)⟩) (pre3V g hK ma0_ ka0_ (by decide) (q := (RX2, TX2, 16)) rfl) rfl rfl hl.1 rfl (lv_room (Nat.le_of_ble_eq_true rfl)) dX2_readMark_202 ⟨(Nat.le_of_ble_eq_true rfl), (Nat.le_of_ble_eq_true rfl)⟩) g hK (by decide) (by decide) (fx' := [(6, 12, q5_, .int y_423), (2, 6, a0_, .int 1), (8, 8, q0_, .int x_410), (2, 0, a0_, .ref q0_), (2, 1, a0_, .ref q1_), (2, 2, a0_, .ref q2_), (2, 3, a0_, .ref q3_), (2, 4, a0_, .ref q4_), (2, 5, a0_, .ref q5_), (0, 0, q2_, .ref q0_), (0, 1, q2_, .ref q1_), (5, 0, q1_, .ref q8_), (5, 1, q1_, .ref q9_), (9, 8, q4_, .int y1_), (7, 3, q3_, .int y2_), (5, 2, q1_, .int y4_), (7, 1, q3_, .int y5_)]) rfl (fun fr_438 H locs hp hMr_438 g => ?_)
          obtain ⟨x_439, h_440, x_441, h_442, hF_443⟩ := hp
          have hG_444 := eOK.frame hMr_438 go_.2.2.2.1 mq2_ kq2_ (by decide) (by decide) hG_426
          have g := g.more hF_443
          refine lv_goto (tgt := 234) hx hb dX2_readMark_205 (by decide) ?_
          refine lv_aload_n hx hb dX2_readMark_234 rfl (lv_at hl 2 rfl) ?_
          refine g_getk (C := RX2) (T := TX2) (N := 16) hx hb hts (mc_ inX2) hown hK g rfl 0 (by decide) rfl (hts _ (List.mem_cons_of_mem _ t_416)) (fun _ h9 => h9) 5 rfl dX2_readMark_235 ?_
          refine lv_bipush (v := 59) hx hb dX2_readMark_238 (by decide) ?_
          have go_ := g
          refine g_callv (va_runV (As := [.int 59]) (rest := []) ⟨hx, hb, hml, hown, hts⟩ (r_X8_take_2 l dC dI L kd tys fr_438 H.size g.2.2.2.1 q0_ mq0_ kq0_ 59 x_441 h_442 x_410 h_411 (g.fcts [1, 4] rfl)) (cwV 1 hts (gV_ t_1098 t_1099 t_1100 t_184 t_1101) rfl rfl rfl (by decide +kernel) ⟨(Nat.le_of_ble_eq_true rfl), (Nat.le_of_ble_eq_true rfl)⟩) (pre3V g hK mq0_ kq0_ (by decide) (q := (RX8, TX8, 10)) rfl) rfl rfl hl.1 rfl (lv_room (Nat.le_of_ble_eq_true rfl)) dX2_readMark_240 ⟨(Nat.le_of_ble_eq_true rfl), (Nat.le_of_ble_eq_true rfl)⟩) g hK (by decide) (by decide) (fx' := [(7, 13, q3_, .int x_439), (6, 12, q5_, .int y_423), (2, 6, a0_, .int 1), (8, 8, q0_, .int x_410), (2, 0, a0_, .ref q0_), (2, 1, a0_, .ref q1_), (2, 2, a0_, .ref q2_), (2, 3, a0_, .ref q3_), (2, 4, a0_, .ref q4_), (2, 5, a0_, .ref q5_), (0, 0, q2_, .ref q0_), (0, 1, q2_, .ref q1_), (5, 0, q1_, .ref q8_), (5, 1, q1_, .ref q9_), (9, 8, q4_, .int y1_), (7, 3, q3_, .int y2_), (5, 2, q1_, .int y4_), (7, 1, q3_, .int y5_)]) rfl (fun fr_445 H locs hp hMr_445 g => ?_)
          obtain ⟨x_446, h_447, hF_448⟩ := hp
          have hG_449 := eOK.frame hMr_445 go_.2.2.2.1 mq2_ kq2_ (by decide) (by decide) hG_444
          have g := g.more hF_448
          subst hQ
          exact W.vret hx hb hr (fun t ht hW => ⟨⟨_, rfl, Or.inr (⟨hG_449, x_446, h_447, x_410, h_411, x_439, h_440, y_423, (bd_sub b_424 (by decide)), (g.fcts [0, 4, 1, 2] rfl)⟩), q3_of g hK ht hW⟩, g.2.2.1.F ht⟩) g.2.2.1.2.2 dX2_readMark_243
        refine lv_tableOut (tgt := 208) hx hb dX2_readMark_91 (by have a0 : r_1.toInt ≠ 16 := fun h => e_427 (Int32.toInt_inj.mp (h.trans (by decide))); have a1 : r_1.toInt ≠ 17 := fun h => e_429 (Int32.toInt_inj.mp (h.trans (by decide))); have a2 : r_1.toInt ≠ 18 := fun h => e_431 (Int32.toInt_inj.mp (h.trans (by decide))); have a3 : r_1.toInt ≠ 19 := fun h => e_433 (Int32.toInt_inj.mp (h.trans (by decide))); have a4 : r_1.toInt ≠ 20 := fun h => e_435 (Int32.toInt_inj.mp (h.trans (by decide))); omega) (by decide) ?_
        refine lv_aload_n hx hb dX2_readMark_208 rfl (lv_at hl 2 rfl) ?_
        refine g_getk (C := RX2) (T := TX2) (N := 16) hx hb hts (mc_ inX2) hown hK g rfl 3 (by decide) rfl (hts _ (List.mem_cons_of_mem _ t_419)) (fun _ h9 => h9) 7 rfl dX2_readMark_209 ?_
        refine lv_bipush (v := 6) hx hb dX2_readMark_212 (by decide) ?_
        refine lv_aload_n hx hb dX2_readMark_214 rfl (lv_at hl 2 rfl) ?_
        refine g_getk (C := RX2) (T := TX2) (N := 16) hx hb hts (mc_ inX2) hown hK g rfl 1 (by decide) rfl (hts _ (List.mem_cons_of_mem _ t_417)) (fun _ h9 => h9) 5 rfl dX2_readMark_215 ?_
        refine g_getk (C := RX5) (T := TX5) (N := 9) hx hb hts (mc_ inX5) hown hK g rfl 2 (by decide) rfl (hts _ (List.mem_cons_of_mem _ t_333)) (fun _ h9 => h9) 16 rfl dX2_readMark_218 ?_
        refine lv_iload_n hx hb dX2_readMark_221 rfl (lv_at hl 0 rfl) ?_
        have go_ := g
        refine g_calli (va_runV (As := [.int 6, .int y4_, .int r_3]) (rest := []) ⟨hx, hb, hml, hown, hts⟩ (r_X7_addMark l dC dI L kd tys f H.size g.2.2.2.1 q3_ mq3_ kq3_ 6 y4_ r_3) (cwV 3 hts (gV_ t_1173 t_1174 t_1175 t_191 t_1176) rfl rfl rfl (by decide +kernel) ⟨(Nat.le_of_ble_eq_true rfl), (Nat.le_of_ble_eq_true rfl)⟩) (pre3V g hK mq3_ kq3_ (by decide) (q := (RX7, TX7, 19)) rfl) rfl rfl hl.1 rfl (lv_room (Nat.le_of_ble_eq_true rfl)) dX2_readMark_222 ⟨(Nat.le_of_ble_eq_true rfl), (Nat.le_of_ble_eq_true rfl)⟩) g hK (by decide) (by decide) (fx' := [(6, 12, q5_, .int y_423), (2, 6, a0_, .int 1), (8, 6, q0_, .int 1201), (8, 8, q0_, .int x_410), (2, 0, a0_, .ref q0_), (2, 1, a0_, .ref q1_), (2, 2, a0_, .ref q2_), (2, 3, a0_, .ref q3_), (2, 4, a0_, .ref q4_), (2, 5, a0_, .ref q5_), (0, 0, q2_, .ref q0_), (0, 1, q2_, .ref q1_), (5, 0, q1_, .ref q8_), (5, 1, q1_, .ref q9_), (9, 8, q4_, .int y1_), (7, 3, q3_, .int y2_), (5, 2, q1_, .int y4_), (7, 1, q3_, .int y5_)]) rfl (fun r_450 fr_450 H locs hp hMr_450 g => ?_)
        obtain ⟨h_451, x_452, h_453, hF_454⟩ := hp
        have hG_455 := eOK.frame hMr_450 go_.2.2.2.1 mq2_ kq2_ (by decide) (by decide) hG_426
        have g := g.more hF_454
        refine lv_pop hx hb dX2_readMark_225 rfl ?_
        refine lv_aload_n hx hb dX2_readMark_226 rfl (lv_at hl 2 rfl) ?_
        refine g_getk (C := RX2) (T := TX2) (N := 16) hx hb hts (mc_ inX2) hown hK g rfl 5 (by decide) rfl (hts _ (List.mem_cons_of_mem _ t_421)) (fun _ h9 => h9) 10 rfl dX2_readMark_227 ?_
        refine lv_iconst (v := 1) hx hb dX2_readMark_230 (by decide) ?_
        have go_ := g
        refine g_put (C := RX6) (T := TX6) (N := 13) hx hb hts (mc_ inX6) tyX6 tyX6_ok nmX6 hown hK g mq5_ kq5_ (by decide) rfl 6 (by decide) (hts _ (List.mem_cons_of_mem _ t_578)) (fun _ h9 => h9) rfl rfl (okV_i (bd_sub kb_1 (by decide))) rfl rfl (by decide) (Or.inr (Or.inl (by decide))) (fx' := [(7, 13, q3_, .int x_452), (6, 12, q5_, .int y_423), (2, 6, a0_, .int 1), (8, 6, q0_, .int 1201), (8, 8, q0_, .int x_410), (2, 0, a0_, .ref q0_), (2, 1, a0_, .ref q1_), (2, 2, a0_, .ref q2_), (2, 3, a0_, .ref q3_), (2, 4, a0_, .ref q4_), (2, 5, a0_, .ref q5_), (0, 0, q2_, .ref q0_), (0, 1, q2_, .ref q1_), (5, 0, q1_, .ref q8_), (5, 1, q1_, .ref q9_), (9, 8, q4_, .int y1_), (7, 3, q3_, .int y2_), (5, 2, q1_, .int y4_), (7, 1, q3_, .int y5_)]) rfl dX2_readMark_231 (fun f H locs hM_456 g => ?_)
        have hG_457 := eOK.frame hM_456 go_.2.2.2.1 mq2_ kq2_ (by decide) (by decide) hG_455
        refine lv_aload_n hx hb dX2_readMark_234 rfl (lv_at hl 2 rfl) ?_
        refine g_getk (C := RX2) (T := TX2) (N := 16) hx hb hts (mc_ inX2) hown hK g rfl 0 (by decide) rfl (hts _ (List.mem_cons_of_mem _ t_416)) (fun _ h9 => h9) 6 rfl dX2_readMark_235 ?_
        refine lv_bipush (v := 59) hx hb dX2_readMark_238 (by decide) ?_
        have go_ := g
        refine g_callv (va_runV (As := [.int 59]) (rest := []) ⟨hx, hb, hml, hown, hts⟩ (r_X8_take_2 l dC dI L kd tys f H.size g.2.2.2.1 q0_ mq0_ kq0_ 59 1201 kb_1201 x_410 h_411 (g.fcts [4, 5] rfl)) (cwV 1 hts (gV_ t_1098 t_1099 t_1100 t_184 t_1101) rfl rfl rfl (by decide +kernel) ⟨(Nat.le_of_ble_eq_true rfl), (Nat.le_of_ble_eq_true rfl)⟩) (pre3V g hK mq0_ kq0_ (by decide) (q := (RX8, TX8, 10)) rfl) rfl rfl hl.1 rfl (lv_room (Nat.le_of_ble_eq_true rfl)) dX2_readMark_240 ⟨(Nat.le_of_ble_eq_true rfl), (Nat.le_of_ble_eq_true rfl)⟩) g hK (by decide) (by decide) (fx' := [(6, 6, q5_, .int 1), (7, 13, q3_, .int x_452), (6, 12, q5_, .int y_423), (2, 6, a0_, .int 1), (8, 8, q0_, .int x_410), (2, 0, a0_, .ref q0_), (2, 1, a0_, .ref q1_), (2, 2, a0_, .ref q2_), (2, 3, a0_, .ref q3_), (2, 4, a0_, .ref q4_), (2, 5, a0_, .ref q5_), (0, 0, q2_, .ref q0_), (0, 1, q2_, .ref q1_), (5, 0, q1_, .ref q8_), (5, 1, q1_, .ref q9_), (9, 8, q4_, .int y1_), (7, 3, q3_, .int y2_), (5, 2, q1_, .int y4_), (7, 1, q3_, .int y5_)]) rfl (fun fr_458 H locs hp hMr_458 g => ?_)
        obtain ⟨x_459, h_460, hF_461⟩ := hp
        have hG_462 := eOK.frame hMr_458 go_.2.2.2.1 mq2_ kq2_ (by decide) (by decide) hG_457
        have g := g.more hF_461
        subst hQ
        exact W.vret hx hb hr (fun t ht hW => ⟨⟨_, rfl, Or.inr (⟨hG_462, x_459, h_460, x_410, h_411, x_452, h_453, y_423, (bd_sub b_424 (by decide)), (g.fcts [0, 5, 2, 3] rfl)⟩), q3_of g hK ht hW⟩, g.2.2.1.F ht⟩) g.2.2.1.2.2 dX2_readMark_243
      · have fc_419 := neq_f c_419
        have b_463 : bd 1 1 x_418 := neX fc_419 bx_418 kb_0 (by decide)
        refine lv_aload_n hx hb dX2_readMark_63 rfl (lv_at hl 2 rfl) ?_
        refine g_getk (C := RX2) (T := TX2) (N := 16) hx hb hts (mc_ inX2) hown hK g rfl 0 (by decide) rfl (hts _ (List.mem_cons_of_mem _ t_416)) (fun _ h9 => h9) 3 rfl dX2_readMark_64 ?_
        refine lv_iconst (v := 5) hx hb dX2_readMark_67 (by decide) ?_
        refine lv_iload_n hx hb dX2_readMark_68 rfl (lv_at hl 0 rfl) ?_
        have kb_5 : bd 5 5 (5 : Int32) := ⟨by decide, by decide⟩
        have go_ := g
        refine g_callv (va_runV (As := [.int 5, .int r_3]) (rest := []) ⟨hx, hb, hml, hown, hts⟩ (r_X8_fail_2 l dC dI L kd tys fr_414 H.size g.2.2.2.1 q0_ mq0_ kq0_ 5 (bd_sub kb_5 (by decide)) r_3 x_410 h_411 (g.fcts [2] rfl)) (cwV 2 hts (gV_ t_1122 t_1107 t_1108 t_184 t_1109) rfl rfl rfl (by decide +kernel) ⟨(Nat.le_of_ble_eq_true rfl), (Nat.le_of_ble_eq_true rfl)⟩) (pre3V g hK mq0_ kq0_ (by decide) (q := (RX8, TX8, 10)) rfl) rfl rfl hl.1 rfl (lv_room (Nat.le_of_ble_eq_true rfl)) dX2_readMark_69 ⟨(Nat.le_of_ble_eq_true rfl), (Nat.le_of_ble_eq_true rfl)⟩) g hK (by decide) (by decide) (fx' := [(2, 6, a0_, .int x_418), (8, 8, q0_, .int x_410), (2, 0, a0_, .ref q0_), (2, 1, a0_, .ref q1_), (2, 2, a0_, .ref q2_), (2, 3, a0_, .ref q3_), (2, 4, a0_, .ref q4_), (2, 5, a0_, .ref q5_), (0, 0, q2_, .ref q0_), (0, 1, q2_, .ref q1_), (5, 0, q1_, .ref q8_), (5, 1, q1_, .ref q9_), (9, 8, q4_, .int y1_), (7, 3, q3_, .int y2_), (6, 12, q5_, .int y3_), (5, 2, q1_, .int y4_), (7, 1, q3_, .int y5_)]) rfl (fun fr_464 H locs hp hMr_464 g => ?_)
        have hF_465 := hp
        have hG_466 := eOK.frame hMr_464 go_.2.2.2.1 mq2_ kq2_ (by decide) (by decide) hG_415
        have g := g.more hF_465
        refine lv_aload_n hx hb dX2_readMark_72 rfl (lv_at hl 2 rfl) ?_
        refine lv_iconst (v := 1) hx hb dX2_readMark_73 (by decide) ?_
        have kb_1 : bd 1 1 (1 : Int32) := ⟨by decide, by decide⟩
        have go_ := g
        refine g_put (C := RX2) (T := TX2) (N := 16) hx hb hts (mc_ inX2) tyX2 tyX2_ok nmX2 hown hK g ma0_ ka0_ (by decide) rfl 6 (by decide) (hts _ (List.mem_cons_of_mem _ t_422)) (fun _ h9 => h9) rfl rfl (okV_i (bd_sub kb_1 (by decide))) rfl rfl (by decide) (Or.inr (Or.inl (by decide))) (fx' := [(8, 6, q0_, .int 1201), (8, 8, q0_, .int x_410), (2, 0, a0_, .ref q0_), (2, 1, a0_, .ref q1_), (2, 2, a0_, .ref q2_), (2, 3, a0_, .ref q3_), (2, 4, a0_, .ref q4_), (2, 5, a0_, .ref q5_), (0, 0, q2_, .ref q0_), (0, 1, q2_, .ref q1_), (5, 0, q1_, .ref q8_), (5, 1, q1_, .ref q9_), (9, 8, q4_, .int y1_), (7, 3, q3_, .int y2_), (6, 12, q5_, .int y3_), (5, 2, q1_, .int y4_), (7, 1, q3_, .int y5_)]) rfl dX2_readMark_74 (fun f H locs hM_467 g => ?_)
        have hG_468 := eOK.frame hM_467 go_.2.2.2.1 mq2_ kq2_ (by decide) (by decide) hG_466
        refine lv_aload_n hx hb dX2_readMark_77 rfl (lv_at hl 2 rfl) ?_
        refine g_getk (C := RX2) (T := TX2) (N := 16) hx hb hts (mc_ inX2) hown hK g rfl 5 (by decide) rfl (hts _ (List.mem_cons_of_mem _ t_421)) (fun _ h9 => h9) 8 rfl dX2_readMark_78 ?_
        refine lv_dup hx hb dX2_readMark_81 rfl ?_
        refine g_getk (C := RX6) (T := TX6) (N := 13) hx hb hts (mc_ inX6) hown hK g rfl 12 (by decide) rfl (hts _ (List.mem_cons_of_mem _ t_591)) (fun _ h9 => h9) 15 rfl dX2_readMark_82 ?_
        refine lv_iconst (v := 1) hx hb dX2_readMark_85 (by decide) ?_
        refine lv_iadd hx hb dX2_readMark_86 ?_
        refine lv_topi (fun y_469 ey_469 => ?_)
        have ty_469 := add_bd ey_469 b_408 kb_1 (by decide)
        have b_470 : bd 9 9 y_469 := add_rg ty_469 b_408 kb_1 (by decide)
        have go_ := g
        refine g_put (C := RX6) (T := TX6) (N := 13) hx hb hts (mc_ inX6) tyX6 tyX6_ok nmX6 hown hK g mq5_ kq5_ (by decide) rfl 12 (by decide) (hts _ (List.mem_cons_of_mem _ t_591)) (fun _ h9 => h9) rfl rfl (okV_i (bd_sub b_470 (by decide))) rfl rfl (by decide) (Or.inr (Or.inl (by decide))) (fx' := [(2, 6, a0_, .int 1), (8, 6, q0_, .int 1201), (8, 8, q0_, .int x_410), (2, 0, a0_, .ref q0_), (2, 1, a0_, .ref q1_), (2, 2, a0_, .ref q2_), (2, 3, a0_, .ref q3_), (2, 4, a0_, .ref q4_), (2, 5, a0_, .ref q5_), (0, 0, q2_, .ref q0_), (0, 1, q2_, .ref q1_), (5, 0, q1_, .ref q8_), (5, 1, q1_, .ref q9_), (9, 8, q4_, .int y1_), (7, 3, q3_, .int y2_), (5, 2, q1_, .int y4_), (7, 1, q3_, .int y5_)]) rfl dX2_readMark_87 (fun f H locs hM_471 g => ?_)
        have hG_472 := eOK.frame hM_471 go_.2.2.2.1 mq2_ kq2_ (by decide) (by decide) hG_468
        refine lv_iload_n hx hb dX2_readMark_90 rfl (lv_at hl 1 rfl) ?_
        by_cases e_473 : r_1 = 16
        · refine lv_topi (fun z_474 ez_474 => ?_)
          obtain rfl : z_474 = 16 := ez_474.trans e_473
          have kb_16 : bd 16 16 (16 : Int32) := ⟨by decide, by decide⟩
          exact bd_no (eqX (eq_f e_473) b_417 kb_16 (lo := 20) (hi := 16) (by decide)) (by decide)
        by_cases e_475 : r_1 = 17
        · refine lv_topi (fun z_476 ez_476 => ?_)
          obtain rfl : z_476 = 17 := ez_476.trans e_475
          have kb_17 : bd 17 17 (17 : Int32) := ⟨by decide, by decide⟩
          exact bd_no (eqX (eq_f e_475) b_417 kb_17 (lo := 20) (hi := 17) (by decide)) (by decide)
        by_cases e_477 : r_1 = 18
        · refine lv_topi (fun z_478 ez_478 => ?_)
          obtain rfl : z_478 = 18 := ez_478.trans e_477
          have kb_18 : bd 18 18 (18 : Int32) := ⟨by decide, by decide⟩
          exact bd_no (eqX (eq_f e_477) b_417 kb_18 (lo := 20) (hi := 18) (by decide)) (by decide)
        by_cases e_479 : r_1 = 19
        · refine lv_topi (fun z_480 ez_480 => ?_)
          obtain rfl : z_480 = 19 := ez_480.trans e_479
          have kb_19 : bd 19 19 (19 : Int32) := ⟨by decide, by decide⟩
          exact bd_no (eqX (eq_f e_479) b_417 kb_19 (lo := 20) (hi := 19) (by decide)) (by decide)
        by_cases e_481 : r_1 = 20
        · refine lv_topi (fun z_482 ez_482 => ?_)
          obtain rfl : z_482 = 20 := ez_482.trans e_481
          have b_483 : bd 20 20 r_1 := eqX (eq_f e_481) b_417 kb_20 (by decide)
          refine lv_tableIn (off := 110) (tgt := 201) hx hb dX2_readMark_91 (by decide) (by decide) rfl (by decide) ?_
          refine lv_aload_n hx hb dX2_readMark_201 rfl (lv_at hl 2 rfl) ?_
          have go_ := g
          refine g_callv (va_runV (As := []) (rest := []) ⟨hx, hb, hml, hown, hts⟩ (r_X2_readOnly_2 l dC dI L kd tys f H.size g.2.2.2.1 a0_ ma0_ ka0_ q0_ mq0_ kq0_ q3_ mq3_ kq3_ q4_ mq4_ kq4_ 1201 kb_1201 x_410 h_411 (g.fcts [4, 7, 8, 2, 3] rfl)) (cwV 0 hts (gV_ t_1330 t_1332 t_38 t_183 t_1333) rfl rfl rfl (by decide +kernel) ⟨(Nat.le_of_ble_eq_true rfl), (Nat.le_of_ble_eq_true rfl)⟩) (pre3V g hK ma0_ ka0_ (by decide) (q := (RX2, TX2, 16)) rfl) rfl rfl hl.1 rfl (lv_room (Nat.le_of_ble_eq_true rfl)) dX2_readMark_202 ⟨(Nat.le_of_ble_eq_true rfl), (Nat.le_of_ble_eq_true rfl)⟩) g hK (by decide) (by decide) (fx' := [(6, 12, q5_, .int y_469), (2, 6, a0_, .int 1), (8, 8, q0_, .int x_410), (2, 0, a0_, .ref q0_), (2, 1, a0_, .ref q1_), (2, 2, a0_, .ref q2_), (2, 3, a0_, .ref q3_), (2, 4, a0_, .ref q4_), (2, 5, a0_, .ref q5_), (0, 0, q2_, .ref q0_), (0, 1, q2_, .ref q1_), (5, 0, q1_, .ref q8_), (5, 1, q1_, .ref q9_), (9, 8, q4_, .int y1_), (7, 3, q3_, .int y2_), (5, 2, q1_, .int y4_), (7, 1, q3_, .int y5_)]) rfl (fun fr_484 H locs hp hMr_484 g => ?_)
          obtain ⟨x_485, h_486, x_487, h_488, hF_489⟩ := hp
          have hG_490 := eOK.frame hMr_484 go_.2.2.2.1 mq2_ kq2_ (by decide) (by decide) hG_472
          have g := g.more hF_489
          refine lv_goto (tgt := 234) hx hb dX2_readMark_205 (by decide) ?_
          refine lv_aload_n hx hb dX2_readMark_234 rfl (lv_at hl 2 rfl) ?_
          refine g_getk (C := RX2) (T := TX2) (N := 16) hx hb hts (mc_ inX2) hown hK g rfl 0 (by decide) rfl (hts _ (List.mem_cons_of_mem _ t_416)) (fun _ h9 => h9) 5 rfl dX2_readMark_235 ?_
          refine lv_bipush (v := 59) hx hb dX2_readMark_238 (by decide) ?_
          have go_ := g
          refine g_callv (va_runV (As := [.int 59]) (rest := []) ⟨hx, hb, hml, hown, hts⟩ (r_X8_take_2 l dC dI L kd tys fr_484 H.size g.2.2.2.1 q0_ mq0_ kq0_ 59 x_487 h_488 x_410 h_411 (g.fcts [1, 4] rfl)) (cwV 1 hts (gV_ t_1098 t_1099 t_1100 t_184 t_1101) rfl rfl rfl (by decide +kernel) ⟨(Nat.le_of_ble_eq_true rfl), (Nat.le_of_ble_eq_true rfl)⟩) (pre3V g hK mq0_ kq0_ (by decide) (q := (RX8, TX8, 10)) rfl) rfl rfl hl.1 rfl (lv_room (Nat.le_of_ble_eq_true rfl)) dX2_readMark_240 ⟨(Nat.le_of_ble_eq_true rfl), (Nat.le_of_ble_eq_true rfl)⟩) g hK (by decide) (by decide) (fx' := [(7, 13, q3_, .int x_485), (6, 12, q5_, .int y_469), (2, 6, a0_, .int 1), (8, 8, q0_, .int x_410), (2, 0, a0_, .ref q0_), (2, 1, a0_, .ref q1_), (2, 2, a0_, .ref q2_), (2, 3, a0_, .ref q3_), (2, 4, a0_, .ref q4_), (2, 5, a0_, .ref q5_), (0, 0, q2_, .ref q0_), (0, 1, q2_, .ref q1_), (5, 0, q1_, .ref q8_), (5, 1, q1_, .ref q9_), (9, 8, q4_, .int y1_), (7, 3, q3_, .int y2_), (5, 2, q1_, .int y4_), (7, 1, q3_, .int y5_)]) rfl (fun fr_491 H locs hp hMr_491 g => ?_)
          obtain ⟨x_492, h_493, hF_494⟩ := hp
          have hG_495 := eOK.frame hMr_491 go_.2.2.2.1 mq2_ kq2_ (by decide) (by decide) hG_490
          have g := g.more hF_494
          subst hQ
          exact W.vret hx hb hr (fun t ht hW => ⟨⟨_, rfl, Or.inr (⟨hG_495, x_492, h_493, x_410, h_411, x_485, h_486, y_469, (bd_sub b_470 (by decide)), (g.fcts [0, 4, 1, 2] rfl)⟩), q3_of g hK ht hW⟩, g.2.2.1.F ht⟩) g.2.2.1.2.2 dX2_readMark_243
        refine lv_tableOut (tgt := 208) hx hb dX2_readMark_91 (by have a0 : r_1.toInt ≠ 16 := fun h => e_473 (Int32.toInt_inj.mp (h.trans (by decide))); have a1 : r_1.toInt ≠ 17 := fun h => e_475 (Int32.toInt_inj.mp (h.trans (by decide))); have a2 : r_1.toInt ≠ 18 := fun h => e_477 (Int32.toInt_inj.mp (h.trans (by decide))); have a3 : r_1.toInt ≠ 19 := fun h => e_479 (Int32.toInt_inj.mp (h.trans (by decide))); have a4 : r_1.toInt ≠ 20 := fun h => e_481 (Int32.toInt_inj.mp (h.trans (by decide))); omega) (by decide) ?_
        refine lv_aload_n hx hb dX2_readMark_208 rfl (lv_at hl 2 rfl) ?_
        refine g_getk (C := RX2) (T := TX2) (N := 16) hx hb hts (mc_ inX2) hown hK g rfl 3 (by decide) rfl (hts _ (List.mem_cons_of_mem _ t_419)) (fun _ h9 => h9) 7 rfl dX2_readMark_209 ?_
        refine lv_bipush (v := 6) hx hb dX2_readMark_212 (by decide) ?_
        refine lv_aload_n hx hb dX2_readMark_214 rfl (lv_at hl 2 rfl) ?_
        refine g_getk (C := RX2) (T := TX2) (N := 16) hx hb hts (mc_ inX2) hown hK g rfl 1 (by decide) rfl (hts _ (List.mem_cons_of_mem _ t_417)) (fun _ h9 => h9) 5 rfl dX2_readMark_215 ?_
        refine g_getk (C := RX5) (T := TX5) (N := 9) hx hb hts (mc_ inX5) hown hK g rfl 2 (by decide) rfl (hts _ (List.mem_cons_of_mem _ t_333)) (fun _ h9 => h9) 16 rfl dX2_readMark_218 ?_
        refine lv_iload_n hx hb dX2_readMark_221 rfl (lv_at hl 0 rfl) ?_
        have go_ := g
        refine g_calli (va_runV (As := [.int 6, .int y4_, .int r_3]) (rest := []) ⟨hx, hb, hml, hown, hts⟩ (r_X7_addMark l dC dI L kd tys f H.size g.2.2.2.1 q3_ mq3_ kq3_ 6 y4_ r_3) (cwV 3 hts (gV_ t_1173 t_1174 t_1175 t_191 t_1176) rfl rfl rfl (by decide +kernel) ⟨(Nat.le_of_ble_eq_true rfl), (Nat.le_of_ble_eq_true rfl)⟩) (pre3V g hK mq3_ kq3_ (by decide) (q := (RX7, TX7, 19)) rfl) rfl rfl hl.1 rfl (lv_room (Nat.le_of_ble_eq_true rfl)) dX2_readMark_222 ⟨(Nat.le_of_ble_eq_true rfl), (Nat.le_of_ble_eq_true rfl)⟩) g hK (by decide) (by decide) (fx' := [(6, 12, q5_, .int y_469), (2, 6, a0_, .int 1), (8, 6, q0_, .int 1201), (8, 8, q0_, .int x_410), (2, 0, a0_, .ref q0_), (2, 1, a0_, .ref q1_), (2, 2, a0_, .ref q2_), (2, 3, a0_, .ref q3_), (2, 4, a0_, .ref q4_), (2, 5, a0_, .ref q5_), (0, 0, q2_, .ref q0_), (0, 1, q2_, .ref q1_), (5, 0, q1_, .ref q8_), (5, 1, q1_, .ref q9_), (9, 8, q4_, .int y1_), (7, 3, q3_, .int y2_), (5, 2, q1_, .int y4_), (7, 1, q3_, .int y5_)]) rfl (fun r_496 fr_496 H locs hp hMr_496 g => ?_)
        obtain ⟨h_497, x_498, h_499, hF_500⟩ := hp
        have hG_501 := eOK.frame hMr_496 go_.2.2.2.1 mq2_ kq2_ (by decide) (by decide) hG_472
        have g := g.more hF_500
        refine lv_pop hx hb dX2_readMark_225 rfl ?_
        refine lv_aload_n hx hb dX2_readMark_226 rfl (lv_at hl 2 rfl) ?_
        refine g_getk (C := RX2) (T := TX2) (N := 16) hx hb hts (mc_ inX2) hown hK g rfl 5 (by decide) rfl (hts _ (List.mem_cons_of_mem _ t_421)) (fun _ h9 => h9) 10 rfl dX2_readMark_227 ?_
        refine lv_iconst (v := 1) hx hb dX2_readMark_230 (by decide) ?_
        have go_ := g
        refine g_put (C := RX6) (T := TX6) (N := 13) hx hb hts (mc_ inX6) tyX6 tyX6_ok nmX6 hown hK g mq5_ kq5_ (by decide) rfl 6 (by decide) (hts _ (List.mem_cons_of_mem _ t_578)) (fun _ h9 => h9) rfl rfl (okV_i (bd_sub kb_1 (by decide))) rfl rfl (by decide) (Or.inr (Or.inl (by decide))) (fx' := [(7, 13, q3_, .int x_498), (6, 12, q5_, .int y_469), (2, 6, a0_, .int 1), (8, 6, q0_, .int 1201), (8, 8, q0_, .int x_410), (2, 0, a0_, .ref q0_), (2, 1, a0_, .ref q1_), (2, 2, a0_, .ref q2_), (2, 3, a0_, .ref q3_), (2, 4, a0_, .ref q4_), (2, 5, a0_, .ref q5_), (0, 0, q2_, .ref q0_), (0, 1, q2_, .ref q1_), (5, 0, q1_, .ref q8_), (5, 1, q1_, .ref q9_), (9, 8, q4_, .int y1_), (7, 3, q3_, .int y2_), (5, 2, q1_, .int y4_), (7, 1, q3_, .int y5_)]) rfl dX2_readMark_231 (fun f H locs hM_502 g => ?_)
        have hG_503 := eOK.frame hM_502 go_.2.2.2.1 mq2_ kq2_ (by decide) (by decide) hG_501
        refine lv_aload_n hx hb dX2_readMark_234 rfl (lv_at hl 2 rfl) ?_
        refine g_getk (C := RX2) (T := TX2) (N := 16) hx hb hts (mc_ inX2) hown hK g rfl 0 (by decide) rfl (hts _ (List.mem_cons_of_mem _ t_416)) (fun _ h9 => h9) 6 rfl dX2_readMark_235 ?_
        refine lv_bipush (v := 59) hx hb dX2_readMark_238 (by decide) ?_
        have go_ := g
        refine g_callv (va_runV (As := [.int 59]) (rest := []) ⟨hx, hb, hml, hown, hts⟩ (r_X8_take_2 l dC dI L kd tys f H.size g.2.2.2.1 q0_ mq0_ kq0_ 59 1201 kb_1201 x_410 h_411 (g.fcts [4, 5] rfl)) (cwV 1 hts (gV_ t_1098 t_1099 t_1100 t_184 t_1101) rfl rfl rfl (by decide +kernel) ⟨(Nat.le_of_ble_eq_true rfl), (Nat.le_of_ble_eq_true rfl)⟩) (pre3V g hK mq0_ kq0_ (by decide) (q := (RX8, TX8, 10)) rfl) rfl rfl hl.1 rfl (lv_room (Nat.le_of_ble_eq_true rfl)) dX2_readMark_240 ⟨(Nat.le_of_ble_eq_true rfl), (Nat.le_of_ble_eq_true rfl)⟩) g hK (by decide) (by decide) (fx' := [(6, 6, q5_, .int 1), (7, 13, q3_, .int x_498), (6, 12, q5_, .int y_469), (2, 6, a0_, .int 1), (8, 8, q0_, .int x_410), (2, 0, a0_, .ref q0_), (2, 1, a0_, .ref q1_), (2, 2, a0_, .ref q2_), (2, 3, a0_, .ref q3_), (2, 4, a0_, .ref q4_), (2, 5, a0_, .ref q5_), (0, 0, q2_, .ref q0_), (0, 1, q2_, .ref q1_), (5, 0, q1_, .ref q8_), (5, 1, q1_, .ref q9_), (9, 8, q4_, .int y1_), (7, 3, q3_, .int y2_), (5, 2, q1_, .int y4_), (7, 1, q3_, .int y5_)]) rfl (fun fr_504 H locs hp hMr_504 g => ?_)
        obtain ⟨x_505, h_506, hF_507⟩ := hp
        have hG_508 := eOK.frame hMr_504 go_.2.2.2.1 mq2_ kq2_ (by decide) (by decide) hG_503
        have g := g.more hF_507
        subst hQ
        exact W.vret hx hb hr (fun t ht hW => ⟨⟨_, rfl, Or.inr (⟨hG_508, x_505, h_506, x_410, h_411, x_498, h_499, y_469, (bd_sub b_470 (by decide)), (g.fcts [0, 5, 2, 3] rfl)⟩), q3_of g hK ht hW⟩, g.2.2.1.F ht⟩) g.2.2.1.2.2 dX2_readMark_243
    · have fc_416 := neq_f c_416
      refine lv_iload_n hx hb dX2_readMark_50 rfl (lv_at hl 1 rfl) ?_
      refine lv_bipush (v := 21) hx hb dX2_readMark_51 (by decide) ?_
      have kb_21 : bd 21 21 (21 : Int32) := ⟨by decide, by decide⟩
      refine lv_icmp_ne (tgt := 77) hx hb dX2_readMark_53 (by decide) (fun c_509 => ?_) (fun c_509 => ?_)
      · have fc_509 := neq_f c_509
        refine lv_aload_n hx hb dX2_readMark_77 rfl (lv_at hl 2 rfl) ?_
        refine g_getk (C := RX2) (T := TX2) (N := 16) hx hb hts (mc_ inX2) hown hK g rfl 5 (by decide) rfl (hts _ (List.mem_cons_of_mem _ t_421)) (fun _ h9 => h9) 7 rfl dX2_readMark_78 ?_
        refine lv_dup hx hb dX2_readMark_81 rfl ?_
        refine g_getk (C := RX6) (T := TX6) (N := 13) hx hb hts (mc_ inX6) hown hK g rfl 12 (by decide) rfl (hts _ (List.mem_cons_of_mem _ t_591)) (fun _ h9 => h9) 14 rfl dX2_readMark_82 ?_
        refine lv_iconst (v := 1) hx hb dX2_readMark_85 (by decide) ?_
        have kb_1 : bd 1 1 (1 : Int32) := ⟨by decide, by decide⟩
        refine lv_iadd hx hb dX2_readMark_86 ?_
        refine lv_topi (fun y_510 ey_510 => ?_)
        have ty_510 := add_bd ey_510 b_408 kb_1 (by decide)
        have b_511 : bd 9 9 y_510 := add_rg ty_510 b_408 kb_1 (by decide)
        have go_ := g
        refine g_put (C := RX6) (T := TX6) (N := 13) hx hb hts (mc_ inX6) tyX6 tyX6_ok nmX6 hown hK g mq5_ kq5_ (by decide) rfl 12 (by decide) (hts _ (List.mem_cons_of_mem _ t_591)) (fun _ h9 => h9) rfl rfl (okV_i (bd_sub b_511 (by decide))) rfl rfl (by decide) (Or.inr (Or.inl (by decide))) (fx' := [(8, 6, q0_, .int 1201), (8, 8, q0_, .int x_410), (2, 0, a0_, .ref q0_), (2, 1, a0_, .ref q1_), (2, 2, a0_, .ref q2_), (2, 3, a0_, .ref q3_), (2, 4, a0_, .ref q4_), (2, 5, a0_, .ref q5_), (0, 0, q2_, .ref q0_), (0, 1, q2_, .ref q1_), (5, 0, q1_, .ref q8_), (5, 1, q1_, .ref q9_), (9, 8, q4_, .int y1_), (7, 3, q3_, .int y2_), (5, 2, q1_, .int y4_), (7, 1, q3_, .int y5_)]) rfl dX2_readMark_87 (fun f H locs hM_512 g => ?_)
        have hG_513 := eOK.frame hM_512 go_.2.2.2.1 mq2_ kq2_ (by decide) (by decide) hG_415
        refine lv_iload_n hx hb dX2_readMark_90 rfl (lv_at hl 1 rfl) ?_
        by_cases e_514 : r_1 = 16
        · refine lv_topi (fun z_515 ez_515 => ?_)
          obtain rfl : z_515 = 16 := ez_515.trans e_514
          have kb_16 : bd 16 16 (16 : Int32) := ⟨by decide, by decide⟩
          have b_516 : bd 16 16 r_1 := eqX (eq_f e_514) (bdT r_1) kb_16 (by decide)
          refine lv_tableIn (off := 33) (tgt := 124) hx hb dX2_readMark_91 (by decide) (by decide) rfl (by decide) ?_
          refine lv_aload_n hx hb dX2_readMark_124 rfl (lv_at hl 2 rfl) ?_
          refine g_getk (C := RX2) (T := TX2) (N := 16) hx hb hts (mc_ inX2) hown hK g rfl 3 (by decide) rfl (hts _ (List.mem_cons_of_mem _ t_419)) (fun _ h9 => h9) 6 rfl dX2_readMark_125 ?_
          refine lv_iconst (v := 1) hx hb dX2_readMark_128 (by decide) ?_
          refine lv_aload_n hx hb dX2_readMark_129 rfl (lv_at hl 2 rfl) ?_
          refine g_getk (C := RX2) (T := TX2) (N := 16) hx hb hts (mc_ inX2) hown hK g rfl 1 (by decide) rfl (hts _ (List.mem_cons_of_mem _ t_417)) (fun _ h9 => h9) 4 rfl dX2_readMark_130 ?_
          refine g_getk (C := RX5) (T := TX5) (N := 9) hx hb hts (mc_ inX5) hown hK g rfl 2 (by decide) rfl (hts _ (List.mem_cons_of_mem _ t_333)) (fun _ h9 => h9) 15 rfl dX2_readMark_133 ?_
          refine lv_aload_n hx hb dX2_readMark_136 rfl (lv_at hl 2 rfl) ?_
          refine g_getk (C := RX2) (T := TX2) (N := 16) hx hb hts (mc_ inX2) hown hK g rfl 0 (by decide) rfl (hts _ (List.mem_cons_of_mem _ t_416)) (fun _ h9 => h9) 3 rfl dX2_readMark_137 ?_
          have go_ := g
          refine g_calli (va_runV (As := []) (rest := [.int y4_, .int 1, .ref q3_]) ⟨hx, hb, hml, hown, hts⟩ (r_X8_place l dC dI L kd tys f H.size g.2.2.2.1 q0_ mq0_ kq0_) (cwV 0 hts (gV_ t_1110 t_1111 t_1112 t_184 t_1113) rfl rfl rfl (by decide +kernel) ⟨(Nat.le_of_ble_eq_true rfl), (Nat.le_of_ble_eq_true rfl)⟩) (pre3V g hK mq0_ kq0_ (by decide) (q := (RX8, TX8, 10)) rfl) rfl rfl hl.1 rfl (lv_room (Nat.le_of_ble_eq_true rfl)) dX2_readMark_140 ⟨(Nat.le_of_ble_eq_true rfl), (Nat.le_of_ble_eq_true rfl)⟩) g hK (by decide) (by decide) (fx' := [(6, 12, q5_, .int y_510), (8, 6, q0_, .int 1201), (8, 8, q0_, .int x_410), (2, 0, a0_, .ref q0_), (2, 1, a0_, .ref q1_), (2, 2, a0_, .ref q2_), (2, 3, a0_, .ref q3_), (2, 4, a0_, .ref q4_), (2, 5, a0_, .ref q5_), (0, 0, q2_, .ref q0_), (0, 1, q2_, .ref q1_), (5, 0, q1_, .ref q8_), (5, 1, q1_, .ref q9_), (9, 8, q4_, .int y1_), (7, 3, q3_, .int y2_), (5, 2, q1_, .int y4_), (7, 1, q3_, .int y5_)]) rfl (fun r_517 fr_517 H locs hp hMr_517 g => ?_)
          have hG_518 := eOK.frame hMr_517 go_.2.2.2.1 mq2_ kq2_ (by decide) (by decide) hG_513
          have go_ := g
          refine g_calli (va_runV (As := [.int 1, .int y4_, .int r_517]) (rest := []) ⟨hx, hb, hml, hown, hts⟩ (r_X7_addMark l dC dI L kd tys fr_517 H.size g.2.2.2.1 q3_ mq3_ kq3_ 1 y4_ r_517) (cwV 3 hts (gV_ t_1173 t_1174 t_1175 t_191 t_1176) rfl rfl rfl (by decide +kernel) ⟨(Nat.le_of_ble_eq_true rfl), (Nat.le_of_ble_eq_true rfl)⟩) (pre3V g hK mq3_ kq3_ (by decide) (q := (RX7, TX7, 19)) rfl) rfl rfl hl.1 rfl (lv_room (Nat.le_of_ble_eq_true rfl)) dX2_readMark_143 ⟨(Nat.le_of_ble_eq_true rfl), (Nat.le_of_ble_eq_true rfl)⟩) g hK (by decide) (by decide) (fx' := [(6, 12, q5_, .int y_510), (8, 6, q0_, .int 1201), (8, 8, q0_, .int x_410), (2, 0, a0_, .ref q0_), (2, 1, a0_, .ref q1_), (2, 2, a0_, .ref q2_), (2, 3, a0_, .ref q3_), (2, 4, a0_, .ref q4_), (2, 5, a0_, .ref q5_), (0, 0, q2_, .ref q0_), (0, 1, q2_, .ref q1_), (5, 0, q1_, .ref q8_), (5, 1, q1_, .ref q9_), (9, 8, q4_, .int y1_), (7, 3, q3_, .int y2_), (5, 2, q1_, .int y4_), (7, 1, q3_, .int y5_)]) rfl (fun r_519 fr_519 H locs hp hMr_519 g => ?_)
          obtain ⟨h_520, x_521, h_522, hF_523⟩ := hp
          have hG_524 := eOK.frame hMr_519 go_.2.2.2.1 mq2_ kq2_ (by decide) (by decide) hG_518
          have g := g.more hF_523
          refine lv_pop hx hb dX2_readMark_146 rfl ?_
          refine lv_aload_n hx hb dX2_readMark_147 rfl (lv_at hl 2 rfl) ?_
          refine lv_iconst (v := 0) hx hb dX2_readMark_148 (by decide) ?_
          have kb_0 : bd 0 0 (0 : Int32) := ⟨by decide, by decide⟩
          have go_ := g
          refine g_callv (va_runV (As := [.int 0]) (rest := []) ⟨hx, hb, hml, hown, hts⟩ (r_X2_readAsked_11 l dC dI L kd tys fr_519 H.size g.2.2.2.1 a0_ ma0_ ka0_ 0 kb_0 q0_ mq0_ kq0_ q1_ mq1_ kq1_ q2_ mq2_ kq2_ q3_ mq3_ kq3_ q8_ mq8_ kq8_ q9_ mq9_ kq9_ x_521 h_522 1201 kb_1201 x_410 h_411 y2_ by2_ y4_ by4_ y5_ by5_ hG_524 (g.fcts [4, 5, 6, 7, 10, 11, 12, 13, 0, 2, 3, 15, 16, 17] rfl)) (cwV 1 hts (gV_ t_1178 t_1180 t_13 t_183 t_1181) rfl rfl rfl (by decide +kernel) ⟨(Nat.le_of_ble_eq_true rfl), (Nat.le_of_ble_eq_true rfl)⟩) (pre3V g hK ma0_ ka0_ (by decide) (q := (RX2, TX2, 16)) rfl) rfl rfl hl.1 rfl (lv_room (Nat.le_of_ble_eq_true rfl)) dX2_readMark_149 ⟨(Nat.le_of_ble_eq_true rfl), (Nat.le_of_ble_eq_true rfl)⟩) g hK (by decide) (by decide) (fx' := [(7, 13, q3_, .int x_521), (6, 12, q5_, .int y_510), (8, 6, q0_, .int 1201), (8, 8, q0_, .int x_410), (2, 0, a0_, .ref q0_), (2, 1, a0_, .ref q1_), (2, 2, a0_, .ref q2_), (2, 3, a0_, .ref q3_), (2, 4, a0_, .ref q4_), (2, 5, a0_, .ref q5_), (0, 0, q2_, .ref q0_), (0, 1, q2_, .ref q1_), (5, 0, q1_, .ref q8_), (5, 1, q1_, .ref q9_), (9, 8, q4_, .int y1_), (7, 3, q3_, .int y2_), (5, 2, q1_, .int y4_), (7, 1, q3_, .int y5_)]) rfl (fun fr_525 H locs hp hMr_525 g => ?_)
          obtain ⟨x_526, h_527, hF_528⟩ := hp
          have hG_529 := eOK.frame hMr_525 go_.2.2.2.1 mq2_ kq2_ (by decide) (by decide) hG_524
          have g := g.more hF_528
          refine lv_goto (tgt := 234) hx hb dX2_readMark_152 (by decide) ?_
          refine lv_aload_n hx hb dX2_readMark_234 rfl (lv_at hl 2 rfl) ?_
          refine g_getk (C := RX2) (T := TX2) (N := 16) hx hb hts (mc_ inX2) hown hK g rfl 0 (by decide) rfl (hts _ (List.mem_cons_of_mem _ t_416)) (fun _ h9 => h9) 13 rfl dX2_readMark_235 ?_
          refine lv_bipush (v := 59) hx hb dX2_readMark_238 (by decide) ?_
          have go_ := g
          refine g_callv (va_runV (As := [.int 59]) (rest := []) ⟨hx, hb, hml, hown, hts⟩ (r_X8_take_2 l dC dI L kd tys fr_525 H.size g.2.2.2.1 q0_ mq0_ kq0_ 59 1201 kb_1201 x_410 h_411 (g.fcts [11, 12] rfl)) (cwV 1 hts (gV_ t_1098 t_1099 t_1100 t_184 t_1101) rfl rfl rfl (by decide +kernel) ⟨(Nat.le_of_ble_eq_true rfl), (Nat.le_of_ble_eq_true rfl)⟩) (pre3V g hK mq0_ kq0_ (by decide) (q := (RX8, TX8, 10)) rfl) rfl rfl hl.1 rfl (lv_room (Nat.le_of_ble_eq_true rfl)) dX2_readMark_240 ⟨(Nat.le_of_ble_eq_true rfl), (Nat.le_of_ble_eq_true rfl)⟩) g hK (by decide) (by decide) (fx' := [(7, 6, q3_, .int x_526), (5, 8, q1_, .int 0), (5, 7, q1_, .int 0), (0, 13, q2_, .int 0), (0, 12, q2_, .int 1), (0, 11, q2_, .int 0), (0, 10, q2_, .int 0), (0, 8, q2_, .int 0), (0, 2, q2_, .ref q8_), (7, 13, q3_, .int x_521), (6, 12, q5_, .int y_510), (8, 8, q0_, .int x_410), (2, 0, a0_, .ref q0_), (2, 1, a0_, .ref q1_), (2, 2, a0_, .ref q2_), (2, 3, a0_, .ref q3_), (2, 4, a0_, .ref q4_), (2, 5, a0_, .ref q5_), (0, 0, q2_, .ref q0_), (0, 1, q2_, .ref q1_), (5, 0, q1_, .ref q8_), (5, 1, q1_, .ref q9_), (9, 8, q4_, .int y1_), (7, 3, q3_, .int y2_), (5, 2, q1_, .int y4_), (7, 1, q3_, .int y5_)]) rfl (fun fr_530 H locs hp hMr_530 g => ?_)
          obtain ⟨x_531, h_532, hF_533⟩ := hp
          have hG_534 := eOK.frame hMr_530 go_.2.2.2.1 mq2_ kq2_ (by decide) (by decide) hG_529
          have g := g.more hF_533
          subst hQ
          exact W.vret hx hb hr (fun t ht hW => ⟨⟨_, rfl, Or.inr (⟨hG_534, x_531, h_532, x_410, h_411, x_521, h_522, y_510, (bd_sub b_511 (by decide)), (g.fcts [0, 12, 10, 11] rfl)⟩), q3_of g hK ht hW⟩, g.2.2.1.F ht⟩) g.2.2.1.2.2 dX2_readMark_243
        by_cases e_535 : r_1 = 17
        · refine lv_topi (fun z_536 ez_536 => ?_)
          obtain rfl : z_536 = 17 := ez_536.trans e_535
          have kb_17 : bd 17 17 (17 : Int32) := ⟨by decide, by decide⟩
          have b_537 : bd 17 17 r_1 := eqX (eq_f e_535) (bdT r_1) kb_17 (by decide)
          refine lv_tableIn (off := 64) (tgt := 155) hx hb dX2_readMark_91 (by decide) (by decide) rfl (by decide) ?_
          refine lv_aload_n hx hb dX2_readMark_155 rfl (lv_at hl 2 rfl) ?_
          refine g_getk (C := RX2) (T := TX2) (N := 16) hx hb hts (mc_ inX2) hown hK g rfl 3 (by decide) rfl (hts _ (List.mem_cons_of_mem _ t_419)) (fun _ h9 => h9) 6 rfl dX2_readMark_156 ?_
          refine lv_iconst (v := 2) hx hb dX2_readMark_159 (by decide) ?_
          refine lv_aload_n hx hb dX2_readMark_160 rfl (lv_at hl 2 rfl) ?_
          refine g_getk (C := RX2) (T := TX2) (N := 16) hx hb hts (mc_ inX2) hown hK g rfl 1 (by decide) rfl (hts _ (List.mem_cons_of_mem _ t_417)) (fun _ h9 => h9) 4 rfl dX2_readMark_161 ?_
          refine g_getk (C := RX5) (T := TX5) (N := 9) hx hb hts (mc_ inX5) hown hK g rfl 2 (by decide) rfl (hts _ (List.mem_cons_of_mem _ t_333)) (fun _ h9 => h9) 15 rfl dX2_readMark_164 ?_
          refine lv_aload_n hx hb dX2_readMark_167 rfl (lv_at hl 2 rfl) ?_
          refine g_getk (C := RX2) (T := TX2) (N := 16) hx hb hts (mc_ inX2) hown hK g rfl 0 (by decide) rfl (hts _ (List.mem_cons_of_mem _ t_416)) (fun _ h9 => h9) 3 rfl dX2_readMark_168 ?_
          have go_ := g
          refine g_calli (va_runV (As := []) (rest := [.int y4_, .int 2, .ref q3_]) ⟨hx, hb, hml, hown, hts⟩ (r_X8_place l dC dI L kd tys f H.size g.2.2.2.1 q0_ mq0_ kq0_) (cwV 0 hts (gV_ t_1110 t_1111 t_1112 t_184 t_1113) rfl rfl rfl (by decide +kernel) ⟨(Nat.le_of_ble_eq_true rfl), (Nat.le_of_ble_eq_true rfl)⟩) (pre3V g hK mq0_ kq0_ (by decide) (q := (RX8, TX8, 10)) rfl) rfl rfl hl.1 rfl (lv_room (Nat.le_of_ble_eq_true rfl)) dX2_readMark_171 ⟨(Nat.le_of_ble_eq_true rfl), (Nat.le_of_ble_eq_true rfl)⟩) g hK (by decide) (by decide) (fx' := [(6, 12, q5_, .int y_510), (8, 6, q0_, .int 1201), (8, 8, q0_, .int x_410), (2, 0, a0_, .ref q0_), (2, 1, a0_, .ref q1_), (2, 2, a0_, .ref q2_), (2, 3, a0_, .ref q3_), (2, 4, a0_, .ref q4_), (2, 5, a0_, .ref q5_), (0, 0, q2_, .ref q0_), (0, 1, q2_, .ref q1_), (5, 0, q1_, .ref q8_), (5, 1, q1_, .ref q9_), (9, 8, q4_, .int y1_), (7, 3, q3_, .int y2_), (5, 2, q1_, .int y4_), (7, 1, q3_, .int y5_)]) rfl (fun r_538 fr_538 H locs hp hMr_538 g => ?_)
          have hG_539 := eOK.frame hMr_538 go_.2.2.2.1 mq2_ kq2_ (by decide) (by decide) hG_513
          have go_ := g
          refine g_calli (va_runV (As := [.int 2, .int y4_, .int r_538]) (rest := []) ⟨hx, hb, hml, hown, hts⟩ (r_X7_addMark l dC dI L kd tys fr_538 H.size g.2.2.2.1 q3_ mq3_ kq3_ 2 y4_ r_538) (cwV 3 hts (gV_ t_1173 t_1174 t_1175 t_191 t_1176) rfl rfl rfl (by decide +kernel) ⟨(Nat.le_of_ble_eq_true rfl), (Nat.le_of_ble_eq_true rfl)⟩) (pre3V g hK mq3_ kq3_ (by decide) (q := (RX7, TX7, 19)) rfl) rfl rfl hl.1 rfl (lv_room (Nat.le_of_ble_eq_true rfl)) dX2_readMark_174 ⟨(Nat.le_of_ble_eq_true rfl), (Nat.le_of_ble_eq_true rfl)⟩) g hK (by decide) (by decide) (fx' := [(6, 12, q5_, .int y_510), (8, 6, q0_, .int 1201), (8, 8, q0_, .int x_410), (2, 0, a0_, .ref q0_), (2, 1, a0_, .ref q1_), (2, 2, a0_, .ref q2_), (2, 3, a0_, .ref q3_), (2, 4, a0_, .ref q4_), (2, 5, a0_, .ref q5_), (0, 0, q2_, .ref q0_), (0, 1, q2_, .ref q1_), (5, 0, q1_, .ref q8_), (5, 1, q1_, .ref q9_), (9, 8, q4_, .int y1_), (7, 3, q3_, .int y2_), (5, 2, q1_, .int y4_), (7, 1, q3_, .int y5_)]) rfl (fun r_540 fr_540 H locs hp hMr_540 g => ?_)
          obtain ⟨h_541, x_542, h_543, hF_544⟩ := hp
          have hG_545 := eOK.frame hMr_540 go_.2.2.2.1 mq2_ kq2_ (by decide) (by decide) hG_539
          have g := g.more hF_544
          refine lv_pop hx hb dX2_readMark_177 rfl ?_
          refine lv_aload_n hx hb dX2_readMark_178 rfl (lv_at hl 2 rfl) ?_
          refine lv_iconst (v := 1) hx hb dX2_readMark_179 (by decide) ?_
          have go_ := g
          refine g_callv (va_runV (As := [.int 1]) (rest := []) ⟨hx, hb, hml, hown, hts⟩ (r_X2_readAsked_12 l dC dI L kd tys fr_540 H.size g.2.2.2.1 a0_ ma0_ ka0_ 1 kb_1 q0_ mq0_ kq0_ q1_ mq1_ kq1_ q2_ mq2_ kq2_ q3_ mq3_ kq3_ q8_ mq8_ kq8_ q9_ mq9_ kq9_ x_542 h_543 1201 kb_1201 x_410 h_411 y2_ by2_ y4_ by4_ y5_ by5_ hG_545 (g.fcts [4, 5, 6, 7, 10, 11, 12, 13, 0, 2, 3, 15, 16, 17] rfl)) (cwV 1 hts (gV_ t_1178 t_1180 t_13 t_183 t_1181) rfl rfl rfl (by decide +kernel) ⟨(Nat.le_of_ble_eq_true rfl), (Nat.le_of_ble_eq_true rfl)⟩) (pre3V g hK ma0_ ka0_ (by decide) (q := (RX2, TX2, 16)) rfl) rfl rfl hl.1 rfl (lv_room (Nat.le_of_ble_eq_true rfl)) dX2_readMark_180 ⟨(Nat.le_of_ble_eq_true rfl), (Nat.le_of_ble_eq_true rfl)⟩) g hK (by decide) (by decide) (fx' := [(7, 13, q3_, .int x_542), (6, 12, q5_, .int y_510), (8, 6, q0_, .int 1201), (8, 8, q0_, .int x_410), (2, 0, a0_, .ref q0_), (2, 1, a0_, .ref q1_), (2, 2, a0_, .ref q2_), (2, 3, a0_, .ref q3_), (2, 4, a0_, .ref q4_), (2, 5, a0_, .ref q5_), (0, 0, q2_, .ref q0_), (0, 1, q2_, .ref q1_), (5, 0, q1_, .ref q8_), (5, 1, q1_, .ref q9_), (9, 8, q4_, .int y1_), (7, 3, q3_, .int y2_), (5, 2, q1_, .int y4_), (7, 1, q3_, .int y5_)]) rfl (fun fr_546 H locs hp hMr_546 g => ?_)
          obtain ⟨x_547, h_548, hF_549⟩ := hp
          have hG_550 := eOK.frame hMr_546 go_.2.2.2.1 mq2_ kq2_ (by decide) (by decide) hG_545
          have g := g.more hF_549
          refine lv_goto (tgt := 234) hx hb dX2_readMark_183 (by decide) ?_
          refine lv_aload_n hx hb dX2_readMark_234 rfl (lv_at hl 2 rfl) ?_
          refine g_getk (C := RX2) (T := TX2) (N := 16) hx hb hts (mc_ inX2) hown hK g rfl 0 (by decide) rfl (hts _ (List.mem_cons_of_mem _ t_416)) (fun _ h9 => h9) 13 rfl dX2_readMark_235 ?_
          refine lv_bipush (v := 59) hx hb dX2_readMark_238 (by decide) ?_
          have go_ := g
          refine g_callv (va_runV (As := [.int 59]) (rest := []) ⟨hx, hb, hml, hown, hts⟩ (r_X8_take_2 l dC dI L kd tys fr_546 H.size g.2.2.2.1 q0_ mq0_ kq0_ 59 1201 kb_1201 x_410 h_411 (g.fcts [11, 12] rfl)) (cwV 1 hts (gV_ t_1098 t_1099 t_1100 t_184 t_1101) rfl rfl rfl (by decide +kernel) ⟨(Nat.le_of_ble_eq_true rfl), (Nat.le_of_ble_eq_true rfl)⟩) (pre3V g hK mq0_ kq0_ (by decide) (q := (RX8, TX8, 10)) rfl) rfl rfl hl.1 rfl (lv_room (Nat.le_of_ble_eq_true rfl)) dX2_readMark_240 ⟨(Nat.le_of_ble_eq_true rfl), (Nat.le_of_ble_eq_true rfl)⟩) g hK (by decide) (by decide) (fx' := [(7, 6, q3_, .int x_547), (5, 8, q1_, .int 0), (5, 7, q1_, .int 0), (0, 13, q2_, .int 0), (0, 12, q2_, .int 1), (0, 11, q2_, .int 0), (0, 10, q2_, .int 0), (0, 8, q2_, .int 0), (0, 2, q2_, .ref q8_), (7, 13, q3_, .int x_542), (6, 12, q5_, .int y_510), (8, 8, q0_, .int x_410), (2, 0, a0_, .ref q0_), (2, 1, a0_, .ref q1_), (2, 2, a0_, .ref q2_), (2, 3, a0_, .ref q3_), (2, 4, a0_, .ref q4_), (2, 5, a0_, .ref q5_), (0, 0, q2_, .ref q0_), (0, 1, q2_, .ref q1_), (5, 0, q1_, .ref q8_), (5, 1, q1_, .ref q9_), (9, 8, q4_, .int y1_), (7, 3, q3_, .int y2_), (5, 2, q1_, .int y4_), (7, 1, q3_, .int y5_)]) rfl (fun fr_551 H locs hp hMr_551 g => ?_)
          obtain ⟨x_552, h_553, hF_554⟩ := hp
          have hG_555 := eOK.frame hMr_551 go_.2.2.2.1 mq2_ kq2_ (by decide) (by decide) hG_550
          have g := g.more hF_554
          subst hQ
          exact W.vret hx hb hr (fun t ht hW => ⟨⟨_, rfl, Or.inr (⟨hG_555, x_552, h_553, x_410, h_411, x_542, h_543, y_510, (bd_sub b_511 (by decide)), (g.fcts [0, 12, 10, 11] rfl)⟩), q3_of g hK ht hW⟩, g.2.2.1.F ht⟩) g.2.2.1.2.2 dX2_readMark_243
        by_cases e_556 : r_1 = 18
        · refine lv_topi (fun z_557 ez_557 => ?_)
          obtain rfl : z_557 = 18 := ez_557.trans e_556
          have kb_18 : bd 18 18 (18 : Int32) := ⟨by decide, by decide⟩
          have b_558 : bd 18 18 r_1 := eqX (eq_f e_556) (bdT r_1) kb_18 (by decide)
          refine lv_tableIn (off := 95) (tgt := 186) hx hb dX2_readMark_91 (by decide) (by decide) rfl (by decide) ?_
          refine lv_aload_n hx hb dX2_readMark_186 rfl (lv_at hl 2 rfl) ?_
          have go_ := g
          refine g_calli (va_runV (As := []) (rest := []) ⟨hx, hb, hml, hown, hts⟩ (r_X2_readThrownWord_2 l dC dI L kd tys f H.size g.2.2.2.1 a0_ ma0_ ka0_ q0_ mq0_ kq0_ q3_ mq3_ kq3_ 1201 kb_1201 x_410 h_411 (g.fcts [3, 6, 1, 2] rfl)) (cwV 0 hts (gV_ t_1326 t_1328 t_37 t_183 t_1329) rfl rfl rfl (by decide +kernel) ⟨(Nat.le_of_ble_eq_true rfl), (Nat.le_of_ble_eq_true rfl)⟩) (pre3V g hK ma0_ ka0_ (by decide) (q := (RX2, TX2, 16)) rfl) rfl rfl hl.1 rfl (lv_room (Nat.le_of_ble_eq_true rfl)) dX2_readMark_187 ⟨(Nat.le_of_ble_eq_true rfl), (Nat.le_of_ble_eq_true rfl)⟩) g hK (by decide) (by decide) (fx' := [(6, 12, q5_, .int y_510), (8, 8, q0_, .int x_410), (2, 0, a0_, .ref q0_), (2, 1, a0_, .ref q1_), (2, 2, a0_, .ref q2_), (2, 3, a0_, .ref q3_), (2, 4, a0_, .ref q4_), (2, 5, a0_, .ref q5_), (0, 0, q2_, .ref q0_), (0, 1, q2_, .ref q1_), (5, 0, q1_, .ref q8_), (5, 1, q1_, .ref q9_), (9, 8, q4_, .int y1_), (7, 3, q3_, .int y2_), (5, 2, q1_, .int y4_), (7, 1, q3_, .int y5_)]) rfl (fun r_559 fr_559 H locs hp hMr_559 g => ?_)
          obtain ⟨h_560, x_561, h_562, x_563, h_564, hF_565⟩ := hp
          have hG_566 := eOK.frame hMr_559 go_.2.2.2.1 mq2_ kq2_ (by decide) (by decide) hG_513
          obtain rfl : r_559 = 0 := h_560
          have g := g.more hF_565
          refine lv_if_eq (tgt := 234) hx hb dX2_readMark_190 (by decide) (fun c_ => ?_) (fun c_ => absurd (by decide) c_)
          refine lv_aload_n hx hb dX2_readMark_234 rfl (lv_at hl 2 rfl) ?_
          refine g_getk (C := RX2) (T := TX2) (N := 16) hx hb hts (mc_ inX2) hown hK g rfl 0 (by decide) rfl (hts _ (List.mem_cons_of_mem _ t_416)) (fun _ h9 => h9) 4 rfl dX2_readMark_235 ?_
          refine lv_bipush (v := 59) hx hb dX2_readMark_238 (by decide) ?_
          have go_ := g
          refine g_callv (va_runV (As := [.int 59]) (rest := []) ⟨hx, hb, hml, hown, hts⟩ (r_X8_take_2 l dC dI L kd tys fr_559 H.size g.2.2.2.1 q0_ mq0_ kq0_ 59 x_561 h_562 x_410 h_411 (g.fcts [0, 3] rfl)) (cwV 1 hts (gV_ t_1098 t_1099 t_1100 t_184 t_1101) rfl rfl rfl (by decide +kernel) ⟨(Nat.le_of_ble_eq_true rfl), (Nat.le_of_ble_eq_true rfl)⟩) (pre3V g hK mq0_ kq0_ (by decide) (q := (RX8, TX8, 10)) rfl) rfl rfl hl.1 rfl (lv_room (Nat.le_of_ble_eq_true rfl)) dX2_readMark_240 ⟨(Nat.le_of_ble_eq_true rfl), (Nat.le_of_ble_eq_true rfl)⟩) g hK (by decide) (by decide) (fx' := [(7, 13, q3_, .int x_563), (6, 12, q5_, .int y_510), (8, 8, q0_, .int x_410), (2, 0, a0_, .ref q0_), (2, 1, a0_, .ref q1_), (2, 2, a0_, .ref q2_), (2, 3, a0_, .ref q3_), (2, 4, a0_, .ref q4_), (2, 5, a0_, .ref q5_), (0, 0, q2_, .ref q0_), (0, 1, q2_, .ref q1_), (5, 0, q1_, .ref q8_), (5, 1, q1_, .ref q9_), (9, 8, q4_, .int y1_), (7, 3, q3_, .int y2_), (5, 2, q1_, .int y4_), (7, 1, q3_, .int y5_)]) rfl (fun fr_567 H locs hp hMr_567 g => ?_)
          obtain ⟨x_568, h_569, hF_570⟩ := hp
          have hG_571 := eOK.frame hMr_567 go_.2.2.2.1 mq2_ kq2_ (by decide) (by decide) hG_566
          have g := g.more hF_570
          subst hQ
          exact W.vret hx hb hr (fun t ht hW => ⟨⟨_, rfl, Or.inr (⟨hG_571, x_568, h_569, x_410, h_411, x_563, h_564, y_510, (bd_sub b_511 (by decide)), (g.fcts [0, 3, 1, 2] rfl)⟩), q3_of g hK ht hW⟩, g.2.2.1.F ht⟩) g.2.2.1.2.2 dX2_readMark_243
        by_cases e_572 : r_1 = 19
        · refine lv_topi (fun z_573 ez_573 => ?_)
          obtain rfl : z_573 = 19 := ez_573.trans e_572
          have kb_19 : bd 19 19 (19 : Int32) := ⟨by decide, by decide⟩
          have b_574 : bd 19 19 r_1 := eqX (eq_f e_572) (bdT r_1) kb_19 (by decide)
          refine lv_tableIn (off := 117) (tgt := 208) hx hb dX2_readMark_91 (by decide) (by decide) rfl (by decide) ?_
          refine lv_aload_n hx hb dX2_readMark_208 rfl (lv_at hl 2 rfl) ?_
          refine g_getk (C := RX2) (T := TX2) (N := 16) hx hb hts (mc_ inX2) hown hK g rfl 3 (by decide) rfl (hts _ (List.mem_cons_of_mem _ t_419)) (fun _ h9 => h9) 6 rfl dX2_readMark_209 ?_
          refine lv_bipush (v := 6) hx hb dX2_readMark_212 (by decide) ?_
          refine lv_aload_n hx hb dX2_readMark_214 rfl (lv_at hl 2 rfl) ?_
          refine g_getk (C := RX2) (T := TX2) (N := 16) hx hb hts (mc_ inX2) hown hK g rfl 1 (by decide) rfl (hts _ (List.mem_cons_of_mem _ t_417)) (fun _ h9 => h9) 4 rfl dX2_readMark_215 ?_
          refine g_getk (C := RX5) (T := TX5) (N := 9) hx hb hts (mc_ inX5) hown hK g rfl 2 (by decide) rfl (hts _ (List.mem_cons_of_mem _ t_333)) (fun _ h9 => h9) 15 rfl dX2_readMark_218 ?_
          refine lv_iload_n hx hb dX2_readMark_221 rfl (lv_at hl 0 rfl) ?_
          have go_ := g
          refine g_calli (va_runV (As := [.int 6, .int y4_, .int r_3]) (rest := []) ⟨hx, hb, hml, hown, hts⟩ (r_X7_addMark l dC dI L kd tys f H.size g.2.2.2.1 q3_ mq3_ kq3_ 6 y4_ r_3) (cwV 3 hts (gV_ t_1173 t_1174 t_1175 t_191 t_1176) rfl rfl rfl (by decide +kernel) ⟨(Nat.le_of_ble_eq_true rfl), (Nat.le_of_ble_eq_true rfl)⟩) (pre3V g hK mq3_ kq3_ (by decide) (q := (RX7, TX7, 19)) rfl) rfl rfl hl.1 rfl (lv_room (Nat.le_of_ble_eq_true rfl)) dX2_readMark_222 ⟨(Nat.le_of_ble_eq_true rfl), (Nat.le_of_ble_eq_true rfl)⟩) g hK (by decide) (by decide) (fx' := [(6, 12, q5_, .int y_510), (8, 6, q0_, .int 1201), (8, 8, q0_, .int x_410), (2, 0, a0_, .ref q0_), (2, 1, a0_, .ref q1_), (2, 2, a0_, .ref q2_), (2, 3, a0_, .ref q3_), (2, 4, a0_, .ref q4_), (2, 5, a0_, .ref q5_), (0, 0, q2_, .ref q0_), (0, 1, q2_, .ref q1_), (5, 0, q1_, .ref q8_), (5, 1, q1_, .ref q9_), (9, 8, q4_, .int y1_), (7, 3, q3_, .int y2_), (5, 2, q1_, .int y4_), (7, 1, q3_, .int y5_)]) rfl (fun r_575 fr_575 H locs hp hMr_575 g => ?_)
          obtain ⟨h_576, x_577, h_578, hF_579⟩ := hp
          have hG_580 := eOK.frame hMr_575 go_.2.2.2.1 mq2_ kq2_ (by decide) (by decide) hG_513
          have g := g.more hF_579
          refine lv_pop hx hb dX2_readMark_225 rfl ?_
          refine lv_aload_n hx hb dX2_readMark_226 rfl (lv_at hl 2 rfl) ?_
          refine g_getk (C := RX2) (T := TX2) (N := 16) hx hb hts (mc_ inX2) hown hK g rfl 5 (by decide) rfl (hts _ (List.mem_cons_of_mem _ t_421)) (fun _ h9 => h9) 9 rfl dX2_readMark_227 ?_
          refine lv_iconst (v := 1) hx hb dX2_readMark_230 (by decide) ?_
          have go_ := g
          refine g_put (C := RX6) (T := TX6) (N := 13) hx hb hts (mc_ inX6) tyX6 tyX6_ok nmX6 hown hK g mq5_ kq5_ (by decide) rfl 6 (by decide) (hts _ (List.mem_cons_of_mem _ t_578)) (fun _ h9 => h9) rfl rfl (okV_i (bd_sub kb_1 (by decide))) rfl rfl (by decide) (Or.inr (Or.inl (by decide))) (fx' := [(7, 13, q3_, .int x_577), (6, 12, q5_, .int y_510), (8, 6, q0_, .int 1201), (8, 8, q0_, .int x_410), (2, 0, a0_, .ref q0_), (2, 1, a0_, .ref q1_), (2, 2, a0_, .ref q2_), (2, 3, a0_, .ref q3_), (2, 4, a0_, .ref q4_), (2, 5, a0_, .ref q5_), (0, 0, q2_, .ref q0_), (0, 1, q2_, .ref q1_), (5, 0, q1_, .ref q8_), (5, 1, q1_, .ref q9_), (9, 8, q4_, .int y1_), (7, 3, q3_, .int y2_), (5, 2, q1_, .int y4_), (7, 1, q3_, .int y5_)]) rfl dX2_readMark_231 (fun f H locs hM_581 g => ?_)
          have hG_582 := eOK.frame hM_581 go_.2.2.2.1 mq2_ kq2_ (by decide) (by decide) hG_580
          refine lv_aload_n hx hb dX2_readMark_234 rfl (lv_at hl 2 rfl) ?_
          refine g_getk (C := RX2) (T := TX2) (N := 16) hx hb hts (mc_ inX2) hown hK g rfl 0 (by decide) rfl (hts _ (List.mem_cons_of_mem _ t_416)) (fun _ h9 => h9) 5 rfl dX2_readMark_235 ?_
          refine lv_bipush (v := 59) hx hb dX2_readMark_238 (by decide) ?_
          have go_ := g
          refine g_callv (va_runV (As := [.int 59]) (rest := []) ⟨hx, hb, hml, hown, hts⟩ (r_X8_take_2 l dC dI L kd tys f H.size g.2.2.2.1 q0_ mq0_ kq0_ 59 1201 kb_1201 x_410 h_411 (g.fcts [3, 4] rfl)) (cwV 1 hts (gV_ t_1098 t_1099 t_1100 t_184 t_1101) rfl rfl rfl (by decide +kernel) ⟨(Nat.le_of_ble_eq_true rfl), (Nat.le_of_ble_eq_true rfl)⟩) (pre3V g hK mq0_ kq0_ (by decide) (q := (RX8, TX8, 10)) rfl) rfl rfl hl.1 rfl (lv_room (Nat.le_of_ble_eq_true rfl)) dX2_readMark_240 ⟨(Nat.le_of_ble_eq_true rfl), (Nat.le_of_ble_eq_true rfl)⟩) g hK (by decide) (by decide) (fx' := [(6, 6, q5_, .int 1), (7, 13, q3_, .int x_577), (6, 12, q5_, .int y_510), (8, 8, q0_, .int x_410), (2, 0, a0_, .ref q0_), (2, 1, a0_, .ref q1_), (2, 2, a0_, .ref q2_), (2, 3, a0_, .ref q3_), (2, 4, a0_, .ref q4_), (2, 5, a0_, .ref q5_), (0, 0, q2_, .ref q0_), (0, 1, q2_, .ref q1_), (5, 0, q1_, .ref q8_), (5, 1, q1_, .ref q9_), (9, 8, q4_, .int y1_), (7, 3, q3_, .int y2_), (5, 2, q1_, .int y4_), (7, 1, q3_, .int y5_)]) rfl (fun fr_583 H locs hp hMr_583 g => ?_)
          obtain ⟨x_584, h_585, hF_586⟩ := hp
          have hG_587 := eOK.frame hMr_583 go_.2.2.2.1 mq2_ kq2_ (by decide) (by decide) hG_582
          have g := g.more hF_586
          subst hQ
          exact W.vret hx hb hr (fun t ht hW => ⟨⟨_, rfl, Or.inr (⟨hG_587, x_584, h_585, x_410, h_411, x_577, h_578, y_510, (bd_sub b_511 (by decide)), (g.fcts [0, 4, 2, 3] rfl)⟩), q3_of g hK ht hW⟩, g.2.2.1.F ht⟩) g.2.2.1.2.2 dX2_readMark_243
        by_cases e_588 : r_1 = 20
        · refine lv_topi (fun z_589 ez_589 => ?_)
          obtain rfl : z_589 = 20 := ez_589.trans e_588
          have b_590 : bd 20 20 r_1 := eqX (eq_f e_588) (bdT r_1) kb_20 (by decide)
          refine lv_tableIn (off := 110) (tgt := 201) hx hb dX2_readMark_91 (by decide) (by decide) rfl (by decide) ?_
          refine lv_aload_n hx hb dX2_readMark_201 rfl (lv_at hl 2 rfl) ?_
          have go_ := g
          refine g_callv (va_runV (As := []) (rest := []) ⟨hx, hb, hml, hown, hts⟩ (r_X2_readOnly_2 l dC dI L kd tys f H.size g.2.2.2.1 a0_ ma0_ ka0_ q0_ mq0_ kq0_ q3_ mq3_ kq3_ q4_ mq4_ kq4_ 1201 kb_1201 x_410 h_411 (g.fcts [3, 6, 7, 1, 2] rfl)) (cwV 0 hts (gV_ t_1330 t_1332 t_38 t_183 t_1333) rfl rfl rfl (by decide +kernel) ⟨(Nat.le_of_ble_eq_true rfl), (Nat.le_of_ble_eq_true rfl)⟩) (pre3V g hK ma0_ ka0_ (by decide) (q := (RX2, TX2, 16)) rfl) rfl rfl hl.1 rfl (lv_room (Nat.le_of_ble_eq_true rfl)) dX2_readMark_202 ⟨(Nat.le_of_ble_eq_true rfl), (Nat.le_of_ble_eq_true rfl)⟩) g hK (by decide) (by decide) (fx' := [(6, 12, q5_, .int y_510), (8, 8, q0_, .int x_410), (2, 0, a0_, .ref q0_), (2, 1, a0_, .ref q1_), (2, 2, a0_, .ref q2_), (2, 3, a0_, .ref q3_), (2, 4, a0_, .ref q4_), (2, 5, a0_, .ref q5_), (0, 0, q2_, .ref q0_), (0, 1, q2_, .ref q1_), (5, 0, q1_, .ref q8_), (5, 1, q1_, .ref q9_), (9, 8, q4_, .int y1_), (7, 3, q3_, .int y2_), (5, 2, q1_, .int y4_), (7, 1, q3_, .int y5_)]) rfl (fun fr_591 H locs hp hMr_591 g => ?_)
          obtain ⟨x_592, h_593, x_594, h_595, hF_596⟩ := hp
          have hG_597 := eOK.frame hMr_591 go_.2.2.2.1 mq2_ kq2_ (by decide) (by decide) hG_513
          have g := g.more hF_596
          refine lv_goto (tgt := 234) hx hb dX2_readMark_205 (by decide) ?_
          refine lv_aload_n hx hb dX2_readMark_234 rfl (lv_at hl 2 rfl) ?_
          refine g_getk (C := RX2) (T := TX2) (N := 16) hx hb hts (mc_ inX2) hown hK g rfl 0 (by decide) rfl (hts _ (List.mem_cons_of_mem _ t_416)) (fun _ h9 => h9) 4 rfl dX2_readMark_235 ?_
          refine lv_bipush (v := 59) hx hb dX2_readMark_238 (by decide) ?_
          have go_ := g
          refine g_callv (va_runV (As := [.int 59]) (rest := []) ⟨hx, hb, hml, hown, hts⟩ (r_X8_take_2 l dC dI L kd tys fr_591 H.size g.2.2.2.1 q0_ mq0_ kq0_ 59 x_594 h_595 x_410 h_411 (g.fcts [1, 3] rfl)) (cwV 1 hts (gV_ t_1098 t_1099 t_1100 t_184 t_1101) rfl rfl rfl (by decide +kernel) ⟨(Nat.le_of_ble_eq_true rfl), (Nat.le_of_ble_eq_true rfl)⟩) (pre3V g hK mq0_ kq0_ (by decide) (q := (RX8, TX8, 10)) rfl) rfl rfl hl.1 rfl (lv_room (Nat.le_of_ble_eq_true rfl)) dX2_readMark_240 ⟨(Nat.le_of_ble_eq_true rfl), (Nat.le_of_ble_eq_true rfl)⟩) g hK (by decide) (by decide) (fx' := [(7, 13, q3_, .int x_592), (6, 12, q5_, .int y_510), (8, 8, q0_, .int x_410), (2, 0, a0_, .ref q0_), (2, 1, a0_, .ref q1_), (2, 2, a0_, .ref q2_), (2, 3, a0_, .ref q3_), (2, 4, a0_, .ref q4_), (2, 5, a0_, .ref q5_), (0, 0, q2_, .ref q0_), (0, 1, q2_, .ref q1_), (5, 0, q1_, .ref q8_), (5, 1, q1_, .ref q9_), (9, 8, q4_, .int y1_), (7, 3, q3_, .int y2_), (5, 2, q1_, .int y4_), (7, 1, q3_, .int y5_)]) rfl (fun fr_598 H locs hp hMr_598 g => ?_)
          obtain ⟨x_599, h_600, hF_601⟩ := hp
          have hG_602 := eOK.frame hMr_598 go_.2.2.2.1 mq2_ kq2_ (by decide) (by decide) hG_597
          have g := g.more hF_601
          subst hQ
          exact W.vret hx hb hr (fun t ht hW => ⟨⟨_, rfl, Or.inr (⟨hG_602, x_599, h_600, x_410, h_411, x_592, h_593, y_510, (bd_sub b_511 (by decide)), (g.fcts [0, 3, 1, 2] rfl)⟩), q3_of g hK ht hW⟩, g.2.2.1.F ht⟩) g.2.2.1.2.2 dX2_readMark_243
        refine lv_tableOut (tgt := 208) hx hb dX2_readMark_91 (by have a0 : r_1.toInt ≠ 16 := fun h => e_514 (Int32.toInt_inj.mp (h.trans (by decide))); have a1 : r_1.toInt ≠ 17 := fun h => e_535 (Int32.toInt_inj.mp (h.trans (by decide))); have a2 : r_1.toInt ≠ 18 := fun h => e_556 (Int32.toInt_inj.mp (h.trans (by decide))); have a3 : r_1.toInt ≠ 19 := fun h => e_572 (Int32.toInt_inj.mp (h.trans (by decide))); have a4 : r_1.toInt ≠ 20 := fun h => e_588 (Int32.toInt_inj.mp (h.trans (by decide))); omega) (by decide) ?_
        refine lv_aload_n hx hb dX2_readMark_208 rfl (lv_at hl 2 rfl) ?_
        refine g_getk (C := RX2) (T := TX2) (N := 16) hx hb hts (mc_ inX2) hown hK g rfl 3 (by decide) rfl (hts _ (List.mem_cons_of_mem _ t_419)) (fun _ h9 => h9) 6 rfl dX2_readMark_209 ?_
        refine lv_bipush (v := 6) hx hb dX2_readMark_212 (by decide) ?_
        refine lv_aload_n hx hb dX2_readMark_214 rfl (lv_at hl 2 rfl) ?_
        refine g_getk (C := RX2) (T := TX2) (N := 16) hx hb hts (mc_ inX2) hown hK g rfl 1 (by decide) rfl (hts _ (List.mem_cons_of_mem _ t_417)) (fun _ h9 => h9) 4 rfl dX2_readMark_215 ?_
        refine g_getk (C := RX5) (T := TX5) (N := 9) hx hb hts (mc_ inX5) hown hK g rfl 2 (by decide) rfl (hts _ (List.mem_cons_of_mem _ t_333)) (fun _ h9 => h9) 15 rfl dX2_readMark_218 ?_
        refine lv_iload_n hx hb dX2_readMark_221 rfl (lv_at hl 0 rfl) ?_
        have go_ := g
        refine g_calli (va_runV (As := [.int 6, .int y4_, .int r_3]) (rest := []) ⟨hx, hb, hml, hown, hts⟩ (r_X7_addMark l dC dI L kd tys f H.size g.2.2.2.1 q3_ mq3_ kq3_ 6 y4_ r_3) (cwV 3 hts (gV_ t_1173 t_1174 t_1175 t_191 t_1176) rfl rfl rfl (by decide +kernel) ⟨(Nat.le_of_ble_eq_true rfl), (Nat.le_of_ble_eq_true rfl)⟩) (pre3V g hK mq3_ kq3_ (by decide) (q := (RX7, TX7, 19)) rfl) rfl rfl hl.1 rfl (lv_room (Nat.le_of_ble_eq_true rfl)) dX2_readMark_222 ⟨(Nat.le_of_ble_eq_true rfl), (Nat.le_of_ble_eq_true rfl)⟩) g hK (by decide) (by decide) (fx' := [(6, 12, q5_, .int y_510), (8, 6, q0_, .int 1201), (8, 8, q0_, .int x_410), (2, 0, a0_, .ref q0_), (2, 1, a0_, .ref q1_), (2, 2, a0_, .ref q2_), (2, 3, a0_, .ref q3_), (2, 4, a0_, .ref q4_), (2, 5, a0_, .ref q5_), (0, 0, q2_, .ref q0_), (0, 1, q2_, .ref q1_), (5, 0, q1_, .ref q8_), (5, 1, q1_, .ref q9_), (9, 8, q4_, .int y1_), (7, 3, q3_, .int y2_), (5, 2, q1_, .int y4_), (7, 1, q3_, .int y5_)]) rfl (fun r_603 fr_603 H locs hp hMr_603 g => ?_)
        obtain ⟨h_604, x_605, h_606, hF_607⟩ := hp
        have hG_608 := eOK.frame hMr_603 go_.2.2.2.1 mq2_ kq2_ (by decide) (by decide) hG_513
        have g := g.more hF_607
        refine lv_pop hx hb dX2_readMark_225 rfl ?_
        refine lv_aload_n hx hb dX2_readMark_226 rfl (lv_at hl 2 rfl) ?_
        refine g_getk (C := RX2) (T := TX2) (N := 16) hx hb hts (mc_ inX2) hown hK g rfl 5 (by decide) rfl (hts _ (List.mem_cons_of_mem _ t_421)) (fun _ h9 => h9) 9 rfl dX2_readMark_227 ?_
        refine lv_iconst (v := 1) hx hb dX2_readMark_230 (by decide) ?_
        have go_ := g
        refine g_put (C := RX6) (T := TX6) (N := 13) hx hb hts (mc_ inX6) tyX6 tyX6_ok nmX6 hown hK g mq5_ kq5_ (by decide) rfl 6 (by decide) (hts _ (List.mem_cons_of_mem _ t_578)) (fun _ h9 => h9) rfl rfl (okV_i (bd_sub kb_1 (by decide))) rfl rfl (by decide) (Or.inr (Or.inl (by decide))) (fx' := [(7, 13, q3_, .int x_605), (6, 12, q5_, .int y_510), (8, 6, q0_, .int 1201), (8, 8, q0_, .int x_410), (2, 0, a0_, .ref q0_), (2, 1, a0_, .ref q1_), (2, 2, a0_, .ref q2_), (2, 3, a0_, .ref q3_), (2, 4, a0_, .ref q4_), (2, 5, a0_, .ref q5_), (0, 0, q2_, .ref q0_), (0, 1, q2_, .ref q1_), (5, 0, q1_, .ref q8_), (5, 1, q1_, .ref q9_), (9, 8, q4_, .int y1_), (7, 3, q3_, .int y2_), (5, 2, q1_, .int y4_), (7, 1, q3_, .int y5_)]) rfl dX2_readMark_231 (fun f H locs hM_609 g => ?_)
        have hG_610 := eOK.frame hM_609 go_.2.2.2.1 mq2_ kq2_ (by decide) (by decide) hG_608
        refine lv_aload_n hx hb dX2_readMark_234 rfl (lv_at hl 2 rfl) ?_
        refine g_getk (C := RX2) (T := TX2) (N := 16) hx hb hts (mc_ inX2) hown hK g rfl 0 (by decide) rfl (hts _ (List.mem_cons_of_mem _ t_416)) (fun _ h9 => h9) 5 rfl dX2_readMark_235 ?_
        refine lv_bipush (v := 59) hx hb dX2_readMark_238 (by decide) ?_
        have go_ := g
        refine g_callv (va_runV (As := [.int 59]) (rest := []) ⟨hx, hb, hml, hown, hts⟩ (r_X8_take_2 l dC dI L kd tys f H.size g.2.2.2.1 q0_ mq0_ kq0_ 59 1201 kb_1201 x_410 h_411 (g.fcts [3, 4] rfl)) (cwV 1 hts (gV_ t_1098 t_1099 t_1100 t_184 t_1101) rfl rfl rfl (by decide +kernel) ⟨(Nat.le_of_ble_eq_true rfl), (Nat.le_of_ble_eq_true rfl)⟩) (pre3V g hK mq0_ kq0_ (by decide) (q := (RX8, TX8, 10)) rfl) rfl rfl hl.1 rfl (lv_room (Nat.le_of_ble_eq_true rfl)) dX2_readMark_240 ⟨(Nat.le_of_ble_eq_true rfl), (Nat.le_of_ble_eq_true rfl)⟩) g hK (by decide) (by decide) (fx' := [(6, 6, q5_, .int 1), (7, 13, q3_, .int x_605), (6, 12, q5_, .int y_510), (8, 8, q0_, .int x_410), (2, 0, a0_, .ref q0_), (2, 1, a0_, .ref q1_), (2, 2, a0_, .ref q2_), (2, 3, a0_, .ref q3_), (2, 4, a0_, .ref q4_), (2, 5, a0_, .ref q5_), (0, 0, q2_, .ref q0_), (0, 1, q2_, .ref q1_), (5, 0, q1_, .ref q8_), (5, 1, q1_, .ref q9_), (9, 8, q4_, .int y1_), (7, 3, q3_, .int y2_), (5, 2, q1_, .int y4_), (7, 1, q3_, .int y5_)]) rfl (fun fr_611 H locs hp hMr_611 g => ?_)
        obtain ⟨x_612, h_613, hF_614⟩ := hp
        have hG_615 := eOK.frame hMr_611 go_.2.2.2.1 mq2_ kq2_ (by decide) (by decide) hG_610
        have g := g.more hF_614
        subst hQ
        exact W.vret hx hb hr (fun t ht hW => ⟨⟨_, rfl, Or.inr (⟨hG_615, x_612, h_613, x_410, h_411, x_605, h_606, y_510, (bd_sub b_511 (by decide)), (g.fcts [0, 4, 2, 3] rfl)⟩), q3_of g hK ht hW⟩, g.2.2.1.F ht⟩) g.2.2.1.2.2 dX2_readMark_243
      · have fc_509 := eq_f c_509
        have b_616 : bd 21 21 r_1 := eqX fc_509 (bdT r_1) kb_21 (by decide)
        refine lv_aload_n hx hb dX2_readMark_56 rfl (lv_at hl 2 rfl) ?_
        refine g_geti (C := RX2) (T := TX2) (N := 16) hx hb hts (mc_ inX2) hown hK g ma0_ ka0_ (by decide) rfl 6 (by decide) rfl (hts _ (List.mem_cons_of_mem _ t_422)) (fun _ h9 => h9) rfl dX2_readMark_57 (fun x_617 bx_617 g => ?_)
        have kb_0 : bd 0 0 (0 : Int32) := ⟨by decide, by decide⟩
        refine lv_if_eq (tgt := 72) hx hb dX2_readMark_60 (by decide) (fun c_618 => ?_) (fun c_618 => ?_)
        · have fc_618 := eq_f c_618
          have b_619 : bd 0 0 x_617 := eqX fc_618 bx_617 kb_0 (by decide)
          refine lv_aload_n hx hb dX2_readMark_72 rfl (lv_at hl 2 rfl) ?_
          refine lv_iconst (v := 1) hx hb dX2_readMark_73 (by decide) ?_
          have kb_1 : bd 1 1 (1 : Int32) := ⟨by decide, by decide⟩
          have go_ := g
          refine g_put (C := RX2) (T := TX2) (N := 16) hx hb hts (mc_ inX2) tyX2 tyX2_ok nmX2 hown hK g ma0_ ka0_ (by decide) rfl 6 (by decide) (hts _ (List.mem_cons_of_mem _ t_422)) (fun _ h9 => h9) rfl rfl (okV_i (bd_sub kb_1 (by decide))) rfl rfl (by decide) (Or.inr (Or.inl (by decide))) (fx' := [(8, 6, q0_, .int 1201), (8, 8, q0_, .int x_410), (2, 0, a0_, .ref q0_), (2, 1, a0_, .ref q1_), (2, 2, a0_, .ref q2_), (2, 3, a0_, .ref q3_), (2, 4, a0_, .ref q4_), (2, 5, a0_, .ref q5_), (0, 0, q2_, .ref q0_), (0, 1, q2_, .ref q1_), (5, 0, q1_, .ref q8_), (5, 1, q1_, .ref q9_), (9, 8, q4_, .int y1_), (7, 3, q3_, .int y2_), (6, 12, q5_, .int y3_), (5, 2, q1_, .int y4_), (7, 1, q3_, .int y5_)]) rfl dX2_readMark_74 (fun f H locs hM_620 g => ?_)
          have hG_621 := eOK.frame hM_620 go_.2.2.2.1 mq2_ kq2_ (by decide) (by decide) hG_415
          refine lv_aload_n hx hb dX2_readMark_77 rfl (lv_at hl 2 rfl) ?_
          refine g_getk (C := RX2) (T := TX2) (N := 16) hx hb hts (mc_ inX2) hown hK g rfl 5 (by decide) rfl (hts _ (List.mem_cons_of_mem _ t_421)) (fun _ h9 => h9) 8 rfl dX2_readMark_78 ?_
          refine lv_dup hx hb dX2_readMark_81 rfl ?_
          refine g_getk (C := RX6) (T := TX6) (N := 13) hx hb hts (mc_ inX6) hown hK g rfl 12 (by decide) rfl (hts _ (List.mem_cons_of_mem _ t_591)) (fun _ h9 => h9) 15 rfl dX2_readMark_82 ?_
          refine lv_iconst (v := 1) hx hb dX2_readMark_85 (by decide) ?_
          refine lv_iadd hx hb dX2_readMark_86 ?_
          refine lv_topi (fun y_622 ey_622 => ?_)
          have ty_622 := add_bd ey_622 b_408 kb_1 (by decide)
          have b_623 : bd 9 9 y_622 := add_rg ty_622 b_408 kb_1 (by decide)
          have go_ := g
          refine g_put (C := RX6) (T := TX6) (N := 13) hx hb hts (mc_ inX6) tyX6 tyX6_ok nmX6 hown hK g mq5_ kq5_ (by decide) rfl 12 (by decide) (hts _ (List.mem_cons_of_mem _ t_591)) (fun _ h9 => h9) rfl rfl (okV_i (bd_sub b_623 (by decide))) rfl rfl (by decide) (Or.inr (Or.inl (by decide))) (fx' := [(2, 6, a0_, .int 1), (8, 6, q0_, .int 1201), (8, 8, q0_, .int x_410), (2, 0, a0_, .ref q0_), (2, 1, a0_, .ref q1_), (2, 2, a0_, .ref q2_), (2, 3, a0_, .ref q3_), (2, 4, a0_, .ref q4_), (2, 5, a0_, .ref q5_), (0, 0, q2_, .ref q0_), (0, 1, q2_, .ref q1_), (5, 0, q1_, .ref q8_), (5, 1, q1_, .ref q9_), (9, 8, q4_, .int y1_), (7, 3, q3_, .int y2_), (5, 2, q1_, .int y4_), (7, 1, q3_, .int y5_)]) rfl dX2_readMark_87 (fun f H locs hM_624 g => ?_)
          have hG_625 := eOK.frame hM_624 go_.2.2.2.1 mq2_ kq2_ (by decide) (by decide) hG_621
          refine lv_iload_n hx hb dX2_readMark_90 rfl (lv_at hl 1 rfl) ?_
          by_cases e_626 : r_1 = 16
          · refine lv_topi (fun z_627 ez_627 => ?_)
            obtain rfl : z_627 = 16 := ez_627.trans e_626
            have kb_16 : bd 16 16 (16 : Int32) := ⟨by decide, by decide⟩
            exact bd_no (eqX (eq_f e_626) b_616 kb_16 (lo := 21) (hi := 16) (by decide)) (by decide)
          by_cases e_628 : r_1 = 17
          · refine lv_topi (fun z_629 ez_629 => ?_)
            obtain rfl : z_629 = 17 := ez_629.trans e_628
            have kb_17 : bd 17 17 (17 : Int32) := ⟨by decide, by decide⟩
            exact bd_no (eqX (eq_f e_628) b_616 kb_17 (lo := 21) (hi := 17) (by decide)) (by decide)
          by_cases e_630 : r_1 = 18
          · refine lv_topi (fun z_631 ez_631 => ?_)
            obtain rfl : z_631 = 18 := ez_631.trans e_630
            have kb_18 : bd 18 18 (18 : Int32) := ⟨by decide, by decide⟩
            exact bd_no (eqX (eq_f e_630) b_616 kb_18 (lo := 21) (hi := 18) (by decide)) (by decide)
          by_cases e_632 : r_1 = 19
          · refine lv_topi (fun z_633 ez_633 => ?_)
            obtain rfl : z_633 = 19 := ez_633.trans e_632
            have kb_19 : bd 19 19 (19 : Int32) := ⟨by decide, by decide⟩
            exact bd_no (eqX (eq_f e_632) b_616 kb_19 (lo := 21) (hi := 19) (by decide)) (by decide)
          by_cases e_634 : r_1 = 20
          · refine lv_topi (fun z_635 ez_635 => ?_)
            obtain rfl : z_635 = 20 := ez_635.trans e_634
            exact bd_no (eqX (eq_f e_634) b_616 kb_20 (lo := 21) (hi := 20) (by decide)) (by decide)
          refine lv_tableOut (tgt := 208) hx hb dX2_readMark_91 (by have a0 : r_1.toInt ≠ 16 := fun h => e_626 (Int32.toInt_inj.mp (h.trans (by decide))); have a1 : r_1.toInt ≠ 17 := fun h => e_628 (Int32.toInt_inj.mp (h.trans (by decide))); have a2 : r_1.toInt ≠ 18 := fun h => e_630 (Int32.toInt_inj.mp (h.trans (by decide))); have a3 : r_1.toInt ≠ 19 := fun h => e_632 (Int32.toInt_inj.mp (h.trans (by decide))); have a4 : r_1.toInt ≠ 20 := fun h => e_634 (Int32.toInt_inj.mp (h.trans (by decide))); omega) (by decide) ?_
          refine lv_aload_n hx hb dX2_readMark_208 rfl (lv_at hl 2 rfl) ?_
          refine g_getk (C := RX2) (T := TX2) (N := 16) hx hb hts (mc_ inX2) hown hK g rfl 3 (by decide) rfl (hts _ (List.mem_cons_of_mem _ t_419)) (fun _ h9 => h9) 7 rfl dX2_readMark_209 ?_
          refine lv_bipush (v := 6) hx hb dX2_readMark_212 (by decide) ?_
          refine lv_aload_n hx hb dX2_readMark_214 rfl (lv_at hl 2 rfl) ?_
          refine g_getk (C := RX2) (T := TX2) (N := 16) hx hb hts (mc_ inX2) hown hK g rfl 1 (by decide) rfl (hts _ (List.mem_cons_of_mem _ t_417)) (fun _ h9 => h9) 5 rfl dX2_readMark_215 ?_
          refine g_getk (C := RX5) (T := TX5) (N := 9) hx hb hts (mc_ inX5) hown hK g rfl 2 (by decide) rfl (hts _ (List.mem_cons_of_mem _ t_333)) (fun _ h9 => h9) 16 rfl dX2_readMark_218 ?_
          refine lv_iload_n hx hb dX2_readMark_221 rfl (lv_at hl 0 rfl) ?_
          have go_ := g
          refine g_calli (va_runV (As := [.int 6, .int y4_, .int r_3]) (rest := []) ⟨hx, hb, hml, hown, hts⟩ (r_X7_addMark l dC dI L kd tys f H.size g.2.2.2.1 q3_ mq3_ kq3_ 6 y4_ r_3) (cwV 3 hts (gV_ t_1173 t_1174 t_1175 t_191 t_1176) rfl rfl rfl (by decide +kernel) ⟨(Nat.le_of_ble_eq_true rfl), (Nat.le_of_ble_eq_true rfl)⟩) (pre3V g hK mq3_ kq3_ (by decide) (q := (RX7, TX7, 19)) rfl) rfl rfl hl.1 rfl (lv_room (Nat.le_of_ble_eq_true rfl)) dX2_readMark_222 ⟨(Nat.le_of_ble_eq_true rfl), (Nat.le_of_ble_eq_true rfl)⟩) g hK (by decide) (by decide) (fx' := [(6, 12, q5_, .int y_622), (2, 6, a0_, .int 1), (8, 6, q0_, .int 1201), (8, 8, q0_, .int x_410), (2, 0, a0_, .ref q0_), (2, 1, a0_, .ref q1_), (2, 2, a0_, .ref q2_), (2, 3, a0_, .ref q3_), (2, 4, a0_, .ref q4_), (2, 5, a0_, .ref q5_), (0, 0, q2_, .ref q0_), (0, 1, q2_, .ref q1_), (5, 0, q1_, .ref q8_), (5, 1, q1_, .ref q9_), (9, 8, q4_, .int y1_), (7, 3, q3_, .int y2_), (5, 2, q1_, .int y4_), (7, 1, q3_, .int y5_)]) rfl (fun r_636 fr_636 H locs hp hMr_636 g => ?_)
          obtain ⟨h_637, x_638, h_639, hF_640⟩ := hp
          have hG_641 := eOK.frame hMr_636 go_.2.2.2.1 mq2_ kq2_ (by decide) (by decide) hG_625
          have g := g.more hF_640
          refine lv_pop hx hb dX2_readMark_225 rfl ?_
          refine lv_aload_n hx hb dX2_readMark_226 rfl (lv_at hl 2 rfl) ?_
          refine g_getk (C := RX2) (T := TX2) (N := 16) hx hb hts (mc_ inX2) hown hK g rfl 5 (by decide) rfl (hts _ (List.mem_cons_of_mem _ t_421)) (fun _ h9 => h9) 10 rfl dX2_readMark_227 ?_
          refine lv_iconst (v := 1) hx hb dX2_readMark_230 (by decide) ?_
          have go_ := g
          refine g_put (C := RX6) (T := TX6) (N := 13) hx hb hts (mc_ inX6) tyX6 tyX6_ok nmX6 hown hK g mq5_ kq5_ (by decide) rfl 6 (by decide) (hts _ (List.mem_cons_of_mem _ t_578)) (fun _ h9 => h9) rfl rfl (okV_i (bd_sub kb_1 (by decide))) rfl rfl (by decide) (Or.inr (Or.inl (by decide))) (fx' := [(7, 13, q3_, .int x_638), (6, 12, q5_, .int y_622), (2, 6, a0_, .int 1), (8, 6, q0_, .int 1201), (8, 8, q0_, .int x_410), (2, 0, a0_, .ref q0_), (2, 1, a0_, .ref q1_), (2, 2, a0_, .ref q2_), (2, 3, a0_, .ref q3_), (2, 4, a0_, .ref q4_), (2, 5, a0_, .ref q5_), (0, 0, q2_, .ref q0_), (0, 1, q2_, .ref q1_), (5, 0, q1_, .ref q8_), (5, 1, q1_, .ref q9_), (9, 8, q4_, .int y1_), (7, 3, q3_, .int y2_), (5, 2, q1_, .int y4_), (7, 1, q3_, .int y5_)]) rfl dX2_readMark_231 (fun f H locs hM_642 g => ?_)
          have hG_643 := eOK.frame hM_642 go_.2.2.2.1 mq2_ kq2_ (by decide) (by decide) hG_641
          refine lv_aload_n hx hb dX2_readMark_234 rfl (lv_at hl 2 rfl) ?_
          refine g_getk (C := RX2) (T := TX2) (N := 16) hx hb hts (mc_ inX2) hown hK g rfl 0 (by decide) rfl (hts _ (List.mem_cons_of_mem _ t_416)) (fun _ h9 => h9) 6 rfl dX2_readMark_235 ?_
          refine lv_bipush (v := 59) hx hb dX2_readMark_238 (by decide) ?_
          have go_ := g
          refine g_callv (va_runV (As := [.int 59]) (rest := []) ⟨hx, hb, hml, hown, hts⟩ (r_X8_take_2 l dC dI L kd tys f H.size g.2.2.2.1 q0_ mq0_ kq0_ 59 1201 kb_1201 x_410 h_411 (g.fcts [4, 5] rfl)) (cwV 1 hts (gV_ t_1098 t_1099 t_1100 t_184 t_1101) rfl rfl rfl (by decide +kernel) ⟨(Nat.le_of_ble_eq_true rfl), (Nat.le_of_ble_eq_true rfl)⟩) (pre3V g hK mq0_ kq0_ (by decide) (q := (RX8, TX8, 10)) rfl) rfl rfl hl.1 rfl (lv_room (Nat.le_of_ble_eq_true rfl)) dX2_readMark_240 ⟨(Nat.le_of_ble_eq_true rfl), (Nat.le_of_ble_eq_true rfl)⟩) g hK (by decide) (by decide) (fx' := [(6, 6, q5_, .int 1), (7, 13, q3_, .int x_638), (6, 12, q5_, .int y_622), (2, 6, a0_, .int 1), (8, 8, q0_, .int x_410), (2, 0, a0_, .ref q0_), (2, 1, a0_, .ref q1_), (2, 2, a0_, .ref q2_), (2, 3, a0_, .ref q3_), (2, 4, a0_, .ref q4_), (2, 5, a0_, .ref q5_), (0, 0, q2_, .ref q0_), (0, 1, q2_, .ref q1_), (5, 0, q1_, .ref q8_), (5, 1, q1_, .ref q9_), (9, 8, q4_, .int y1_), (7, 3, q3_, .int y2_), (5, 2, q1_, .int y4_), (7, 1, q3_, .int y5_)]) rfl (fun fr_644 H locs hp hMr_644 g => ?_)
          obtain ⟨x_645, h_646, hF_647⟩ := hp
          have hG_648 := eOK.frame hMr_644 go_.2.2.2.1 mq2_ kq2_ (by decide) (by decide) hG_643
          have g := g.more hF_647
          subst hQ
          exact W.vret hx hb hr (fun t ht hW => ⟨⟨_, rfl, Or.inr (⟨hG_648, x_645, h_646, x_410, h_411, x_638, h_639, y_622, (bd_sub b_623 (by decide)), (g.fcts [0, 5, 2, 3] rfl)⟩), q3_of g hK ht hW⟩, g.2.2.1.F ht⟩) g.2.2.1.2.2 dX2_readMark_243
        · have fc_618 := neq_f c_618
          have b_649 : bd 1 1 x_617 := neX fc_618 bx_617 kb_0 (by decide)
          refine lv_aload_n hx hb dX2_readMark_63 rfl (lv_at hl 2 rfl) ?_
          refine g_getk (C := RX2) (T := TX2) (N := 16) hx hb hts (mc_ inX2) hown hK g rfl 0 (by decide) rfl (hts _ (List.mem_cons_of_mem _ t_416)) (fun _ h9 => h9) 3 rfl dX2_readMark_64 ?_
          refine lv_iconst (v := 5) hx hb dX2_readMark_67 (by decide) ?_
          refine lv_iload_n hx hb dX2_readMark_68 rfl (lv_at hl 0 rfl) ?_
          have kb_5 : bd 5 5 (5 : Int32) := ⟨by decide, by decide⟩
          have go_ := g
          refine g_callv (va_runV (As := [.int 5, .int r_3]) (rest := []) ⟨hx, hb, hml, hown, hts⟩ (r_X8_fail_2 l dC dI L kd tys fr_414 H.size g.2.2.2.1 q0_ mq0_ kq0_ 5 (bd_sub kb_5 (by decide)) r_3 x_410 h_411 (g.fcts [2] rfl)) (cwV 2 hts (gV_ t_1122 t_1107 t_1108 t_184 t_1109) rfl rfl rfl (by decide +kernel) ⟨(Nat.le_of_ble_eq_true rfl), (Nat.le_of_ble_eq_true rfl)⟩) (pre3V g hK mq0_ kq0_ (by decide) (q := (RX8, TX8, 10)) rfl) rfl rfl hl.1 rfl (lv_room (Nat.le_of_ble_eq_true rfl)) dX2_readMark_69 ⟨(Nat.le_of_ble_eq_true rfl), (Nat.le_of_ble_eq_true rfl)⟩) g hK (by decide) (by decide) (fx' := [(2, 6, a0_, .int x_617), (8, 8, q0_, .int x_410), (2, 0, a0_, .ref q0_), (2, 1, a0_, .ref q1_), (2, 2, a0_, .ref q2_), (2, 3, a0_, .ref q3_), (2, 4, a0_, .ref q4_), (2, 5, a0_, .ref q5_), (0, 0, q2_, .ref q0_), (0, 1, q2_, .ref q1_), (5, 0, q1_, .ref q8_), (5, 1, q1_, .ref q9_), (9, 8, q4_, .int y1_), (7, 3, q3_, .int y2_), (6, 12, q5_, .int y3_), (5, 2, q1_, .int y4_), (7, 1, q3_, .int y5_)]) rfl (fun fr_650 H locs hp hMr_650 g => ?_)
          have hF_651 := hp
          have hG_652 := eOK.frame hMr_650 go_.2.2.2.1 mq2_ kq2_ (by decide) (by decide) hG_415
          have g := g.more hF_651
          refine lv_aload_n hx hb dX2_readMark_72 rfl (lv_at hl 2 rfl) ?_
          refine lv_iconst (v := 1) hx hb dX2_readMark_73 (by decide) ?_
          have kb_1 : bd 1 1 (1 : Int32) := ⟨by decide, by decide⟩
          have go_ := g
          refine g_put (C := RX2) (T := TX2) (N := 16) hx hb hts (mc_ inX2) tyX2 tyX2_ok nmX2 hown hK g ma0_ ka0_ (by decide) rfl 6 (by decide) (hts _ (List.mem_cons_of_mem _ t_422)) (fun _ h9 => h9) rfl rfl (okV_i (bd_sub kb_1 (by decide))) rfl rfl (by decide) (Or.inr (Or.inl (by decide))) (fx' := [(8, 6, q0_, .int 1201), (8, 8, q0_, .int x_410), (2, 0, a0_, .ref q0_), (2, 1, a0_, .ref q1_), (2, 2, a0_, .ref q2_), (2, 3, a0_, .ref q3_), (2, 4, a0_, .ref q4_), (2, 5, a0_, .ref q5_), (0, 0, q2_, .ref q0_), (0, 1, q2_, .ref q1_), (5, 0, q1_, .ref q8_), (5, 1, q1_, .ref q9_), (9, 8, q4_, .int y1_), (7, 3, q3_, .int y2_), (6, 12, q5_, .int y3_), (5, 2, q1_, .int y4_), (7, 1, q3_, .int y5_)]) rfl dX2_readMark_74 (fun f H locs hM_653 g => ?_)
          have hG_654 := eOK.frame hM_653 go_.2.2.2.1 mq2_ kq2_ (by decide) (by decide) hG_652
          refine lv_aload_n hx hb dX2_readMark_77 rfl (lv_at hl 2 rfl) ?_
          refine g_getk (C := RX2) (T := TX2) (N := 16) hx hb hts (mc_ inX2) hown hK g rfl 5 (by decide) rfl (hts _ (List.mem_cons_of_mem _ t_421)) (fun _ h9 => h9) 8 rfl dX2_readMark_78 ?_
          refine lv_dup hx hb dX2_readMark_81 rfl ?_
          refine g_getk (C := RX6) (T := TX6) (N := 13) hx hb hts (mc_ inX6) hown hK g rfl 12 (by decide) rfl (hts _ (List.mem_cons_of_mem _ t_591)) (fun _ h9 => h9) 15 rfl dX2_readMark_82 ?_
          refine lv_iconst (v := 1) hx hb dX2_readMark_85 (by decide) ?_
          refine lv_iadd hx hb dX2_readMark_86 ?_
          refine lv_topi (fun y_655 ey_655 => ?_)
          have ty_655 := add_bd ey_655 b_408 kb_1 (by decide)
          have b_656 : bd 9 9 y_655 := add_rg ty_655 b_408 kb_1 (by decide)
          have go_ := g
          refine g_put (C := RX6) (T := TX6) (N := 13) hx hb hts (mc_ inX6) tyX6 tyX6_ok nmX6 hown hK g mq5_ kq5_ (by decide) rfl 12 (by decide) (hts _ (List.mem_cons_of_mem _ t_591)) (fun _ h9 => h9) rfl rfl (okV_i (bd_sub b_656 (by decide))) rfl rfl (by decide) (Or.inr (Or.inl (by decide))) (fx' := [(2, 6, a0_, .int 1), (8, 6, q0_, .int 1201), (8, 8, q0_, .int x_410), (2, 0, a0_, .ref q0_), (2, 1, a0_, .ref q1_), (2, 2, a0_, .ref q2_), (2, 3, a0_, .ref q3_), (2, 4, a0_, .ref q4_), (2, 5, a0_, .ref q5_), (0, 0, q2_, .ref q0_), (0, 1, q2_, .ref q1_), (5, 0, q1_, .ref q8_), (5, 1, q1_, .ref q9_), (9, 8, q4_, .int y1_), (7, 3, q3_, .int y2_), (5, 2, q1_, .int y4_), (7, 1, q3_, .int y5_)]) rfl dX2_readMark_87 (fun f H locs hM_657 g => ?_)
          have hG_658 := eOK.frame hM_657 go_.2.2.2.1 mq2_ kq2_ (by decide) (by decide) hG_654
          refine lv_iload_n hx hb dX2_readMark_90 rfl (lv_at hl 1 rfl) ?_
          by_cases e_659 : r_1 = 16
          · refine lv_topi (fun z_660 ez_660 => ?_)
            obtain rfl : z_660 = 16 := ez_660.trans e_659
            have kb_16 : bd 16 16 (16 : Int32) := ⟨by decide, by decide⟩
            exact bd_no (eqX (eq_f e_659) b_616 kb_16 (lo := 21) (hi := 16) (by decide)) (by decide)
          by_cases e_661 : r_1 = 17
          · refine lv_topi (fun z_662 ez_662 => ?_)
            obtain rfl : z_662 = 17 := ez_662.trans e_661
            have kb_17 : bd 17 17 (17 : Int32) := ⟨by decide, by decide⟩
            exact bd_no (eqX (eq_f e_661) b_616 kb_17 (lo := 21) (hi := 17) (by decide)) (by decide)
          by_cases e_663 : r_1 = 18
          · refine lv_topi (fun z_664 ez_664 => ?_)
            obtain rfl : z_664 = 18 := ez_664.trans e_663
            have kb_18 : bd 18 18 (18 : Int32) := ⟨by decide, by decide⟩
            exact bd_no (eqX (eq_f e_663) b_616 kb_18 (lo := 21) (hi := 18) (by decide)) (by decide)
          by_cases e_665 : r_1 = 19
          · refine lv_topi (fun z_666 ez_666 => ?_)
            obtain rfl : z_666 = 19 := ez_666.trans e_665
            have kb_19 : bd 19 19 (19 : Int32) := ⟨by decide, by decide⟩
            exact bd_no (eqX (eq_f e_665) b_616 kb_19 (lo := 21) (hi := 19) (by decide)) (by decide)
          by_cases e_667 : r_1 = 20
          · refine lv_topi (fun z_668 ez_668 => ?_)
            obtain rfl : z_668 = 20 := ez_668.trans e_667
            exact bd_no (eqX (eq_f e_667) b_616 kb_20 (lo := 21) (hi := 20) (by decide)) (by decide)
          refine lv_tableOut (tgt := 208) hx hb dX2_readMark_91 (by have a0 : r_1.toInt ≠ 16 := fun h => e_659 (Int32.toInt_inj.mp (h.trans (by decide))); have a1 : r_1.toInt ≠ 17 := fun h => e_661 (Int32.toInt_inj.mp (h.trans (by decide))); have a2 : r_1.toInt ≠ 18 := fun h => e_663 (Int32.toInt_inj.mp (h.trans (by decide))); have a3 : r_1.toInt ≠ 19 := fun h => e_665 (Int32.toInt_inj.mp (h.trans (by decide))); have a4 : r_1.toInt ≠ 20 := fun h => e_667 (Int32.toInt_inj.mp (h.trans (by decide))); omega) (by decide) ?_
          refine lv_aload_n hx hb dX2_readMark_208 rfl (lv_at hl 2 rfl) ?_
          refine g_getk (C := RX2) (T := TX2) (N := 16) hx hb hts (mc_ inX2) hown hK g rfl 3 (by decide) rfl (hts _ (List.mem_cons_of_mem _ t_419)) (fun _ h9 => h9) 7 rfl dX2_readMark_209 ?_
          refine lv_bipush (v := 6) hx hb dX2_readMark_212 (by decide) ?_
          refine lv_aload_n hx hb dX2_readMark_214 rfl (lv_at hl 2 rfl) ?_
          refine g_getk (C := RX2) (T := TX2) (N := 16) hx hb hts (mc_ inX2) hown hK g rfl 1 (by decide) rfl (hts _ (List.mem_cons_of_mem _ t_417)) (fun _ h9 => h9) 5 rfl dX2_readMark_215 ?_
          refine g_getk (C := RX5) (T := TX5) (N := 9) hx hb hts (mc_ inX5) hown hK g rfl 2 (by decide) rfl (hts _ (List.mem_cons_of_mem _ t_333)) (fun _ h9 => h9) 16 rfl dX2_readMark_218 ?_
          refine lv_iload_n hx hb dX2_readMark_221 rfl (lv_at hl 0 rfl) ?_
          have go_ := g
          refine g_calli (va_runV (As := [.int 6, .int y4_, .int r_3]) (rest := []) ⟨hx, hb, hml, hown, hts⟩ (r_X7_addMark l dC dI L kd tys f H.size g.2.2.2.1 q3_ mq3_ kq3_ 6 y4_ r_3) (cwV 3 hts (gV_ t_1173 t_1174 t_1175 t_191 t_1176) rfl rfl rfl (by decide +kernel) ⟨(Nat.le_of_ble_eq_true rfl), (Nat.le_of_ble_eq_true rfl)⟩) (pre3V g hK mq3_ kq3_ (by decide) (q := (RX7, TX7, 19)) rfl) rfl rfl hl.1 rfl (lv_room (Nat.le_of_ble_eq_true rfl)) dX2_readMark_222 ⟨(Nat.le_of_ble_eq_true rfl), (Nat.le_of_ble_eq_true rfl)⟩) g hK (by decide) (by decide) (fx' := [(6, 12, q5_, .int y_655), (2, 6, a0_, .int 1), (8, 6, q0_, .int 1201), (8, 8, q0_, .int x_410), (2, 0, a0_, .ref q0_), (2, 1, a0_, .ref q1_), (2, 2, a0_, .ref q2_), (2, 3, a0_, .ref q3_), (2, 4, a0_, .ref q4_), (2, 5, a0_, .ref q5_), (0, 0, q2_, .ref q0_), (0, 1, q2_, .ref q1_), (5, 0, q1_, .ref q8_), (5, 1, q1_, .ref q9_), (9, 8, q4_, .int y1_), (7, 3, q3_, .int y2_), (5, 2, q1_, .int y4_), (7, 1, q3_, .int y5_)]) rfl (fun r_669 fr_669 H locs hp hMr_669 g => ?_)
          obtain ⟨h_670, x_671, h_672, hF_673⟩ := hp
          have hG_674 := eOK.frame hMr_669 go_.2.2.2.1 mq2_ kq2_ (by decide) (by decide) hG_658
          have g := g.more hF_673
          refine lv_pop hx hb dX2_readMark_225 rfl ?_
          refine lv_aload_n hx hb dX2_readMark_226 rfl (lv_at hl 2 rfl) ?_
          refine g_getk (C := RX2) (T := TX2) (N := 16) hx hb hts (mc_ inX2) hown hK g rfl 5 (by decide) rfl (hts _ (List.mem_cons_of_mem _ t_421)) (fun _ h9 => h9) 10 rfl dX2_readMark_227 ?_
          refine lv_iconst (v := 1) hx hb dX2_readMark_230 (by decide) ?_
          have go_ := g
          refine g_put (C := RX6) (T := TX6) (N := 13) hx hb hts (mc_ inX6) tyX6 tyX6_ok nmX6 hown hK g mq5_ kq5_ (by decide) rfl 6 (by decide) (hts _ (List.mem_cons_of_mem _ t_578)) (fun _ h9 => h9) rfl rfl (okV_i (bd_sub kb_1 (by decide))) rfl rfl (by decide) (Or.inr (Or.inl (by decide))) (fx' := [(7, 13, q3_, .int x_671), (6, 12, q5_, .int y_655), (2, 6, a0_, .int 1), (8, 6, q0_, .int 1201), (8, 8, q0_, .int x_410), (2, 0, a0_, .ref q0_), (2, 1, a0_, .ref q1_), (2, 2, a0_, .ref q2_), (2, 3, a0_, .ref q3_), (2, 4, a0_, .ref q4_), (2, 5, a0_, .ref q5_), (0, 0, q2_, .ref q0_), (0, 1, q2_, .ref q1_), (5, 0, q1_, .ref q8_), (5, 1, q1_, .ref q9_), (9, 8, q4_, .int y1_), (7, 3, q3_, .int y2_), (5, 2, q1_, .int y4_), (7, 1, q3_, .int y5_)]) rfl dX2_readMark_231 (fun f H locs hM_675 g => ?_)
          have hG_676 := eOK.frame hM_675 go_.2.2.2.1 mq2_ kq2_ (by decide) (by decide) hG_674
          refine lv_aload_n hx hb dX2_readMark_234 rfl (lv_at hl 2 rfl) ?_
          refine g_getk (C := RX2) (T := TX2) (N := 16) hx hb hts (mc_ inX2) hown hK g rfl 0 (by decide) rfl (hts _ (List.mem_cons_of_mem _ t_416)) (fun _ h9 => h9) 6 rfl dX2_readMark_235 ?_
          refine lv_bipush (v := 59) hx hb dX2_readMark_238 (by decide) ?_
          have go_ := g
          refine g_callv (va_runV (As := [.int 59]) (rest := []) ⟨hx, hb, hml, hown, hts⟩ (r_X8_take_2 l dC dI L kd tys f H.size g.2.2.2.1 q0_ mq0_ kq0_ 59 1201 kb_1201 x_410 h_411 (g.fcts [4, 5] rfl)) (cwV 1 hts (gV_ t_1098 t_1099 t_1100 t_184 t_1101) rfl rfl rfl (by decide +kernel) ⟨(Nat.le_of_ble_eq_true rfl), (Nat.le_of_ble_eq_true rfl)⟩) (pre3V g hK mq0_ kq0_ (by decide) (q := (RX8, TX8, 10)) rfl) rfl rfl hl.1 rfl (lv_room (Nat.le_of_ble_eq_true rfl)) dX2_readMark_240 ⟨(Nat.le_of_ble_eq_true rfl), (Nat.le_of_ble_eq_true rfl)⟩) g hK (by decide) (by decide) (fx' := [(6, 6, q5_, .int 1), (7, 13, q3_, .int x_671), (6, 12, q5_, .int y_655), (2, 6, a0_, .int 1), (8, 8, q0_, .int x_410), (2, 0, a0_, .ref q0_), (2, 1, a0_, .ref q1_), (2, 2, a0_, .ref q2_), (2, 3, a0_, .ref q3_), (2, 4, a0_, .ref q4_), (2, 5, a0_, .ref q5_), (0, 0, q2_, .ref q0_), (0, 1, q2_, .ref q1_), (5, 0, q1_, .ref q8_), (5, 1, q1_, .ref q9_), (9, 8, q4_, .int y1_), (7, 3, q3_, .int y2_), (5, 2, q1_, .int y4_), (7, 1, q3_, .int y5_)]) rfl (fun fr_677 H locs hp hMr_677 g => ?_)
          obtain ⟨x_678, h_679, hF_680⟩ := hp
          have hG_681 := eOK.frame hMr_677 go_.2.2.2.1 mq2_ kq2_ (by decide) (by decide) hG_676
          have g := g.more hF_680
          subst hQ
          exact W.vret hx hb hr (fun t ht hW => ⟨⟨_, rfl, Or.inr (⟨hG_681, x_678, h_679, x_410, h_411, x_671, h_672, y_655, (bd_sub b_656 (by decide)), (g.fcts [0, 5, 2, 3] rfl)⟩), q3_of g hK ht hW⟩, g.2.2.1.F ht⟩) g.2.2.1.2.2 dX2_readMark_243
