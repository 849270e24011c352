set_option maxHeartbeats 4000000 in
set_option maxRecDepth 100000 in
theorem r_X2_readMark_4 (l : Launch) (dC : Nat → ClassId) (dI : Nat → Nat → Nat) (L : List Nat) (kd : Nat → Nat) (tys : List (ClassId × FieldType)) (f0 : Nat → va_E) (sz : Nat) (hWT : WT L kd tys f0) (a0_ : Nat) (ma0_ : a0_ ∈ L) (ka0_ : kd a0_ = 2) (q0_ : Nat) (mq0_ : q0_ ∈ L) (kq0_ : kd q0_ = 8) (q1_ : Nat) (mq1_ : q1_ ∈ L) (kq1_ : kd q1_ = 5) (q2_ : Nat) (mq2_ : q2_ ∈ L) (kq2_ : kd q2_ = 0) (q3_ : Nat) (mq3_ : q3_ ∈ L) (kq3_ : kd q3_ = 7) (q4_ : Nat) (mq4_ : q4_ ∈ L) (kq4_ : kd q4_ = 9) (q5_ : Nat) (mq5_ : q5_ ∈ L) (kq5_ : kd q5_ = 6) (q8_ : Nat) (mq8_ : q8_ ∈ L) (kq8_ : kd q8_ = 7) (q9_ : Nat) (mq9_ : q9_ ∈ L) (kq9_ : kd q9_ = 9) (y0_ : Int32) (by0_ : bd 0 0 y0_) (y1_ : Int32) (by1_ : bd 1 12 y1_) (y2_ : Int32) (by2_ : bd 1 96 y2_) (y3_ : Int32) (by3_ : bd 0 8 y3_) (y4_ : Int32) (by4_ : bd 0 7 y4_) (y5_ : Int32) (by5_ : bd 0 7 y5_) (hGeq2_ : eOK f0 q2_) (hfx : Fs L kd f0 [(2, 0, a0_, .ref q0_), (2, 1, a0_, .ref q1_), (2, 2, a0_, .ref q2_), (2, 3, a0_, .ref q3_), (2, 4, a0_, .ref q4_), (2, 5, a0_, .ref q5_), (0, 0, q2_, .ref q0_), (0, 1, q2_, .ref q1_), (5, 0, q1_, .ref q8_), (5, 1, q1_, .ref q9_), (8, 8, q0_, .int y0_), (9, 8, q4_, .int y1_), (7, 3, q3_, .int y2_), (6, 12, q5_, .int y3_), (5, 2, q1_, .int y4_), (7, 1, q3_, .int y5_)]) : Met l yX2_readMark (.code yX2_readMark cX2_readMark 3 none :: lw_g) ({ frames := 5, cells := 0, slots := 0, locals := 118 }) (va_Pc [.ref a0_] (P3 (dC, dI) L tys f0 sz)) (va_Qv (fun (f : Nat → va_E) => (eOK f q2_ ∧ bd 0 7 y3_ ∧ ∃ z0_ : Int32, bd 1 1201 z0_ ∧ ∃ z1_ : Int32, bd 0 0 z1_ ∧ ∃ z2_ : Int32, bd 1 500 z2_ ∧ ∃ z3_ : Int32, bd 1 8 z3_ ∧ Fs L kd f [(8, 6, q0_, .int z0_), (8, 8, q0_, .int z1_), (7, 13, q3_, .int z2_), (6, 12, q5_, .int z3_)]) ∨ (eOK f q2_ ∧ ∃ z0_ : Int32, bd 1201 1201 z0_ ∧ ∃ z1_ : Int32, bd 1 7 z1_ ∧ ∃ z2_ : Int32, bd 1 500 z2_ ∧ ∃ z3_ : Int32, bd 1 9 z3_ ∧ Fs L kd f [(8, 6, q0_, .int z0_), (8, 8, q0_, .int z1_), (7, 13, q3_, .int z2_), (6, 12, q5_, .int z3_)])) (Q3 (dC, dI) L kd tys [(0, 2), (0, 8), (0, 10), (0, 11), (0, 12), (0, 13), (2, 6), (5, 7), (5, 8), (6, 6), (6, 12), (7, 6), (7, 13), (7, 18), (8, 6), (8, 8), (8, 9)] [110, 111, 112, 113, 114, 115, 138, 139, 140, 141, 142, 143, 144, 145] f0 sz) (pA L sz)) 0 0 (pA L sz) := by
  refine Met.ofW (cc := cX2_readMark) (maxL := 3) (ret := none) (by decide) rfl ?_
  intro p e s m args below meth c s₁ B hml hv
  obtain ⟨rfl, hsz, hP, hK, hD0⟩ := hv
  have hx := B.exec
  have hb := B.bytes
  have hr := B.returns
  have hts := atoms_spec (ws := (.code yX2_readMark cX2_readMark 3 none :: lw_g)) B.pre
  have hown : s.vm.findClass RX2 = some m.cls := findClass_of_methodNamed B.named
  have hlocks := B.notSynchronized
  subst hsz
  have g : G3 (dC, dI) L kd tys s f0 [(0, 2), (0, 8), (0, 10), (0, 11), (0, 12), (0, 13), (2, 6), (5, 7), (5, 8), (6, 6), (6, 12), (7, 6), (7, 13), (7, 18), (8, 6), (8, 8), (8, 9)] [110, 111, 112, 113, 114, 115, 138, 139, 140, 141, 142, 143, 144, 145] f0 s.heap [] [(2, 0, a0_, .ref q0_), (2, 1, a0_, .ref q1_), (2, 2, a0_, .ref q2_), (2, 3, a0_, .ref q3_), (2, 4, a0_, .ref q4_), (2, 5, a0_, .ref q5_), (0, 0, q2_, .ref q0_), (0, 1, q2_, .ref q1_), (5, 0, q1_, .ref q8_), (5, 1, q1_, .ref q9_), (8, 8, q0_, .int y0_), (9, 8, q4_, .int y1_), (7, 3, q3_, .int y2_), (6, 12, q5_, .int y3_), (5, 2, q1_, .int y4_), (7, 1, q3_, .int y5_)] := G3.start hP hD0 hWT hfx
  have hl := lv_entry ([.ref a0_]) (n := 3) (Nat.le_of_ble_eq_true rfl)
  rw [lg_entry_eq]
  generalize (lg_sl ([.ref a0_]) ++ List.replicate (3 - (lg_sl ([.ref a0_])).length) Slot.unset).toArray = ls at hl ⊢
  have hl : lv_has ls 3 [(0, .ref a0_)] := hl
  refine W_q (fun Q hQ => ?_)
  refine lv_aload_n hx hb dX2_readMark_0 rfl (lv_at hl 0 rfl) ?_
  refine g_getk (C := RX2) (T := TX2) (N := 16) hx hb hts (mc_ inX2) hown hK g rfl 0 (by decide) rfl (hts _ (List.mem_cons_of_mem _ t_416)) (fun _ h9 => h9) 0 rfl dX2_readMark_1 ?_
  have go_ := g
  refine g_calli (va_runV (As := []) (rest := []) ⟨hx, hb, hml, hown, hts⟩ (r_X8_kind l dC dI L kd tys f0 s.heap.size g.2.2.2.1 q0_ mq0_ kq0_) (cwV 0 hts (gV_ t_1118 t_1119 t_1120 t_184 t_1121) rfl rfl rfl (by decide +kernel) ⟨(Nat.le_of_ble_eq_true rfl), (Nat.le_of_ble_eq_true rfl)⟩) (pre3V g hK mq0_ kq0_ (by decide) (q := (RX8, TX8, 10)) rfl) rfl rfl hl.1 rfl (lv_room (Nat.le_of_ble_eq_true rfl)) dX2_readMark_4 ⟨(Nat.le_of_ble_eq_true rfl), (Nat.le_of_ble_eq_true rfl)⟩) g hK (by decide) (by decide) (fx' := [(2, 0, a0_, .ref q0_), (2, 1, a0_, .ref q1_), (2, 2, a0_, .ref q2_), (2, 3, a0_, .ref q3_), (2, 4, a0_, .ref q4_), (2, 5, a0_, .ref q5_), (0, 0, q2_, .ref q0_), (0, 1, q2_, .ref q1_), (5, 0, q1_, .ref q8_), (5, 1, q1_, .ref q9_), (8, 8, q0_, .int y0_), (9, 8, q4_, .int y1_), (7, 3, q3_, .int y2_), (6, 12, q5_, .int y3_), (5, 2, q1_, .int y4_), (7, 1, q3_, .int y5_)]) rfl (fun r_1 fr_1 H locs hp hMr_1 g => ?_)
  have hG_2 := eOK.frame hMr_1 go_.2.2.2.1 mq2_ kq2_ (by decide) (by decide) hGeq2_
  refine lv_istore_n (lv' := [(1, .int r_1), (0, .ref a0_)]) hx hb dX2_readMark_7 rfl hl (by decide) rfl (fun ls hl => ?_)
  refine lv_aload_n hx hb dX2_readMark_8 rfl (lv_at hl 1 rfl) ?_
  refine g_getk (C := RX2) (T := TX2) (N := 16) hx hb hts (mc_ inX2) hown hK g rfl 0 (by decide) rfl (hts _ (List.mem_cons_of_mem _ t_416)) (fun _ h9 => h9) 0 rfl dX2_readMark_9 ?_
  have go_ := g
  refine g_calli (va_runV (As := []) (rest := []) ⟨hx, hb, hml, hown, hts⟩ (r_X8_place l dC dI L kd tys fr_1 H.size g.2.2.2.1 q0_ mq0_ kq0_) (cwV 0 hts (gV_ t_1110 t_1111 t_1112 t_184 t_1113) rfl rfl rfl (by decide +kernel) ⟨(Nat.le_of_ble_eq_true rfl), (Nat.le_of_ble_eq_true rfl)⟩) (pre3V g hK mq0_ kq0_ (by decide) (q := (RX8, TX8, 10)) rfl) rfl rfl hl.1 rfl (lv_room (Nat.le_of_ble_eq_true rfl)) dX2_readMark_12 ⟨(Nat.le_of_ble_eq_true rfl), (Nat.le_of_ble_eq_true rfl)⟩) g hK (by decide) (by decide) (fx' := [(2, 0, a0_, .ref q0_), (2, 1, a0_, .ref q1_), (2, 2, a0_, .ref q2_), (2, 3, a0_, .ref q3_), (2, 4, a0_, .ref q4_), (2, 5, a0_, .ref q5_), (0, 0, q2_, .ref q0_), (0, 1, q2_, .ref q1_), (5, 0, q1_, .ref q8_), (5, 1, q1_, .ref q9_), (8, 8, q0_, .int y0_), (9, 8, q4_, .int y1_), (7, 3, q3_, .int y2_), (6, 12, q5_, .int y3_), (5, 2, q1_, .int y4_), (7, 1, q3_, .int y5_)]) rfl (fun r_3 fr_3 H locs hp hMr_3 g => ?_)
  have hG_4 := eOK.frame hMr_3 go_.2.2.2.1 mq2_ kq2_ (by decide) (by decide) hG_2
  refine lv_istore_n (lv' := [(2, .int r_3), (1, .int r_1), (0, .ref a0_)]) hx hb dX2_readMark_15 rfl hl (by decide) rfl (fun ls hl => ?_)
  refine lv_aload_n hx hb dX2_readMark_16 rfl (lv_at hl 2 rfl) ?_
  refine g_getk (C := RX2) (T := TX2) (N := 16) hx hb hts (mc_ inX2) hown hK g rfl 5 (by decide) rfl (hts _ (List.mem_cons_of_mem _ t_421)) (fun _ h9 => h9) 5 rfl dX2_readMark_17 ?_
  refine g_getk (C := RX6) (T := TX6) (N := 13) hx hb hts (mc_ inX6) hown hK g rfl 12 (by decide) rfl (hts _ (List.mem_cons_of_mem _ t_591)) (fun _ h9 => h9) 13 rfl dX2_readMark_20 ?_
  refine lv_bipush (v := 8) hx hb dX2_readMark_23 (by decide) ?_
  have kb_8 : bd 8 8 (8 : Int32) := ⟨by decide, by decide⟩
  refine lv_icmp_lt (tgt := 37) hx hb dX2_readMark_25 (by decide) (fun c_5 => ?_) (fun c_5 => ?_)
  · have fc_5 := lt_f c_5
    have b_6 : bd 0 7 y3_ := ltL fc_5 by3_ kb_8 (by decide)
    refine lv_aload_n hx hb dX2_readMark_37 rfl (lv_at hl 2 rfl) ?_
    refine g_getk (C := RX2) (T := TX2) (N := 16) hx hb hts (mc_ inX2) hown hK g rfl 0 (by decide) rfl (hts _ (List.mem_cons_of_mem _ t_416)) (fun _ h9 => h9) 0 rfl dX2_readMark_38 ?_
    have go_ := g
    refine g_callv (va_runV (As := []) (rest := []) ⟨hx, hb, hml, hown, hts⟩ (r_X8_next l dC dI L kd tys fr_3 H.size g.2.2.2.1 q0_ mq0_ kq0_) (cwV 0 hts (gV_ t_1131 t_1103 t_1104 t_184 t_1105) rfl rfl rfl (by decide +kernel) ⟨(Nat.le_of_ble_eq_true rfl), (Nat.le_of_ble_eq_true rfl)⟩) (pre3V g hK mq0_ kq0_ (by decide) (q := (RX8, TX8, 10)) rfl) rfl rfl hl.1 rfl (lv_room (Nat.le_of_ble_eq_true rfl)) dX2_readMark_41 ⟨(Nat.le_of_ble_eq_true rfl), (Nat.le_of_ble_eq_true rfl)⟩) g hK (by decide) (by decide) (fx' := [(2, 0, a0_, .ref q0_), (2, 1, a0_, .ref q1_), (2, 2, a0_, .ref q2_), (2, 3, a0_, .ref q3_), (2, 4, a0_, .ref q4_), (2, 5, a0_, .ref q5_), (0, 0, q2_, .ref q0_), (0, 1, q2_, .ref q1_), (5, 0, q1_, .ref q8_), (5, 1, q1_, .ref q9_), (8, 8, q0_, .int y0_), (9, 8, q4_, .int y1_), (7, 3, q3_, .int y2_), (6, 12, q5_, .int y3_), (5, 2, q1_, .int y4_), (7, 1, q3_, .int y5_)]) rfl (fun fr_7 H locs hp hMr_7 g => ?_)
    obtain ⟨x_8, h_9, hF_10⟩ := hp
    have hG_11 := eOK.frame hMr_7 go_.2.2.2.1 mq2_ kq2_ (by decide) (by decide) hG_4
    have g := g.more hF_10
    refine lv_iload_n hx hb dX2_readMark_44 rfl (lv_at hl 1 rfl) ?_
    refine lv_bipush (v := 20) hx hb dX2_readMark_45 (by decide) ?_
    have kb_20 : bd 20 20 (20 : Int32) := ⟨by decide, by decide⟩
    refine lv_icmp_eq (tgt := 56) hx hb dX2_readMark_47 (by decide) (fun c_12 => ?_) (fun c_12 => ?_)
    · have fc_12 := eq_f c_12
      have b_13 : bd 20 20 r_1 := eqX fc_12 (bdT r_1) kb_20 (by decide)
      refine lv_aload_n hx hb dX2_readMark_56 rfl (lv_at hl 2 rfl) ?_
      refine g_geti (C := RX2) (T := TX2) (N := 16) hx hb hts (mc_ inX2) hown hK g ma0_ ka0_ (by decide) rfl 6 (by decide) rfl (hts _ (List.mem_cons_of_mem _ t_422)) (fun _ h9 => h9) rfl dX2_readMark_57 (fun x_14 bx_14 g => ?_)
      have kb_0 : bd 0 0 (0 : Int32) := ⟨by decide, by decide⟩
      refine lv_if_eq (tgt := 72) hx hb dX2_readMark_60 (by decide) (fun c_15 => ?_) (fun c_15 => ?_)
      · have fc_15 := eq_f c_15
        have b_16 : bd 0 0 x_14 := eqX fc_15 bx_14 kb_0 (by decide)
        refine lv_aload_n hx hb dX2_readMark_72 rfl (lv_at hl 2 rfl) ?_
        refine lv_iconst (v := 1) hx hb dX2_readMark_73 (by decide) ?_
        have kb_1 : bd 1 1 (1 : Int32) := ⟨by decide, by decide⟩
        have go_ := g
        refine g_put (C := RX2) (T := TX2) (N := 16) hx hb hts (mc_ inX2) tyX2 tyX2_ok nmX2 hown hK g ma0_ ka0_ (by decide) rfl 6 (by decide) (hts _ (List.mem_cons_of_mem _ t_422)) (fun _ h9 => h9) rfl rfl (okV_i (bd_sub kb_1 (by decide))) rfl rfl (by decide) (Or.inr (Or.inl (by decide))) (fx' := [(8, 6, q0_, .int x_8), (2, 0, a0_, .ref q0_), (2, 1, a0_, .ref q1_), (2, 2, a0_, .ref q2_), (2, 3, a0_, .ref q3_), (2, 4, a0_, .ref q4_), (2, 5, a0_, .ref q5_), (0, 0, q2_, .ref q0_), (0, 1, q2_, .ref q1_), (5, 0, q1_, .ref q8_), (5, 1, q1_, .ref q9_), (8, 8, q0_, .int y0_), (9, 8, q4_, .int y1_), (7, 3, q3_, .int y2_), (6, 12, q5_, .int y3_), (5, 2, q1_, .int y4_), (7, 1, q3_, .int y5_)]) rfl dX2_readMark_74 (fun f H locs hM_17 g => ?_)
        have hG_18 := eOK.frame hM_17 go_.2.2.2.1 mq2_ kq2_ (by decide) (by decide) hG_11
        refine lv_aload_n hx hb dX2_readMark_77 rfl (lv_at hl 2 rfl) ?_
        refine g_getk (C := RX2) (T := TX2) (N := 16) hx hb hts (mc_ inX2) hown hK g rfl 5 (by decide) rfl (hts _ (List.mem_cons_of_mem _ t_421)) (fun _ h9 => h9) 7 rfl dX2_readMark_78 ?_
        refine lv_dup hx hb dX2_readMark_81 rfl ?_
        refine g_getk (C := RX6) (T := TX6) (N := 13) hx hb hts (mc_ inX6) hown hK g rfl 12 (by decide) rfl (hts _ (List.mem_cons_of_mem _ t_591)) (fun _ h9 => h9) 15 rfl dX2_readMark_82 ?_
        refine lv_iconst (v := 1) hx hb dX2_readMark_85 (by decide) ?_
        refine lv_iadd hx hb dX2_readMark_86 ?_
        refine lv_topi (fun y_19 ey_19 => ?_)
        have ty_19 := add_bd ey_19 b_6 kb_1 (by decide)
        have b_20 : bd 1 8 y_19 := add_rg ty_19 b_6 kb_1 (by decide)
        have go_ := g
        refine g_put (C := RX6) (T := TX6) (N := 13) hx hb hts (mc_ inX6) tyX6 tyX6_ok nmX6 hown hK g mq5_ kq5_ (by decide) rfl 12 (by decide) (hts _ (List.mem_cons_of_mem _ t_591)) (fun _ h9 => h9) rfl rfl (okV_i (bd_sub b_20 (by decide))) rfl rfl (by decide) (Or.inr (Or.inl (by decide))) (fx' := [(2, 6, a0_, .int 1), (8, 6, q0_, .int x_8), (2, 0, a0_, .ref q0_), (2, 1, a0_, .ref q1_), (2, 2, a0_, .ref q2_), (2, 3, a0_, .ref q3_), (2, 4, a0_, .ref q4_), (2, 5, a0_, .ref q5_), (0, 0, q2_, .ref q0_), (0, 1, q2_, .ref q1_), (5, 0, q1_, .ref q8_), (5, 1, q1_, .ref q9_), (8, 8, q0_, .int y0_), (9, 8, q4_, .int y1_), (7, 3, q3_, .int y2_), (5, 2, q1_, .int y4_), (7, 1, q3_, .int y5_)]) rfl dX2_readMark_87 (fun f H locs hM_21 g => ?_)
        have hG_22 := eOK.frame hM_21 go_.2.2.2.1 mq2_ kq2_ (by decide) (by decide) hG_18
        refine lv_iload_n hx hb dX2_readMark_90 rfl (lv_at hl 1 rfl) ?_
        by_cases e_23 : r_1 = 16
        · refine lv_topi (fun z_24 ez_24 => ?_)
          obtain rfl : z_24 = 16 := ez_24.trans e_23
          have kb_16 : bd 16 16 (16 : Int32) := ⟨by decide, by decide⟩
          exact bd_no (eqX (eq_f e_23) b_13 kb_16 (lo := 20) (hi := 16) (by decide)) (by decide)
        by_cases e_25 : r_1 = 17
        · refine lv_topi (fun z_26 ez_26 => ?_)
          obtain rfl : z_26 = 17 := ez_26.trans e_25
          have kb_17 : bd 17 17 (17 : Int32) := ⟨by decide, by decide⟩
          exact bd_no (eqX (eq_f e_25) b_13 kb_17 (lo := 20) (hi := 17) (by decide)) (by decide)
        by_cases e_27 : r_1 = 18
        · refine lv_topi (fun z_28 ez_28 => ?_)
          obtain rfl : z_28 = 18 := ez_28.trans e_27
          have kb_18 : bd 18 18 (18 : Int32) := ⟨by decide, by decide⟩
          exact bd_no (eqX (eq_f e_27) b_13 kb_18 (lo := 20) (hi := 18) (by decide)) (by decide)
        by_cases e_29 : r_1 = 19
        · refine lv_topi (fun z_30 ez_30 => ?_)
          obtain rfl : z_30 = 19 := ez_30.trans e_29
          have kb_19 : bd 19 19 (19 : Int32) := ⟨by decide, by decide⟩
          exact bd_no (eqX (eq_f e_29) b_13 kb_19 (lo := 20) (hi := 19) (by decide)) (by decide)
        by_cases e_31 : r_1 = 20
        · refine lv_topi (fun z_32 ez_32 => ?_)
          obtain rfl : z_32 = 20 := ez_32.trans e_31
          have b_33 : bd 20 20 r_1 := eqX (eq_f e_31) b_13 kb_20 (by decide)
          refine lv_tableIn (off := 110) (tgt := 201) hx hb dX2_readMark_91 (by decide) (by decide) rfl (by decide) ?_
          refine lv_aload_n hx hb dX2_readMark_201 rfl (lv_at hl 2 rfl) ?_
          have go_ := g
          refine g_callv (va_runV (As := []) (rest := []) ⟨hx, hb, hml, hown, hts⟩ (r_X2_readOnly l dC dI L kd tys f H.size g.2.2.2.1 a0_ ma0_ ka0_ q0_ mq0_ kq0_ q3_ mq3_ kq3_ q4_ mq4_ kq4_ y0_ by0_ (g.fcts [3, 6, 7, 13] rfl)) (cwV 0 hts (gV_ t_1330 t_1332 t_38 t_183 t_1333) rfl rfl rfl (by decide +kernel) ⟨(Nat.le_of_ble_eq_true rfl), (Nat.le_of_ble_eq_true rfl)⟩) (pre3V g hK ma0_ ka0_ (by decide) (q := (RX2, TX2, 16)) rfl) rfl rfl hl.1 rfl (lv_room (Nat.le_of_ble_eq_true rfl)) dX2_readMark_202 ⟨(Nat.le_of_ble_eq_true rfl), (Nat.le_of_ble_eq_true rfl)⟩) g hK (by decide) (by decide) (fx' := [(6, 12, q5_, .int y_19), (2, 6, a0_, .int 1), (2, 0, a0_, .ref q0_), (2, 1, a0_, .ref q1_), (2, 2, a0_, .ref q2_), (2, 3, a0_, .ref q3_), (2, 4, a0_, .ref q4_), (2, 5, a0_, .ref q5_), (0, 0, q2_, .ref q0_), (0, 1, q2_, .ref q1_), (5, 0, q1_, .ref q8_), (5, 1, q1_, .ref q9_), (9, 8, q4_, .int y1_), (7, 3, q3_, .int y2_), (5, 2, q1_, .int y4_), (7, 1, q3_, .int y5_)]) rfl (fun fr_34 H locs hp hMr_34 g => ?_)
          rcases hp with ⟨x_35, h_36, x_37, h_38, hF_39⟩ | ⟨x_40, h_41, x_42, h_43, hF_44⟩
          · have hG_45 := eOK.frame hMr_34 go_.2.2.2.1 mq2_ kq2_ (by decide) (by decide) hG_22
            have g := g.more hF_39
            refine lv_goto (tgt := 234) hx hb dX2_readMark_205 (by decide) ?_
            refine lv_aload_n hx hb dX2_readMark_234 rfl (lv_at hl 2 rfl) ?_
            refine g_getk (C := RX2) (T := TX2) (N := 16) hx hb hts (mc_ inX2) hown hK g rfl 0 (by decide) rfl (hts _ (List.mem_cons_of_mem _ t_416)) (fun _ h9 => h9) 4 rfl dX2_readMark_235 ?_
            refine lv_bipush (v := 59) hx hb dX2_readMark_238 (by decide) ?_
            have go_ := g
            refine g_callv (va_runV (As := [.int 59]) (rest := []) ⟨hx, hb, hml, hown, hts⟩ (r_X8_take l dC dI L kd tys fr_34 H.size g.2.2.2.1 q0_ mq0_ kq0_ 59 x_37 h_38 (g.fcts [1] rfl)) (cwV 1 hts (gV_ t_1098 t_1099 t_1100 t_184 t_1101) rfl rfl rfl (by decide +kernel) ⟨(Nat.le_of_ble_eq_true rfl), (Nat.le_of_ble_eq_true rfl)⟩) (pre3V g hK mq0_ kq0_ (by decide) (q := (RX8, TX8, 10)) rfl) rfl rfl hl.1 rfl (lv_room (Nat.le_of_ble_eq_true rfl)) dX2_readMark_240 ⟨(Nat.le_of_ble_eq_true rfl), (Nat.le_of_ble_eq_true rfl)⟩) g hK (by decide) (by decide) (fx' := [(7, 13, q3_, .int x_35), (6, 12, q5_, .int y_19), (2, 6, a0_, .int 1), (2, 0, a0_, .ref q0_), (2, 1, a0_, .ref q1_), (2, 2, a0_, .ref q2_), (2, 3, a0_, .ref q3_), (2, 4, a0_, .ref q4_), (2, 5, a0_, .ref q5_), (0, 0, q2_, .ref q0_), (0, 1, q2_, .ref q1_), (5, 0, q1_, .ref q8_), (5, 1, q1_, .ref q9_), (9, 8, q4_, .int y1_), (7, 3, q3_, .int y2_), (5, 2, q1_, .int y4_), (7, 1, q3_, .int y5_)]) rfl (fun fr_46 H locs hp hMr_46 g => ?_)
            rcases hp with ⟨x_47, h_48, x_49, h_50, hF_51⟩ | ⟨x_52, h_53, hF_54⟩
            · have hG_55 := eOK.frame hMr_46 go_.2.2.2.1 mq2_ kq2_ (by decide) (by decide) hG_45
              have g := g.more hF_51
              subst hQ
              exact W.vret hx hb hr (fun t ht hW => ⟨⟨_, rfl, Or.inl ⟨hG_55, b_6, x_47, h_48, x_49, h_50, x_35, h_36, y_19, b_20, (g.fcts [0, 1, 2, 3] rfl)⟩, q3_of g hK ht hW⟩, g.2.2.1.F ht⟩) g.2.2.1.2.2 dX2_readMark_243
            · have hG_56 := eOK.frame hMr_46 go_.2.2.2.1 mq2_ kq2_ (by decide) (by decide) hG_45
              have g := g.more hF_54
              have kb_1201 : bd 1201 1201 (1201 : Int32) := ⟨by decide, by decide⟩
              subst hQ
              exact W.vret hx hb hr (fun t ht hW => ⟨⟨_, rfl, Or.inr (⟨hG_56, 1201, kb_1201, x_52, h_53, x_35, h_36, y_19, (bd_sub b_20 (by decide)), (g.fcts [0, 1, 2, 3] rfl)⟩), q3_of g hK ht hW⟩, g.2.2.1.F ht⟩) g.2.2.1.2.2 dX2_readMark_243
          · have hG_57 := eOK.frame hMr_34 go_.2.2.2.1 mq2_ kq2_ (by decide) (by decide) hG_22
            have g := g.more hF_44
            refine lv_goto (tgt := 234) hx hb dX2_readMark_205 (by decide) ?_
            refine lv_aload_n hx hb dX2_readMark_234 rfl (lv_at hl 2 rfl) ?_
            refine g_getk (C := RX2) (T := TX2) (N := 16) hx hb hts (mc_ inX2) hown hK g rfl 0 (by decide) rfl (hts _ (List.mem_cons_of_mem _ t_416)) (fun _ h9 => h9) 5 rfl dX2_readMark_235 ?_
            refine lv_bipush (v := 59) hx hb dX2_readMark_238 (by decide) ?_
            have kb_1201 : bd 1201 1201 (1201 : Int32) := ⟨by decide, by decide⟩
            have go_ := g
            refine g_callv (va_runV (As := [.int 59]) (rest := []) ⟨hx, hb, hml, hown, hts⟩ (r_X8_take_2 l dC dI L kd tys fr_34 H.size g.2.2.2.1 q0_ mq0_ kq0_ 59 1201 kb_1201 x_40 h_41 (g.fcts [0, 1] rfl)) (cwV 1 hts (gV_ t_1098 t_1099 t_1100 t_184 t_1101) rfl rfl rfl (by decide +kernel) ⟨(Nat.le_of_ble_eq_true rfl), (Nat.le_of_ble_eq_true rfl)⟩) (pre3V g hK mq0_ kq0_ (by decide) (q := (RX8, TX8, 10)) rfl) rfl rfl hl.1 rfl (lv_room (Nat.le_of_ble_eq_true rfl)) dX2_readMark_240 ⟨(Nat.le_of_ble_eq_true rfl), (Nat.le_of_ble_eq_true rfl)⟩) g hK (by decide) (by decide) (fx' := [(8, 8, q0_, .int x_40), (7, 13, q3_, .int x_42), (6, 12, q5_, .int y_19), (2, 6, a0_, .int 1), (2, 0, a0_, .ref q0_), (2, 1, a0_, .ref q1_), (2, 2, a0_, .ref q2_), (2, 3, a0_, .ref q3_), (2, 4, a0_, .ref q4_), (2, 5, a0_, .ref q5_), (0, 0, q2_, .ref q0_), (0, 1, q2_, .ref q1_), (5, 0, q1_, .ref q8_), (5, 1, q1_, .ref q9_), (9, 8, q4_, .int y1_), (7, 3, q3_, .int y2_), (5, 2, q1_, .int y4_), (7, 1, q3_, .int y5_)]) rfl (fun fr_58 H locs hp hMr_58 g => ?_)
            obtain ⟨x_59, h_60, hF_61⟩ := hp
            have hG_62 := eOK.frame hMr_58 go_.2.2.2.1 mq2_ kq2_ (by decide) (by decide) hG_57
            have g := g.more hF_61
            subst hQ
            exact W.vret hx hb hr (fun t ht hW => ⟨⟨_, rfl, Or.inr (⟨hG_62, x_59, h_60, x_40, h_41, x_42, h_43, y_19, (bd_sub b_20 (by decide)), (g.fcts [0, 1, 2, 3] rfl)⟩), q3_of g hK ht hW⟩, g.2.2.1.F ht⟩) g.2.2.1.2.2 dX2_readMark_243
        refine lv_tableOut (tgt := 208) hx hb dX2_readMark_91 (by have a0 : r_1.toInt ≠ 16 := fun h => e_23 (Int32.toInt_inj.mp (h.trans (by decide))); have a1 : r_1.toInt ≠ 17 := fun h => e_25 (Int32.toInt_inj.mp (h.trans (by decide))); have a2 : r_1.toInt ≠ 18 := fun h => e_27 (Int32.toInt_inj.mp (h.trans (by decide))); have a3 : r_1.toInt ≠ 19 := fun h => e_29 (Int32.toInt_inj.mp (h.trans (by decide))); have a4 : r_1.toInt ≠ 20 := fun h => e_31 (Int32.toInt_inj.mp (h.trans (by decide))); omega) (by decide) ?_
        refine lv_aload_n hx hb dX2_readMark_208 rfl (lv_at hl 2 rfl) ?_
        refine g_getk (C := RX2) (T := TX2) (N := 16) hx hb hts (mc_ inX2) hown hK g rfl 3 (by decide) rfl (hts _ (List.mem_cons_of_mem _ t_419)) (fun _ h9 => h9) 6 rfl dX2_readMark_209 ?_
        refine lv_bipush (v := 6) hx hb dX2_readMark_212 (by decide) ?_
        refine lv_aload_n hx hb dX2_readMark_214 rfl (lv_at hl 2 rfl) ?_
        refine g_getk (C := RX2) (T := TX2) (N := 16) hx hb hts (mc_ inX2) hown hK g rfl 1 (by decide) rfl (hts _ (List.mem_cons_of_mem _ t_417)) (fun _ h9 => h9) 4 rfl dX2_readMark_215 ?_
        refine g_getk (C := RX5) (T := TX5) (N := 9) hx hb hts (mc_ inX5) hown hK g rfl 2 (by decide) rfl (hts _ (List.mem_cons_of_mem _ t_333)) (fun _ h9 => h9) 16 rfl dX2_readMark_218 ?_
        refine lv_iload_n hx hb dX2_readMark_221 rfl (lv_at hl 0 rfl) ?_
        have go_ := g
        refine g_calli (va_runV (As := [.int 6, .int y4_, .int r_3]) (rest := []) ⟨hx, hb, hml, hown, hts⟩ (r_X7_addMark l dC dI L kd tys f H.size g.2.2.2.1 q3_ mq3_ kq3_ 6 y4_ r_3) (cwV 3 hts (gV_ t_1173 t_1174 t_1175 t_191 t_1176) rfl rfl rfl (by decide +kernel) ⟨(Nat.le_of_ble_eq_true rfl), (Nat.le_of_ble_eq_true rfl)⟩) (pre3V g hK mq3_ kq3_ (by decide) (q := (RX7, TX7, 19)) rfl) rfl rfl hl.1 rfl (lv_room (Nat.le_of_ble_eq_true rfl)) dX2_readMark_222 ⟨(Nat.le_of_ble_eq_true rfl), (Nat.le_of_ble_eq_true rfl)⟩) g hK (by decide) (by decide) (fx' := [(6, 12, q5_, .int y_19), (2, 6, a0_, .int 1), (8, 6, q0_, .int x_8), (2, 0, a0_, .ref q0_), (2, 1, a0_, .ref q1_), (2, 2, a0_, .ref q2_), (2, 3, a0_, .ref q3_), (2, 4, a0_, .ref q4_), (2, 5, a0_, .ref q5_), (0, 0, q2_, .ref q0_), (0, 1, q2_, .ref q1_), (5, 0, q1_, .ref q8_), (5, 1, q1_, .ref q9_), (8, 8, q0_, .int y0_), (9, 8, q4_, .int y1_), (7, 3, q3_, .int y2_), (5, 2, q1_, .int y4_), (7, 1, q3_, .int y5_)]) rfl (fun r_63 fr_63 H locs hp hMr_63 g => ?_)
        obtain ⟨h_64, x_65, h_66, hF_67⟩ := hp
        have hG_68 := eOK.frame hMr_63 go_.2.2.2.1 mq2_ kq2_ (by decide) (by decide) hG_22
        have g := g.more hF_67
        refine lv_pop hx hb dX2_readMark_225 rfl ?_
        refine lv_aload_n hx hb dX2_readMark_226 rfl (lv_at hl 2 rfl) ?_
        refine g_getk (C := RX2) (T := TX2) (N := 16) hx hb hts (mc_ inX2) hown hK g rfl 5 (by decide) rfl (hts _ (List.mem_cons_of_mem _ t_421)) (fun _ h9 => h9) 9 rfl dX2_readMark_227 ?_
        refine lv_iconst (v := 1) hx hb dX2_readMark_230 (by decide) ?_
        have go_ := g
        refine g_put (C := RX6) (T := TX6) (N := 13) hx hb hts (mc_ inX6) tyX6 tyX6_ok nmX6 hown hK g mq5_ kq5_ (by decide) rfl 6 (by decide) (hts _ (List.mem_cons_of_mem _ t_578)) (fun _ h9 => h9) rfl rfl (okV_i (bd_sub kb_1 (by decide))) rfl rfl (by decide) (Or.inr (Or.inl (by decide))) (fx' := [(7, 13, q3_, .int x_65), (6, 12, q5_, .int y_19), (2, 6, a0_, .int 1), (8, 6, q0_, .int x_8), (2, 0, a0_, .ref q0_), (2, 1, a0_, .ref q1_), (2, 2, a0_, .ref q2_), (2, 3, a0_, .ref q3_), (2, 4, a0_, .ref q4_), (2, 5, a0_, .ref q5_), (0, 0, q2_, .ref q0_), (0, 1, q2_, .ref q1_), (5, 0, q1_, .ref q8_), (5, 1, q1_, .ref q9_), (8, 8, q0_, .int y0_), (9, 8, q4_, .int y1_), (7, 3, q3_, .int y2_), (5, 2, q1_, .int y4_), (7, 1, q3_, .int y5_)]) rfl dX2_readMark_231 (fun f H locs hM_69 g => ?_)
        have hG_70 := eOK.frame hM_69 go_.2.2.2.1 mq2_ kq2_ (by decide) (by decide) hG_68
        refine lv_aload_n hx hb dX2_readMark_234 rfl (lv_at hl 2 rfl) ?_
        refine g_getk (C := RX2) (T := TX2) (N := 16) hx hb hts (mc_ inX2) hown hK g rfl 0 (by decide) rfl (hts _ (List.mem_cons_of_mem _ t_416)) (fun _ h9 => h9) 5 rfl dX2_readMark_235 ?_
        refine lv_bipush (v := 59) hx hb dX2_readMark_238 (by decide) ?_
        have go_ := g
        refine g_callv (va_runV (As := [.int 59]) (rest := []) ⟨hx, hb, hml, hown, hts⟩ (r_X8_take l dC dI L kd tys f H.size g.2.2.2.1 q0_ mq0_ kq0_ 59 y0_ by0_ (g.fcts [15] rfl)) (cwV 1 hts (gV_ t_1098 t_1099 t_1100 t_184 t_1101) rfl rfl rfl (by decide +kernel) ⟨(Nat.le_of_ble_eq_true rfl), (Nat.le_of_ble_eq_true rfl)⟩) (pre3V g hK mq0_ kq0_ (by decide) (q := (RX8, TX8, 10)) rfl) rfl rfl hl.1 rfl (lv_room (Nat.le_of_ble_eq_true rfl)) dX2_readMark_240 ⟨(Nat.le_of_ble_eq_true rfl), (Nat.le_of_ble_eq_true rfl)⟩) g hK (by decide) (by decide) (fx' := [(6, 6, q5_, .int 1), (7, 13, q3_, .int x_65), (6, 12, q5_, .int y_19), (2, 6, a0_, .int 1), (2, 0, a0_, .ref q0_), (2, 1, a0_, .ref q1_), (2, 2, a0_, .ref q2_), (2, 3, a0_, .ref q3_), (2, 4, a0_, .ref q4_), (2, 5, a0_, .ref q5_), (0, 0, q2_, .ref q0_), (0, 1, q2_, .ref q1_), (5, 0, q1_, .ref q8_), (5, 1, q1_, .ref q9_), (9, 8, q4_, .int y1_), (7, 3, q3_, .int y2_), (5, 2, q1_, .int y4_), (7, 1, q3_, .int y5_)]) rfl (fun fr_71 H locs hp hMr_71 g => ?_)
        rcases hp with ⟨x_72, h_73, x_74, h_75, hF_76⟩ | ⟨x_77, h_78, hF_79⟩
        · have hG_80 := eOK.frame hMr_71 go_.2.2.2.1 mq2_ kq2_ (by decide) (by decide) hG_70
          have g := g.more hF_76
          subst hQ
          exact W.vret hx hb hr (fun t ht hW => ⟨⟨_, rfl, Or.inl ⟨hG_80, b_6, x_72, h_73, x_74, h_75, x_65, h_66, y_19, b_20, (g.fcts [0, 1, 3, 4] rfl)⟩, q3_of g hK ht hW⟩, g.2.2.1.F ht⟩) g.2.2.1.2.2 dX2_readMark_243
        · have hG_81 := eOK.frame hMr_71 go_.2.2.2.1 mq2_ kq2_ (by decide) (by decide) hG_70
          have g := g.more hF_79
          have kb_1201 : bd 1201 1201 (1201 : Int32) := ⟨by decide, by decide⟩
          subst hQ
          exact W.vret hx hb hr (fun t ht hW => ⟨⟨_, rfl, Or.inr (⟨hG_81, 1201, kb_1201, x_77, h_78, x_65, h_66, y_19, (bd_sub b_20 (by decide)), (g.fcts [0, 1, 3, 4] rfl)⟩), q3_of g hK ht hW⟩, g.2.2.1.F ht⟩) g.2.2.1.2.2 dX2_readMark_243
      · have fc_15 := neq_f c_15
        have b_82 : bd 1 1 x_14 := neX fc_15 bx_14 kb_0 (by decide)
        refine lv_aload_n hx hb dX2_readMark_63 rfl (lv_at hl 2 rfl) ?_
        refine g_getk (C := RX2) (T := TX2) (N := 16) hx hb hts (mc_ inX2) hown hK g rfl 0 (by decide) rfl (hts _ (List.mem_cons_of_mem _ t_416)) (fun _ h9 => h9) 2 rfl dX2_readMark_64 ?_
        refine lv_iconst (v := 5) hx hb dX2_readMark_67 (by decide) ?_
        refine lv_iload_n hx hb dX2_readMark_68 rfl (lv_at hl 0 rfl) ?_
        have kb_5 : bd 5 5 (5 : Int32) := ⟨by decide, by decide⟩
        have go_ := g
        refine g_callv (va_runV (As := [.int 5, .int r_3]) (rest := []) ⟨hx, hb, hml, hown, hts⟩ (r_X8_fail l dC dI L kd tys fr_7 H.size g.2.2.2.1 q0_ mq0_ kq0_ 5 (bd_sub kb_5 (by decide)) r_3 y0_ by0_ (g.fcts [12] rfl)) (cwV 2 hts (gV_ t_1122 t_1107 t_1108 t_184 t_1109) rfl rfl rfl (by decide +kernel) ⟨(Nat.le_of_ble_eq_true rfl), (Nat.le_of_ble_eq_true rfl)⟩) (pre3V g hK mq0_ kq0_ (by decide) (q := (RX8, TX8, 10)) rfl) rfl rfl hl.1 rfl (lv_room (Nat.le_of_ble_eq_true rfl)) dX2_readMark_69 ⟨(Nat.le_of_ble_eq_true rfl), (Nat.le_of_ble_eq_true rfl)⟩) g hK (by decide) (by decide) (fx' := [(2, 6, a0_, .int x_14), (2, 0, a0_, .ref q0_), (2, 1, a0_, .ref q1_), (2, 2, a0_, .ref q2_), (2, 3, a0_, .ref q3_), (2, 4, a0_, .ref q4_), (2, 5, a0_, .ref q5_), (0, 0, q2_, .ref q0_), (0, 1, q2_, .ref q1_), (5, 0, q1_, .ref q8_), (5, 1, q1_, .ref q9_), (9, 8, q4_, .int y1_), (7, 3, q3_, .int y2_), (6, 12, q5_, .int y3_), (5, 2, q1_, .int y4_), (7, 1, q3_, .int y5_)]) rfl (fun fr_83 H locs hp hMr_83 g => ?_)
        obtain ⟨x_84, h_85, hF_86⟩ := hp
        have hG_87 := eOK.frame hMr_83 go_.2.2.2.1 mq2_ kq2_ (by decide) (by decide) hG_11
        have g := g.more hF_86
        refine lv_aload_n hx hb dX2_readMark_72 rfl (lv_at hl 2 rfl) ?_
        refine lv_iconst (v := 1) hx hb dX2_readMark_73 (by decide) ?_
        have kb_1 : bd 1 1 (1 : Int32) := ⟨by decide, by decide⟩
        have go_ := g
        refine g_put (C := RX2) (T := TX2) (N := 16) hx hb hts (mc_ inX2) tyX2 tyX2_ok nmX2 hown hK g ma0_ ka0_ (by decide) rfl 6 (by decide) (hts _ (List.mem_cons_of_mem _ t_422)) (fun _ h9 => h9) rfl rfl (okV_i (bd_sub kb_1 (by decide))) rfl rfl (by decide) (Or.inr (Or.inl (by decide))) (fx' := [(8, 6, q0_, .int 1201), (8, 8, q0_, .int x_84), (2, 0, a0_, .ref q0_), (2, 1, a0_, .ref q1_), (2, 2, a0_, .ref q2_), (2, 3, a0_, .ref q3_), (2, 4, a0_, .ref q4_), (2, 5, a0_, .ref q5_), (0, 0, q2_, .ref q0_), (0, 1, q2_, .ref q1_), (5, 0, q1_, .ref q8_), (5, 1, q1_, .ref q9_), (9, 8, q4_, .int y1_), (7, 3, q3_, .int y2_), (6, 12, q5_, .int y3_), (5, 2, q1_, .int y4_), (7, 1, q3_, .int y5_)]) rfl dX2_readMark_74 (fun f H locs hM_88 g => ?_)
        have hG_89 := eOK.frame hM_88 go_.2.2.2.1 mq2_ kq2_ (by decide) (by decide) hG_87
        refine lv_aload_n hx hb dX2_readMark_77 rfl (lv_at hl 2 rfl) ?_
        refine g_getk (C := RX2) (T := TX2) (N := 16) hx hb hts (mc_ inX2) hown hK g rfl 5 (by decide) rfl (hts _ (List.mem_cons_of_mem _ t_421)) (fun _ h9 => h9) 8 rfl dX2_readMark_78 ?_
        refine lv_dup hx hb dX2_readMark_81 rfl ?_
        refine g_getk (C := RX6) (T := TX6) (N := 13) hx hb hts (mc_ inX6) hown hK g rfl 12 (by decide) rfl (hts _ (List.mem_cons_of_mem _ t_591)) (fun _ h9 => h9) 15 rfl dX2_readMark_82 ?_
        refine lv_iconst (v := 1) hx hb dX2_readMark_85 (by decide) ?_
        refine lv_iadd hx hb dX2_readMark_86 ?_
        refine lv_topi (fun y_90 ey_90 => ?_)
        have ty_90 := add_bd ey_90 b_6 kb_1 (by decide)
        have b_91 : bd 1 8 y_90 := add_rg ty_90 b_6 kb_1 (by decide)
        have go_ := g
        refine g_put (C := RX6) (T := TX6) (N := 13) hx hb hts (mc_ inX6) tyX6 tyX6_ok nmX6 hown hK g mq5_ kq5_ (by decide) rfl 12 (by decide) (hts _ (List.mem_cons_of_mem _ t_591)) (fun _ h9 => h9) rfl rfl (okV_i (bd_sub b_91 (by decide))) rfl rfl (by decide) (Or.inr (Or.inl (by decide))) (fx' := [(2, 6, a0_, .int 1), (8, 6, q0_, .int 1201), (8, 8, q0_, .int x_84), (2, 0, a0_, .ref q0_), (2, 1, a0_, .ref q1_), (2, 2, a0_, .ref q2_), (2, 3, a0_, .ref q3_), (2, 4, a0_, .ref q4_), (2, 5, a0_, .ref q5_), (0, 0, q2_, .ref q0_), (0, 1, q2_, .ref q1_), (5, 0, q1_, .ref q8_), (5, 1, q1_, .ref q9_), (9, 8, q4_, .int y1_), (7, 3, q3_, .int y2_), (5, 2, q1_, .int y4_), (7, 1, q3_, .int y5_)]) rfl dX2_readMark_87 (fun f H locs hM_92 g => ?_)
        have hG_93 := eOK.frame hM_92 go_.2.2.2.1 mq2_ kq2_ (by decide) (by decide) hG_89
        refine lv_iload_n hx hb dX2_readMark_90 rfl (lv_at hl 1 rfl) ?_
        by_cases e_94 : r_1 = 16
        · refine lv_topi (fun z_95 ez_95 => ?_)
          obtain rfl : z_95 = 16 := ez_95.trans e_94
          have kb_16 : bd 16 16 (16 : Int32) := ⟨by decide, by decide⟩
          exact bd_no (eqX (eq_f e_94) b_13 kb_16 (lo := 20) (hi := 16) (by decide)) (by decide)
        by_cases e_96 : r_1 = 17
        · refine lv_topi (fun z_97 ez_97 => ?_)
          obtain rfl : z_97 = 17 := ez_97.trans e_96
          have kb_17 : bd 17 17 (17 : Int32) := ⟨by decide, by decide⟩
          exact bd_no (eqX (eq_f e_96) b_13 kb_17 (lo := 20) (hi := 17) (by decide)) (by decide)
        by_cases e_98 : r_1 = 18
        · refine lv_topi (fun z_99 ez_99 => ?_)
          obtain rfl : z_99 = 18 := ez_99.trans e_98
          have kb_18 : bd 18 18 (18 : Int32) := ⟨by decide, by decide⟩
          exact bd_no (eqX (eq_f e_98) b_13 kb_18 (lo := 20) (hi := 18) (by decide)) (by decide)
        by_cases e_100 : r_1 = 19
        · refine lv_topi (fun z_101 ez_101 => ?_)
          obtain rfl : z_101 = 19 := ez_101.trans e_100
          have kb_19 : bd 19 19 (19 : Int32) := ⟨by decide, by decide⟩
          exact bd_no (eqX (eq_f e_100) b_13 kb_19 (lo := 20) (hi := 19) (by decide)) (by decide)
        by_cases e_102 : r_1 = 20
        · refine lv_topi (fun z_103 ez_103 => ?_)
          obtain rfl : z_103 = 20 := ez_103.trans e_102
          have b_104 : bd 20 20 r_1 := eqX (eq_f e_102) b_13 kb_20 (by decide)
          refine lv_tableIn (off := 110) (tgt := 201) hx hb dX2_readMark_91 (by decide) (by decide) rfl (by decide) ?_
          refine lv_aload_n hx hb dX2_readMark_201 rfl (lv_at hl 2 rfl) ?_
          have kb_1201 : bd 1201 1201 (1201 : Int32) := ⟨by decide, by decide⟩
          have go_ := g
          refine g_callv (va_runV (As := []) (rest := []) ⟨hx, hb, hml, hown, hts⟩ (r_X2_readOnly_2 l dC dI L kd tys f H.size g.2.2.2.1 a0_ ma0_ ka0_ q0_ mq0_ kq0_ q3_ mq3_ kq3_ q4_ mq4_ kq4_ 1201 kb_1201 x_84 h_85 (g.fcts [4, 7, 8, 2, 3] rfl)) (cwV 0 hts (gV_ t_1330 t_1332 t_38 t_183 t_1333) rfl rfl rfl (by decide +kernel) ⟨(Nat.le_of_ble_eq_true rfl), (Nat.le_of_ble_eq_true rfl)⟩) (pre3V g hK ma0_ ka0_ (by decide) (q := (RX2, TX2, 16)) rfl) rfl rfl hl.1 rfl (lv_room (Nat.le_of_ble_eq_true rfl)) dX2_readMark_202 ⟨(Nat.le_of_ble_eq_true rfl), (Nat.le_of_ble_eq_true rfl)⟩) g hK (by decide) (by decide) (fx' := [(6, 12, q5_, .int y_90), (2, 6, a0_, .int 1), (8, 8, q0_, .int x_84), (2, 0, a0_, .ref q0_), (2, 1, a0_, .ref q1_), (2, 2, a0_, .ref q2_), (2, 3, a0_, .ref q3_), (2, 4, a0_, .ref q4_), (2, 5, a0_, .ref q5_), (0, 0, q2_, .ref q0_), (0, 1, q2_, .ref q1_), (5, 0, q1_, .ref q8_), (5, 1, q1_, .ref q9_), (9, 8, q4_, .int y1_), (7, 3, q3_, .int y2_), (5, 2, q1_, .int y4_), (7, 1, q3_, .int y5_)]) rfl (fun fr_105 H locs hp hMr_105 g => ?_)
          obtain ⟨x_106, h_107, x_108, h_109, hF_110⟩ := hp
          have hG_111 := eOK.frame hMr_105 go_.2.2.2.1 mq2_ kq2_ (by decide) (by decide) hG_93
          have g := g.more hF_110
          refine lv_goto (tgt := 234) hx hb dX2_readMark_205 (by decide) ?_
          refine lv_aload_n hx hb dX2_readMark_234 rfl (lv_at hl 2 rfl) ?_
          refine g_getk (C := RX2) (T := TX2) (N := 16) hx hb hts (mc_ inX2) hown hK g rfl 0 (by decide) rfl (hts _ (List.mem_cons_of_mem _ t_416)) (fun _ h9 => h9) 5 rfl dX2_readMark_235 ?_
          refine lv_bipush (v := 59) hx hb dX2_readMark_238 (by decide) ?_
          have go_ := g
          refine g_callv (va_runV (As := [.int 59]) (rest := []) ⟨hx, hb, hml, hown, hts⟩ (r_X8_take_2 l dC dI L kd tys fr_105 H.size g.2.2.2.1 q0_ mq0_ kq0_ 59 x_108 h_109 x_84 h_85 (g.fcts [1, 4] rfl)) (cwV 1 hts (gV_ t_1098 t_1099 t_1100 t_184 t_1101) rfl rfl rfl (by decide +kernel) ⟨(Nat.le_of_ble_eq_true rfl), (Nat.le_of_ble_eq_true rfl)⟩) (pre3V g hK mq0_ kq0_ (by decide) (q := (RX8, TX8, 10)) rfl) rfl rfl hl.1 rfl (lv_room (Nat.le_of_ble_eq_true rfl)) dX2_readMark_240 ⟨(Nat.le_of_ble_eq_true rfl), (Nat.le_of_ble_eq_true rfl)⟩) g hK (by decide) (by decide) (fx' := [(7, 13, q3_, .int x_106), (6, 12, q5_, .int y_90), (2, 6, a0_, .int 1), (8, 8, q0_, .int x_84), (2, 0, a0_, .ref q0_), (2, 1, a0_, .ref q1_), (2, 2, a0_, .ref q2_), (2, 3, a0_, .ref q3_), (2, 4, a0_, .ref q4_), (2, 5, a0_, .ref q5_), (0, 0, q2_, .ref q0_), (0, 1, q2_, .ref q1_), (5, 0, q1_, .ref q8_), (5, 1, q1_, .ref q9_), (9, 8, q4_, .int y1_), (7, 3, q3_, .int y2_), (5, 2, q1_, .int y4_), (7, 1, q3_, .int y5_)]) rfl (fun fr_112 H locs hp hMr_112 g => ?_)
          obtain ⟨x_113, h_114, hF_115⟩ := hp
          have hG_116 := eOK.frame hMr_112 go_.2.2.2.1 mq2_ kq2_ (by decide) (by decide) hG_111
          have g := g.more hF_115
          subst hQ
          exact W.vret hx hb hr (fun t ht hW => ⟨⟨_, rfl, Or.inr (⟨hG_116, x_113, h_114, x_84, h_85, x_106, h_107, y_90, (bd_sub b_91 (by decide)), (g.fcts [0, 4, 1, 2] rfl)⟩), q3_of g hK ht hW⟩, g.2.2.1.F ht⟩) g.2.2.1.2.2 dX2_readMark_243
        refine lv_tableOut (tgt := 208) hx hb dX2_readMark_91 (by have a0 : r_1.toInt ≠ 16 := fun h => e_94 (Int32.toInt_inj.mp (h.trans (by decide))); have a1 : r_1.toInt ≠ 17 := fun h => e_96 (Int32.toInt_inj.mp (h.trans (by decide))); have a2 : r_1.toInt ≠ 18 := fun h => e_98 (Int32.toInt_inj.mp (h.trans (by decide))); have a3 : r_1.toInt ≠ 19 := fun h => e_100 (Int32.toInt_inj.mp (h.trans (by decide))); have a4 : r_1.toInt ≠ 20 := fun h => e_102 (Int32.toInt_inj.mp (h.trans (by decide))); omega) (by decide) ?_
        refine lv_aload_n hx hb dX2_readMark_208 rfl (lv_at hl 2 rfl) ?_
        refine g_getk (C := RX2) (T := TX2) (N := 16) hx hb hts (mc_ inX2) hown hK g rfl 3 (by decide) rfl (hts _ (List.mem_cons_of_mem _ t_419)) (fun _ h9 => h9) 7 rfl dX2_readMark_209 ?_
        refine lv_bipush (v := 6) hx hb dX2_readMark_212 (by decide) ?_
        refine lv_aload_n hx hb dX2_readMark_214 rfl (lv_at hl 2 rfl) ?_
        refine g_getk (C := RX2) (T := TX2) (N := 16) hx hb hts (mc_ inX2) hown hK g rfl 1 (by decide) rfl (hts _ (List.mem_cons_of_mem _ t_417)) (fun _ h9 => h9) 5 rfl dX2_readMark_215 ?_
        refine g_getk (C := RX5) (T := TX5) (N := 9) hx hb hts (mc_ inX5) hown hK g rfl 2 (by decide) rfl (hts _ (List.mem_cons_of_mem _ t_333)) (fun _ h9 => h9) 16 rfl dX2_readMark_218 ?_
        refine lv_iload_n hx hb dX2_readMark_221 rfl (lv_at hl 0 rfl) ?_
        have go_ := g
        refine g_calli (va_runV (As := [.int 6, .int y4_, .int r_3]) (rest := []) ⟨hx, hb, hml, hown, hts⟩ (r_X7_addMark l dC dI L kd tys f H.size g.2.2.2.1 q3_ mq3_ kq3_ 6 y4_ r_3) (cwV 3 hts (gV_ t_1173 t_1174 t_1175 t_191 t_1176) rfl rfl rfl (by decide +kernel) ⟨(Nat.le_of_ble_eq_true rfl), (Nat.le_of_ble_eq_true rfl)⟩) (pre3V g hK mq3_ kq3_ (by decide) (q := (RX7, TX7, 19)) rfl) rfl rfl hl.1 rfl (lv_room (Nat.le_of_ble_eq_true rfl)) dX2_readMark_222 ⟨(Nat.le_of_ble_eq_true rfl), (Nat.le_of_ble_eq_true rfl)⟩) g hK (by decide) (by decide) (fx' := [(6, 12, q5_, .int y_90), (2, 6, a0_, .int 1), (8, 6, q0_, .int 1201), (8, 8, q0_, .int x_84), (2, 0, a0_, .ref q0_), (2, 1, a0_, .ref q1_), (2, 2, a0_, .ref q2_), (2, 3, a0_, .ref q3_), (2, 4, a0_, .ref q4_), (2, 5, a0_, .ref q5_), (0, 0, q2_, .ref q0_), (0, 1, q2_, .ref q1_), (5, 0, q1_, .ref q8_), (5, 1, q1_, .ref q9_), (9, 8, q4_, .int y1_), (7, 3, q3_, .int y2_), (5, 2, q1_, .int y4_), (7, 1, q3_, .int y5_)]) rfl (fun r_117 fr_117 H locs hp hMr_117 g => ?_)
        obtain ⟨h_118, x_119, h_120, hF_121⟩ := hp
        have hG_122 := eOK.frame hMr_117 go_.2.2.2.1 mq2_ kq2_ (by decide) (by decide) hG_93
        have g := g.more hF_121
        refine lv_pop hx hb dX2_readMark_225 rfl ?_
        refine lv_aload_n hx hb dX2_readMark_226 rfl (lv_at hl 2 rfl) ?_
        refine g_getk (C := RX2) (T := TX2) (N := 16) hx hb hts (mc_ inX2) hown hK g rfl 5 (by decide) rfl (hts _ (List.mem_cons_of_mem _ t_421)) (fun _ h9 => h9) 10 rfl dX2_readMark_227 ?_
        refine lv_iconst (v := 1) hx hb dX2_readMark_230 (by decide) ?_
        have go_ := g
        refine g_put (C := RX6) (T := TX6) (N := 13) hx hb hts (mc_ inX6) tyX6 tyX6_ok nmX6 hown hK g mq5_ kq5_ (by decide) rfl 6 (by decide) (hts _ (List.mem_cons_of_mem _ t_578)) (fun _ h9 => h9) rfl rfl (okV_i (bd_sub kb_1 (by decide))) rfl rfl (by decide) (Or.inr (Or.inl (by decide))) (fx' := [(7, 13, q3_, .int x_119), (6, 12, q5_, .int y_90), (2, 6, a0_, .int 1), (8, 6, q0_, .int 1201), (8, 8, q0_, .int x_84), (2, 0, a0_, .ref q0_), (2, 1, a0_, .ref q1_), (2, 2, a0_, .ref q2_), (2, 3, a0_, .ref q3_), (2, 4, a0_, .ref q4_), (2, 5, a0_, .ref q5_), (0, 0, q2_, .ref q0_), (0, 1, q2_, .ref q1_), (5, 0, q1_, .ref q8_), (5, 1, q1_, .ref q9_), (9, 8, q4_, .int y1_), (7, 3, q3_, .int y2_), (5, 2, q1_, .int y4_), (7, 1, q3_, .int y5_)]) rfl dX2_readMark_231 (fun f H locs hM_123 g => ?_)
        have hG_124 := eOK.frame hM_123 go_.2.2.2.1 mq2_ kq2_ (by decide) (by decide) hG_122
        refine lv_aload_n hx hb dX2_readMark_234 rfl (lv_at hl 2 rfl) ?_
        refine g_getk (C := RX2) (T := TX2) (N := 16) hx hb hts (mc_ inX2) hown hK g rfl 0 (by decide) rfl (hts _ (List.mem_cons_of_mem _ t_416)) (fun _ h9 => h9) 6 rfl dX2_readMark_235 ?_
        refine lv_bipush (v := 59) hx hb dX2_readMark_238 (by decide) ?_
        have kb_1201 : bd 1201 1201 (1201 : Int32) := ⟨by decide, by decide⟩
        have go_ := g
        refine g_callv (va_runV (As := [.int 59]) (rest := []) ⟨hx, hb, hml, hown, hts⟩ (r_X8_take_2 l dC dI L kd tys f H.size g.2.2.2.1 q0_ mq0_ kq0_ 59 1201 kb_1201 x_84 h_85 (g.fcts [4, 5] rfl)) (cwV 1 hts (gV_ t_1098 t_1099 t_1100 t_184 t_1101) rfl rfl rfl (by decide +kernel) ⟨(Nat.le_of_ble_eq_true rfl), (Nat.le_of_ble_eq_true rfl)⟩) (pre3V g hK mq0_ kq0_ (by decide) (q := (RX8, TX8, 10)) rfl) rfl rfl hl.1 rfl (lv_room (Nat.le_of_ble_eq_true rfl)) dX2_readMark_240 ⟨(Nat.le_of_ble_eq_true rfl), (Nat.le_of_ble_eq_true rfl)⟩) g hK (by decide) (by decide) (fx' := [(6, 6, q5_, .int 1), (7, 13, q3_, .int x_119), (6, 12, q5_, .int y_90), (2, 6, a0_, .int 1), (8, 8, q0_, .int x_84), (2, 0, a0_, .ref q0_), (2, 1, a0_, .ref q1_), (2, 2, a0_, .ref q2_), (2, 3, a0_, .ref q3_), (2, 4, a0_, .ref q4_), (2, 5, a0_, .ref q5_), (0, 0, q2_, .ref q0_), (0, 1, q2_, .ref q1_), (5, 0, q1_, .ref q8_), (5, 1, q1_, .ref q9_), (9, 8, q4_, .int y1_), (7, 3, q3_, .int y2_), (5, 2, q1_, .int y4_), (7, 1, q3_, .int y5_)]) rfl (fun fr_125 H locs hp hMr_125 g => ?_)
        obtain ⟨x_126, h_127, hF_128⟩ := hp
        have hG_129 := eOK.frame hMr_125 go_.2.2.2.1 mq2_ kq2_ (by decide) (by decide) hG_124
        have g := g.more hF_128
        subst hQ
        exact W.vret hx hb hr (fun t ht hW => ⟨⟨_, rfl, Or.inr (⟨hG_129, x_126, h_127, x_84, h_85, x_119, h_120, y_90, (bd_sub b_91 (by decide)), (g.fcts [0, 5, 2, 3] rfl)⟩), q3_of g hK ht hW⟩, g.2.2.1.F ht⟩) g.2.2.1.2.2 dX2_readMark_243
    · have fc_12 := neq_f c_12
      refine lv_iload_n hx hb dX2_readMark_50 rfl (lv_at hl 1 rfl) ?_
      refine lv_bipush (v := 21) hx hb dX2_readMark_51 (by decide) ?_
      have kb_21 : bd 21 21 (21 : Int32) := ⟨by decide, by decide⟩
      refine lv_icmp_ne (tgt := 77) hx hb dX2_readMark_53 (by decide) (fun c_130 => ?_) (fun c_130 => ?_)
      · have fc_130 := neq_f c_130
        refine lv_aload_n hx hb dX2_readMark_77 rfl (lv_at hl 2 rfl) ?_
        refine g_getk (C := RX2) (T := TX2) (N := 16) hx hb hts (mc_ inX2) hown hK g rfl 5 (by decide) rfl (hts _ (List.mem_cons_of_mem _ t_421)) (fun _ h9 => h9) 6 rfl dX2_readMark_78 ?_
        refine lv_dup hx hb dX2_readMark_81 rfl ?_
        refine g_getk (C := RX6) (T := TX6) (N := 13) hx hb hts (mc_ inX6) hown hK g rfl 12 (by decide) rfl (hts _ (List.mem_cons_of_mem _ t_591)) (fun _ h9 => h9) 14 rfl dX2_readMark_82 ?_
        refine lv_iconst (v := 1) hx hb dX2_readMark_85 (by decide) ?_
        have kb_1 : bd 1 1 (1 : Int32) := ⟨by decide, by decide⟩
        refine lv_iadd hx hb dX2_readMark_86 ?_
        refine lv_topi (fun y_131 ey_131 => ?_)
        have ty_131 := add_bd ey_131 b_6 kb_1 (by decide)
        have b_132 : bd 1 8 y_131 := add_rg ty_131 b_6 kb_1 (by decide)
        have go_ := g
        refine g_put (C := RX6) (T := TX6) (N := 13) hx hb hts (mc_ inX6) tyX6 tyX6_ok nmX6 hown hK g mq5_ kq5_ (by decide) rfl 12 (by decide) (hts _ (List.mem_cons_of_mem _ t_591)) (fun _ h9 => h9) rfl rfl (okV_i (bd_sub b_132 (by decide))) rfl rfl (by decide) (Or.inr (Or.inl (by decide))) (fx' := [(8, 6, q0_, .int x_8), (2, 0, a0_, .ref q0_), (2, 1, a0_, .ref q1_), (2, 2, a0_, .ref q2_), (2, 3, a0_, .ref q3_), (2, 4, a0_, .ref q4_), (2, 5, a0_, .ref q5_), (0, 0, q2_, .ref q0_), (0, 1, q2_, .ref q1_), (5, 0, q1_, .ref q8_), (5, 1, q1_, .ref q9_), (8, 8, q0_, .int y0_), (9, 8, q4_, .int y1_), (7, 3, q3_, .int y2_), (5, 2, q1_, .int y4_), (7, 1, q3_, .int y5_)]) rfl dX2_readMark_87 (fun f H locs hM_133 g => ?_)
        have hG_134 := eOK.frame hM_133 go_.2.2.2.1 mq2_ kq2_ (by decide) (by decide) hG_11
        refine lv_iload_n hx hb dX2_readMark_90 rfl (lv_at hl 1 rfl) ?_
        by_cases e_135 : r_1 = 16
        · refine lv_topi (fun z_136 ez_136 => ?_)
          obtain rfl : z_136 = 16 := ez_136.trans e_135
          have kb_16 : bd 16 16 (16 : Int32) := ⟨by decide, by decide⟩
          have b_137 : bd 16 16 r_1 := eqX (eq_f e_135) (bdT r_1) kb_16 (by decide)
          refine lv_tableIn (off := 33) (tgt := 124) hx hb dX2_readMark_91 (by decide) (by decide) rfl (by decide) ?_
          refine lv_aload_n hx hb dX2_readMark_124 rfl (lv_at hl 2 rfl) ?_
          refine g_getk (C := RX2) (T := TX2) (N := 16) hx hb hts (mc_ inX2) hown hK g rfl 3 (by decide) rfl (hts _ (List.mem_cons_of_mem _ t_419)) (fun _ h9 => h9) 5 rfl dX2_readMark_125 ?_
          refine lv_iconst (v := 1) hx hb dX2_readMark_128 (by decide) ?_
          refine lv_aload_n hx hb dX2_readMark_129 rfl (lv_at hl 2 rfl) ?_
          refine g_getk (C := RX2) (T := TX2) (N := 16) hx hb hts (mc_ inX2) hown hK g rfl 1 (by decide) rfl (hts _ (List.mem_cons_of_mem _ t_417)) (fun _ h9 => h9) 3 rfl dX2_readMark_130 ?_
          refine g_getk (C := RX5) (T := TX5) (N := 9) hx hb hts (mc_ inX5) hown hK g rfl 2 (by decide) rfl (hts _ (List.mem_cons_of_mem _ t_333)) (fun _ h9 => h9) 15 rfl dX2_readMark_133 ?_
          refine lv_aload_n hx hb dX2_readMark_136 rfl (lv_at hl 2 rfl) ?_
          refine g_getk (C := RX2) (T := TX2) (N := 16) hx hb hts (mc_ inX2) hown hK g rfl 0 (by decide) rfl (hts _ (List.mem_cons_of_mem _ t_416)) (fun _ h9 => h9) 2 rfl dX2_readMark_137 ?_
          have go_ := g
          refine g_calli (va_runV (As := []) (rest := [.int y4_, .int 1, .ref q3_]) ⟨hx, hb, hml, hown, hts⟩ (r_X8_place l dC dI L kd tys f H.size g.2.2.2.1 q0_ mq0_ kq0_) (cwV 0 hts (gV_ t_1110 t_1111 t_1112 t_184 t_1113) rfl rfl rfl (by decide +kernel) ⟨(Nat.le_of_ble_eq_true rfl), (Nat.le_of_ble_eq_true rfl)⟩) (pre3V g hK mq0_ kq0_ (by decide) (q := (RX8, TX8, 10)) rfl) rfl rfl hl.1 rfl (lv_room (Nat.le_of_ble_eq_true rfl)) dX2_readMark_140 ⟨(Nat.le_of_ble_eq_true rfl), (Nat.le_of_ble_eq_true rfl)⟩) g hK (by decide) (by decide) (fx' := [(6, 12, q5_, .int y_131), (8, 6, q0_, .int x_8), (2, 0, a0_, .ref q0_), (2, 1, a0_, .ref q1_), (2, 2, a0_, .ref q2_), (2, 3, a0_, .ref q3_), (2, 4, a0_, .ref q4_), (2, 5, a0_, .ref q5_), (0, 0, q2_, .ref q0_), (0, 1, q2_, .ref q1_), (5, 0, q1_, .ref q8_), (5, 1, q1_, .ref q9_), (8, 8, q0_, .int y0_), (9, 8, q4_, .int y1_), (7, 3, q3_, .int y2_), (5, 2, q1_, .int y4_), (7, 1, q3_, .int y5_)]) rfl (fun r_138 fr_138 H locs hp hMr_138 g => ?_)
          have hG_139 := eOK.frame hMr_138 go_.2.2.2.1 mq2_ kq2_ (by decide) (by decide) hG_134
          have go_ := g
          refine g_calli (va_runV (As := [.int 1, .int y4_, .int r_138]) (rest := []) ⟨hx, hb, hml, hown, hts⟩ (r_X7_addMark l dC dI L kd tys fr_138 H.size g.2.2.2.1 q3_ mq3_ kq3_ 1 y4_ r_138) (cwV 3 hts (gV_ t_1173 t_1174 t_1175 t_191 t_1176) rfl rfl rfl (by decide +kernel) ⟨(Nat.le_of_ble_eq_true rfl), (Nat.le_of_ble_eq_true rfl)⟩) (pre3V g hK mq3_ kq3_ (by decide) (q := (RX7, TX7, 19)) rfl) rfl rfl hl.1 rfl (lv_room (Nat.le_of_ble_eq_true rfl)) dX2_readMark_143 ⟨(Nat.le_of_ble_eq_true rfl), (Nat.le_of_ble_eq_true rfl)⟩) g hK (by decide) (by decide) (fx' := [(6, 12, q5_, .int y_131), (8, 6, q0_, .int x_8), (2, 0, a0_, .ref q0_), (2, 1, a0_, .ref q1_), (2, 2, a0_, .ref q2_), (2, 3, a0_, .ref q3_), (2, 4, a0_, .ref q4_), (2, 5, a0_, .ref q5_), (0, 0, q2_, .ref q0_), (0, 1, q2_, .ref q1_), (5, 0, q1_, .ref q8_), (5, 1, q1_, .ref q9_), (8, 8, q0_, .int y0_), (9, 8, q4_, .int y1_), (7, 3, q3_, .int y2_), (5, 2, q1_, .int y4_), (7, 1, q3_, .int y5_)]) rfl (fun r_140 fr_140 H locs hp hMr_140 g => ?_)
          obtain ⟨h_141, x_142, h_143, hF_144⟩ := hp
          have hG_145 := eOK.frame hMr_140 go_.2.2.2.1 mq2_ kq2_ (by decide) (by decide) hG_139
          have g := g.more hF_144
          refine lv_pop hx hb dX2_readMark_146 rfl ?_
          refine lv_aload_n hx hb dX2_readMark_147 rfl (lv_at hl 2 rfl) ?_
          refine lv_iconst (v := 0) hx hb dX2_readMark_148 (by decide) ?_
          have kb_0 : bd 0 0 (0 : Int32) := ⟨by decide, by decide⟩
          have go_ := g
          refine g_callv (va_runV (As := [.int 0]) (rest := []) ⟨hx, hb, hml, hown, hts⟩ (r_X2_readAsked_8 l dC dI L kd tys fr_140 H.size g.2.2.2.1 a0_ ma0_ ka0_ 0 kb_0 q0_ mq0_ kq0_ q1_ mq1_ kq1_ q2_ mq2_ kq2_ q3_ mq3_ kq3_ q8_ mq8_ kq8_ q9_ mq9_ kq9_ x_142 h_143 y0_ by0_ y2_ by2_ y4_ by4_ y5_ by5_ hG_145 (g.fcts [3, 4, 5, 6, 9, 10, 11, 12, 0, 13, 15, 16, 17] rfl)) (cwV 1 hts (gV_ t_1178 t_1180 t_13 t_183 t_1181) rfl rfl rfl (by decide +kernel) ⟨(Nat.le_of_ble_eq_true rfl), (Nat.le_of_ble_eq_true rfl)⟩) (pre3V g hK ma0_ ka0_ (by decide) (q := (RX2, TX2, 16)) rfl) rfl rfl hl.1 rfl (lv_room (Nat.le_of_ble_eq_true rfl)) dX2_readMark_149 ⟨(Nat.le_of_ble_eq_true rfl), (Nat.le_of_ble_eq_true rfl)⟩) g hK (by decide) (by decide) (fx' := [(7, 13, q3_, .int x_142), (6, 12, q5_, .int y_131), (2, 0, a0_, .ref q0_), (2, 1, a0_, .ref q1_), (2, 2, a0_, .ref q2_), (2, 3, a0_, .ref q3_), (2, 4, a0_, .ref q4_), (2, 5, a0_, .ref q5_), (0, 0, q2_, .ref q0_), (0, 1, q2_, .ref q1_), (5, 0, q1_, .ref q8_), (5, 1, q1_, .ref q9_), (9, 8, q4_, .int y1_), (7, 3, q3_, .int y2_), (5, 2, q1_, .int y4_), (7, 1, q3_, .int y5_)]) rfl (fun fr_146 H locs hp hMr_146 g => ?_)
          rcases hp with ⟨hG_147, x_148, h_149, x_150, h_151, hF_152⟩ | ⟨hG_153, x_154, h_155, x_156, h_157, x_158, h_159, hF_160⟩
          · have g := g.more hF_152
            refine lv_goto (tgt := 234) hx hb dX2_readMark_152 (by decide) ?_
            refine lv_aload_n hx hb dX2_readMark_234 rfl (lv_at hl 2 rfl) ?_
            refine g_getk (C := RX2) (T := TX2) (N := 16) hx hb hts (mc_ inX2) hown hK g rfl 0 (by decide) rfl (hts _ (List.mem_cons_of_mem _ t_416)) (fun _ h9 => h9) 7 rfl dX2_readMark_235 ?_
            refine lv_bipush (v := 59) hx hb dX2_readMark_238 (by decide) ?_
            have go_ := g
            refine g_callv (va_runV (As := [.int 59]) (rest := []) ⟨hx, hb, hml, hown, hts⟩ (r_X8_take l dC dI L kd tys fr_146 H.size g.2.2.2.1 q0_ mq0_ kq0_ 59 x_150 h_151 (g.fcts [4] rfl)) (cwV 1 hts (gV_ t_1098 t_1099 t_1100 t_184 t_1101) rfl rfl rfl (by decide +kernel) ⟨(Nat.le_of_ble_eq_true rfl), (Nat.le_of_ble_eq_true rfl)⟩) (pre3V g hK mq0_ kq0_ (by decide) (q := (RX8, TX8, 10)) rfl) rfl rfl hl.1 rfl (lv_room (Nat.le_of_ble_eq_true rfl)) dX2_readMark_240 ⟨(Nat.le_of_ble_eq_true rfl), (Nat.le_of_ble_eq_true rfl)⟩) g hK (by decide) (by decide) (fx' := [(7, 6, q3_, .int x_148), (5, 8, q1_, .int 0), (5, 7, q1_, .int 0), (0, 2, q2_, .ref q8_), (7, 13, q3_, .int x_142), (6, 12, q5_, .int y_131), (2, 0, a0_, .ref q0_), (2, 1, a0_, .ref q1_), (2, 2, a0_, .ref q2_), (2, 3, a0_, .ref q3_), (2, 4, a0_, .ref q4_), (2, 5, a0_, .ref q5_), (0, 0, q2_, .ref q0_), (0, 1, q2_, .ref q1_), (5, 0, q1_, .ref q8_), (5, 1, q1_, .ref q9_), (9, 8, q4_, .int y1_), (7, 3, q3_, .int y2_), (5, 2, q1_, .int y4_), (7, 1, q3_, .int y5_)]) rfl (fun fr_161 H locs hp hMr_161 g => ?_)
            rcases hp with ⟨x_162, h_163, x_164, h_165, hF_166⟩ | ⟨x_167, h_168, hF_169⟩
            · have hG_170 := eOK.frame hMr_161 go_.2.2.2.1 mq2_ kq2_ (by decide) (by decide) hG_147
              have g := g.more hF_166
              subst hQ
              exact W.vret hx hb hr (fun t ht hW => ⟨⟨_, rfl, Or.inl ⟨hG_170, b_6, x_162, h_163, x_164, h_165, x_142, h_143, y_131, b_132, (g.fcts [0, 1, 6, 7] rfl)⟩, q3_of g hK ht hW⟩, g.2.2.1.F ht⟩) g.2.2.1.2.2 dX2_readMark_243
            · have hG_171 := eOK.frame hMr_161 go_.2.2.2.1 mq2_ kq2_ (by decide) (by decide) hG_147
              have g := g.more hF_169
              have kb_1201 : bd 1201 1201 (1201 : Int32) := ⟨by decide, by decide⟩
              subst hQ
              exact W.vret hx hb hr (fun t ht hW => ⟨⟨_, rfl, Or.inr (⟨hG_171, 1201, kb_1201, x_167, h_168, x_142, h_143, y_131, (bd_sub b_132 (by decide)), (g.fcts [0, 1, 6, 7] rfl)⟩), q3_of g hK ht hW⟩, g.2.2.1.F ht⟩) g.2.2.1.2.2 dX2_readMark_243
          · have g := g.more hF_160
            refine lv_goto (tgt := 234) hx hb dX2_readMark_152 (by decide) ?_
            refine lv_aload_n hx hb dX2_readMark_234 rfl (lv_at hl 2 rfl) ?_
            refine g_getk (C := RX2) (T := TX2) (N := 16) hx hb hts (mc_ inX2) hown hK g rfl 0 (by decide) rfl (hts _ (List.mem_cons_of_mem _ t_416)) (fun _ h9 => h9) 8 rfl dX2_readMark_235 ?_
            refine lv_bipush (v := 59) hx hb dX2_readMark_238 (by decide) ?_
            have go_ := g
            refine g_callv (va_runV (As := [.int 59]) (rest := []) ⟨hx, hb, hml, hown, hts⟩ (r_X8_take_2 l dC dI L kd tys fr_146 H.size g.2.2.2.1 q0_ mq0_ kq0_ 59 x_156 h_157 x_158 h_159 (g.fcts [3, 4] rfl)) (cwV 1 hts (gV_ t_1098 t_1099 t_1100 t_184 t_1101) rfl rfl rfl (by decide +kernel) ⟨(Nat.le_of_ble_eq_true rfl), (Nat.le_of_ble_eq_true rfl)⟩) (pre3V g hK mq0_ kq0_ (by decide) (q := (RX8, TX8, 10)) rfl) rfl rfl hl.1 rfl (lv_room (Nat.le_of_ble_eq_true rfl)) dX2_readMark_240 ⟨(Nat.le_of_ble_eq_true rfl), (Nat.le_of_ble_eq_true rfl)⟩) g hK (by decide) (by decide) (fx' := [(7, 6, q3_, .int x_154), (5, 8, q1_, .int 0), (5, 7, q1_, .int 0), (8, 8, q0_, .int x_158), (0, 2, q2_, .ref q8_), (7, 13, q3_, .int x_142), (6, 12, q5_, .int y_131), (2, 0, a0_, .ref q0_), (2, 1, a0_, .ref q1_), (2, 2, a0_, .ref q2_), (2, 3, a0_, .ref q3_), (2, 4, a0_, .ref q4_), (2, 5, a0_, .ref q5_), (0, 0, q2_, .ref q0_), (0, 1, q2_, .ref q1_), (5, 0, q1_, .ref q8_), (5, 1, q1_, .ref q9_), (9, 8, q4_, .int y1_), (7, 3, q3_, .int y2_), (5, 2, q1_, .int y4_), (7, 1, q3_, .int y5_)]) rfl (fun fr_172 H locs hp hMr_172 g => ?_)
            obtain ⟨x_173, h_174, hF_175⟩ := hp
            have hG_176 := eOK.frame hMr_172 go_.2.2.2.1 mq2_ kq2_ (by decide) (by decide) hG_153
            have g := g.more hF_175
            subst hQ
            exact W.vret hx hb hr (fun t ht hW => ⟨⟨_, rfl, Or.inr (⟨hG_176, x_173, h_174, x_158, h_159, x_142, h_143, y_131, (bd_sub b_132 (by decide)), (g.fcts [0, 4, 6, 7] rfl)⟩), q3_of g hK ht hW⟩, g.2.2.1.F ht⟩) g.2.2.1.2.2 dX2_readMark_243
        by_cases e_177 : r_1 = 17
        · refine lv_topi (fun z_178 ez_178 => ?_)
          obtain rfl : z_178 = 17 := ez_178.trans e_177
          have kb_17 : bd 17 17 (17 : Int32) := ⟨by decide, by decide⟩
          have b_179 : bd 17 17 r_1 := eqX (eq_f e_177) (bdT r_1) kb_17 (by decide)
          refine lv_tableIn (off := 64) (tgt := 155) hx hb dX2_readMark_91 (by decide) (by decide) rfl (by decide) ?_
          refine lv_aload_n hx hb dX2_readMark_155 rfl (lv_at hl 2 rfl) ?_
          refine g_getk (C := RX2) (T := TX2) (N := 16) hx hb hts (mc_ inX2) hown hK g rfl 3 (by decide) rfl (hts _ (List.mem_cons_of_mem _ t_419)) (fun _ h9 => h9) 5 rfl dX2_readMark_156 ?_
          refine lv_iconst (v := 2) hx hb dX2_readMark_159 (by decide) ?_
          refine lv_aload_n hx hb dX2_readMark_160 rfl (lv_at hl 2 rfl) ?_
          refine g_getk (C := RX2) (T := TX2) (N := 16) hx hb hts (mc_ inX2) hown hK g rfl 1 (by decide) rfl (hts _ (List.mem_cons_of_mem _ t_417)) (fun _ h9 => h9) 3 rfl dX2_readMark_161 ?_
          refine g_getk (C := RX5) (T := TX5) (N := 9) hx hb hts (mc_ inX5) hown hK g rfl 2 (by decide) rfl (hts _ (List.mem_cons_of_mem _ t_333)) (fun _ h9 => h9) 15 rfl dX2_readMark_164 ?_
          refine lv_aload_n hx hb dX2_readMark_167 rfl (lv_at hl 2 rfl) ?_
          refine g_getk (C := RX2) (T := TX2) (N := 16) hx hb hts (mc_ inX2) hown hK g rfl 0 (by decide) rfl (hts _ (List.mem_cons_of_mem _ t_416)) (fun _ h9 => h9) 2 rfl dX2_readMark_168 ?_
          have go_ := g
          refine g_calli (va_runV (As := []) (rest := [.int y4_, .int 2, .ref q3_]) ⟨hx, hb, hml, hown, hts⟩ (r_X8_place l dC dI L kd tys f H.size g.2.2.2.1 q0_ mq0_ kq0_) (cwV 0 hts (gV_ t_1110 t_1111 t_1112 t_184 t_1113) rfl rfl rfl (by decide +kernel) ⟨(Nat.le_of_ble_eq_true rfl), (Nat.le_of_ble_eq_true rfl)⟩) (pre3V g hK mq0_ kq0_ (by decide) (q := (RX8, TX8, 10)) rfl) rfl rfl hl.1 rfl (lv_room (Nat.le_of_ble_eq_true rfl)) dX2_readMark_171 ⟨(Nat.le_of_ble_eq_true rfl), (Nat.le_of_ble_eq_true rfl)⟩) g hK (by decide) (by decide) (fx' := [(6, 12, q5_, .int y_131), (8, 6, q0_, .int x_8), (2, 0, a0_, .ref q0_), (2, 1, a0_, .ref q1_), (2, 2, a0_, .ref q2_), (2, 3, a0_, .ref q3_), (2, 4, a0_, .ref q4_), (2, 5, a0_, .ref q5_), (0, 0, q2_, .ref q0_), (0, 1, q2_, .ref q1_), (5, 0, q1_, .ref q8_), (5, 1, q1_, .ref q9_), (8, 8, q0_, .int y0_), (9, 8, q4_, .int y1_), (7, 3, q3_, .int y2_), (5, 2, q1_, .int y4_), (7, 1, q3_, .int y5_)]) rfl (fun r_180 fr_180 H locs hp hMr_180 g => ?_)
          have hG_181 := eOK.frame hMr_180 go_.2.2.2.1 mq2_ kq2_ (by decide) (by decide) hG_134
          have go_ := g
          refine g_calli (va_runV (As := [.int 2, .int y4_, .int r_180]) (rest := []) ⟨hx, hb, hml, hown, hts⟩ (r_X7_addMark l dC dI L kd tys fr_180 H.size g.2.2.2.1 q3_ mq3_ kq3_ 2 y4_ r_180) (cwV 3 hts (gV_ t_1173 t_1174 t_1175 t_191 t_1176) rfl rfl rfl (by decide +kernel) ⟨(Nat.le_of_ble_eq_true rfl), (Nat.le_of_ble_eq_true rfl)⟩) (pre3V g hK mq3_ kq3_ (by decide) (q := (RX7, TX7, 19)) rfl) rfl rfl hl.1 rfl (lv_room (Nat.le_of_ble_eq_true rfl)) dX2_readMark_174 ⟨(Nat.le_of_ble_eq_true rfl), (Nat.le_of_ble_eq_true rfl)⟩) g hK (by decide) (by decide) (fx' := [(6, 12, q5_, .int y_131), (8, 6, q0_, .int x_8), (2, 0, a0_, .ref q0_), (2, 1, a0_, .ref q1_), (2, 2, a0_, .ref q2_), (2, 3, a0_, .ref q3_), (2, 4, a0_, .ref q4_), (2, 5, a0_, .ref q5_), (0, 0, q2_, .ref q0_), (0, 1, q2_, .ref q1_), (5, 0, q1_, .ref q8_), (5, 1, q1_, .ref q9_), (8, 8, q0_, .int y0_), (9, 8, q4_, .int y1_), (7, 3, q3_, .int y2_), (5, 2, q1_, .int y4_), (7, 1, q3_, .int y5_)]) rfl (fun r_182 fr_182 H locs hp hMr_182 g => ?_)
          obtain ⟨h_183, x_184, h_185, hF_186⟩ := hp
          have hG_187 := eOK.frame hMr_182 go_.2.2.2.1 mq2_ kq2_ (by decide) (by decide) hG_181
          have g := g.more hF_186
          refine lv_pop hx hb dX2_readMark_177 rfl ?_
          refine lv_aload_n hx hb dX2_readMark_178 rfl (lv_at hl 2 rfl) ?_
          refine lv_iconst (v := 1) hx hb dX2_readMark_179 (by decide) ?_
          have go_ := g
          refine g_callv (va_runV (As := [.int 1]) (rest := []) ⟨hx, hb, hml, hown, hts⟩ (r_X2_readAsked_9 l dC dI L kd tys fr_182 H.size g.2.2.2.1 a0_ ma0_ ka0_ 1 kb_1 q0_ mq0_ kq0_ q1_ mq1_ kq1_ q2_ mq2_ kq2_ q3_ mq3_ kq3_ q8_ mq8_ kq8_ q9_ mq9_ kq9_ x_184 h_185 y0_ by0_ y2_ by2_ y4_ by4_ y5_ by5_ hG_187 (g.fcts [3, 4, 5, 6, 9, 10, 11, 12, 0, 13, 15, 16, 17] rfl)) (cwV 1 hts (gV_ t_1178 t_1180 t_13 t_183 t_1181) rfl rfl rfl (by decide +kernel) ⟨(Nat.le_of_ble_eq_true rfl), (Nat.le_of_ble_eq_true rfl)⟩) (pre3V g hK ma0_ ka0_ (by decide) (q := (RX2, TX2, 16)) rfl) rfl rfl hl.1 rfl (lv_room (Nat.le_of_ble_eq_true rfl)) dX2_readMark_180 ⟨(Nat.le_of_ble_eq_true rfl), (Nat.le_of_ble_eq_true rfl)⟩) g hK (by decide) (by decide) (fx' := [(7, 13, q3_, .int x_184), (6, 12, q5_, .int y_131), (2, 0, a0_, .ref q0_), (2, 1, a0_, .ref q1_), (2, 2, a0_, .ref q2_), (2, 3, a0_, .ref q3_), (2, 4, a0_, .ref q4_), (2, 5, a0_, .ref q5_), (0, 0, q2_, .ref q0_), (0, 1, q2_, .ref q1_), (5, 0, q1_, .ref q8_), (5, 1, q1_, .ref q9_), (9, 8, q4_, .int y1_), (7, 3, q3_, .int y2_), (5, 2, q1_, .int y4_), (7, 1, q3_, .int y5_)]) rfl (fun fr_188 H locs hp hMr_188 g => ?_)
          rcases hp with ⟨hG_189, x_190, h_191, x_192, h_193, hF_194⟩ | ⟨hG_195, x_196, h_197, x_198, h_199, x_200, h_201, hF_202⟩
          · have g := g.more hF_194
            refine lv_goto (tgt := 234) hx hb dX2_readMark_183 (by decide) ?_
            refine lv_aload_n hx hb dX2_readMark_234 rfl (lv_at hl 2 rfl) ?_
            refine g_getk (C := RX2) (T := TX2) (N := 16) hx hb hts (mc_ inX2) hown hK g rfl 0 (by decide) rfl (hts _ (List.mem_cons_of_mem _ t_416)) (fun _ h9 => h9) 7 rfl dX2_readMark_235 ?_
            refine lv_bipush (v := 59) hx hb dX2_readMark_238 (by decide) ?_
            have go_ := g
            refine g_callv (va_runV (As := [.int 59]) (rest := []) ⟨hx, hb, hml, hown, hts⟩ (r_X8_take l dC dI L kd tys fr_188 H.size g.2.2.2.1 q0_ mq0_ kq0_ 59 x_192 h_193 (g.fcts [4] rfl)) (cwV 1 hts (gV_ t_1098 t_1099 t_1100 t_184 t_1101) rfl rfl rfl (by decide +kernel) ⟨(Nat.le_of_ble_eq_true rfl), (Nat.le_of_ble_eq_true rfl)⟩) (pre3V g hK mq0_ kq0_ (by decide) (q := (RX8, TX8, 10)) rfl) rfl rfl hl.1 rfl (lv_room (Nat.le_of_ble_eq_true rfl)) dX2_readMark_240 ⟨(Nat.le_of_ble_eq_true rfl), (Nat.le_of_ble_eq_true rfl)⟩) g hK (by decide) (by decide) (fx' := [(7, 6, q3_, .int x_190), (5, 8, q1_, .int 0), (5, 7, q1_, .int 0), (0, 2, q2_, .ref q8_), (7, 13, q3_, .int x_184), (6, 12, q5_, .int y_131), (2, 0, a0_, .ref q0_), (2, 1, a0_, .ref q1_), (2, 2, a0_, .ref q2_), (2, 3, a0_, .ref q3_), (2, 4, a0_, .ref q4_), (2, 5, a0_, .ref q5_), (0, 0, q2_, .ref q0_), (0, 1, q2_, .ref q1_), (5, 0, q1_, .ref q8_), (5, 1, q1_, .ref q9_), (9, 8, q4_, .int y1_), (7, 3, q3_, .int y2_), (5, 2, q1_, .int y4_), (7, 1, q3_, .int y5_)]) rfl (fun fr_203 H locs hp hMr_203 g => ?_)
            rcases hp with ⟨x_204, h_205, x_206, h_207, hF_208⟩ | ⟨x_209, h_210, hF_211⟩
            · have hG_212 := eOK.frame hMr_203 go_.2.2.2.1 mq2_ kq2_ (by decide) (by decide) hG_189
              have g := g.more hF_208
              subst hQ
              exact W.vret hx hb hr (fun t ht hW => ⟨⟨_, rfl, Or.inl ⟨hG_212, b_6, x_204, h_205, x_206, h_207, x_184, h_185, y_131, b_132, (g.fcts [0, 1, 6, 7] rfl)⟩, q3_of g hK ht hW⟩, g.2.2.1.F ht⟩) g.2.2.1.2.2 dX2_readMark_243
            · have hG_213 := eOK.frame hMr_203 go_.2.2.2.1 mq2_ kq2_ (by decide) (by decide) hG_189
              have g := g.more hF_211
              have kb_1201 : bd 1201 1201 (1201 : Int32) := ⟨by decide, by decide⟩
              subst hQ
              exact W.vret hx hb hr (fun t ht hW => ⟨⟨_, rfl, Or.inr (⟨hG_213, 1201, kb_1201, x_209, h_210, x_184, h_185, y_131, (bd_sub b_132 (by decide)), (g.fcts [0, 1, 6, 7] rfl)⟩), q3_of g hK ht hW⟩, g.2.2.1.F ht⟩) g.2.2.1.2.2 dX2_readMark_243
          · have g := g.more hF_202
            refine lv_goto (tgt := 234) hx hb dX2_readMark_183 (by decide) ?_
            refine lv_aload_n hx hb dX2_readMark_234 rfl (lv_at hl 2 rfl) ?_
            refine g_getk (C := RX2) (T := TX2) (N := 16) hx hb hts (mc_ inX2) hown hK g rfl 0 (by decide) rfl (hts _ (List.mem_cons_of_mem _ t_416)) (fun _ h9 => h9) 8 rfl dX2_readMark_235 ?_
            refine lv_bipush (v := 59) hx hb dX2_readMark_238 (by decide) ?_
            have go_ := g
            refine g_callv (va_runV (As := [.int 59]) (rest := []) ⟨hx, hb, hml, hown, hts⟩ (r_X8_take_2 l dC dI L kd tys fr_188 H.size g.2.2.2.1 q0_ mq0_ kq0_ 59 x_198 h_199 x_200 h_201 (g.fcts [3, 4] rfl)) (cwV 1 hts (gV_ t_1098 t_1099 t_1100 t_184 t_1101) rfl rfl rfl (by decide +kernel) ⟨(Nat.le_of_ble_eq_true rfl), (Nat.le_of_ble_eq_true rfl)⟩) (pre3V g hK mq0_ kq0_ (by decide) (q := (RX8, TX8, 10)) rfl) rfl rfl hl.1 rfl (lv_room (Nat.le_of_ble_eq_true rfl)) dX2_readMark_240 ⟨(Nat.le_of_ble_eq_true rfl), (Nat.le_of_ble_eq_true rfl)⟩) g hK (by decide) (by decide) (fx' := [(7, 6, q3_, .int x_196), (5, 8, q1_, .int 0), (5, 7, q1_, .int 0), (8, 8, q0_, .int x_200), (0, 2, q2_, .ref q8_), (7, 13, q3_, .int x_184), (6, 12, q5_, .int y_131), (2, 0, a0_, .ref q0_), (2, 1, a0_, .ref q1_), (2, 2, a0_, .ref q2_), (2, 3, a0_, .ref q3_), (2, 4, a0_, .ref q4_), (2, 5, a0_, .ref q5_), (0, 0, q2_, .ref q0_), (0, 1, q2_, .ref q1_), (5, 0, q1_, .ref q8_), (5, 1, q1_, .ref q9_), (9, 8, q4_, .int y1_), (7, 3, q3_, .int y2_), (5, 2, q1_, .int y4_), (7, 1, q3_, .int y5_)]) rfl (fun fr_214 H locs hp hMr_214 g => ?_)
            obtain ⟨x_215, h_216, hF_217⟩ := hp
            have hG_218 := eOK.frame hMr_214 go_.2.2.2.1 mq2_ kq2_ (by decide) (by decide) hG_195
            have g := g.more hF_217
            subst hQ
            exact W.vret hx hb hr (fun t ht hW => ⟨⟨_, rfl, Or.inr (⟨hG_218, x_215, h_216, x_200, h_201, x_184, h_185, y_131, (bd_sub b_132 (by decide)), (g.fcts [0, 4, 6, 7] rfl)⟩), q3_of g hK ht hW⟩, g.2.2.1.F ht⟩) g.2.2.1.2.2 dX2_readMark_243
        by_cases e_219 : r_1 = 18
        · refine lv_topi (fun z_220 ez_220 => ?_)
          obtain rfl : z_220 = 18 := ez_220.trans e_219
          have kb_18 : bd 18 18 (18 : Int32) := ⟨by decide, by decide⟩
          have b_221 : bd 18 18 r_1 := eqX (eq_f e_219) (bdT r_1) kb_18 (by decide)
          refine lv_tableIn (off := 95) (tgt := 186) hx hb dX2_readMark_91 (by decide) (by decide) rfl (by decide) ?_
          refine lv_aload_n hx hb dX2_readMark_186 rfl (lv_at hl 2 rfl) ?_
          have go_ := g
          refine g_calli (va_runV (As := []) (rest := []) ⟨hx, hb, hml, hown, hts⟩ (r_X2_readThrownWord l dC dI L kd tys f H.size g.2.2.2.1 a0_ ma0_ ka0_ q0_ mq0_ kq0_ q3_ mq3_ kq3_ y0_ by0_ (g.fcts [2, 5, 12] rfl)) (cwV 0 hts (gV_ t_1326 t_1328 t_37 t_183 t_1329) rfl rfl rfl (by decide +kernel) ⟨(Nat.le_of_ble_eq_true rfl), (Nat.le_of_ble_eq_true rfl)⟩) (pre3V g hK ma0_ ka0_ (by decide) (q := (RX2, TX2, 16)) rfl) rfl rfl hl.1 rfl (lv_room (Nat.le_of_ble_eq_true rfl)) dX2_readMark_187 ⟨(Nat.le_of_ble_eq_true rfl), (Nat.le_of_ble_eq_true rfl)⟩) g hK (by decide) (by decide) (fx' := [(6, 12, q5_, .int y_131), (2, 0, a0_, .ref q0_), (2, 1, a0_, .ref q1_), (2, 2, a0_, .ref q2_), (2, 3, a0_, .ref q3_), (2, 4, a0_, .ref q4_), (2, 5, a0_, .ref q5_), (0, 0, q2_, .ref q0_), (0, 1, q2_, .ref q1_), (5, 0, q1_, .ref q8_), (5, 1, q1_, .ref q9_), (9, 8, q4_, .int y1_), (7, 3, q3_, .int y2_), (5, 2, q1_, .int y4_), (7, 1, q3_, .int y5_)]) rfl (fun r_222 fr_222 H locs hp hMr_222 g => ?_)
          rcases hp with ⟨h_223, x_224, h_225, x_226, h_227, x_228, h_229, hF_230⟩ | ⟨h_231, x_232, h_233, x_234, h_235, hF_236⟩ | ⟨h_237, x_238, h_239, x_240, h_241, x_242, h_243, hF_244⟩
          · have hG_245 := eOK.frame hMr_222 go_.2.2.2.1 mq2_ kq2_ (by decide) (by decide) hG_134
            obtain rfl : r_222 = 0 := h_223
            have g := g.more hF_230
            refine lv_if_eq (tgt := 234) hx hb dX2_readMark_190 (by decide) (fun c_ => ?_) (fun c_ => absurd (by decide) c_)
            refine lv_aload_n hx hb dX2_readMark_234 rfl (lv_at hl 2 rfl) ?_
            refine g_getk (C := RX2) (T := TX2) (N := 16) hx hb hts (mc_ inX2) hown hK g rfl 0 (by decide) rfl (hts _ (List.mem_cons_of_mem _ t_416)) (fun _ h9 => h9) 4 rfl dX2_readMark_235 ?_
            refine lv_bipush (v := 59) hx hb dX2_readMark_238 (by decide) ?_
            have go_ := g
            refine g_callv (va_runV (As := [.int 59]) (rest := []) ⟨hx, hb, hml, hown, hts⟩ (r_X8_take l dC dI L kd tys fr_222 H.size g.2.2.2.1 q0_ mq0_ kq0_ 59 x_226 h_227 (g.fcts [1] rfl)) (cwV 1 hts (gV_ t_1098 t_1099 t_1100 t_184 t_1101) rfl rfl rfl (by decide +kernel) ⟨(Nat.le_of_ble_eq_true rfl), (Nat.le_of_ble_eq_true rfl)⟩) (pre3V g hK mq0_ kq0_ (by decide) (q := (RX8, TX8, 10)) rfl) rfl rfl hl.1 rfl (lv_room (Nat.le_of_ble_eq_true rfl)) dX2_readMark_240 ⟨(Nat.le_of_ble_eq_true rfl), (Nat.le_of_ble_eq_true rfl)⟩) g hK (by decide) (by decide) (fx' := [(7, 13, q3_, .int x_228), (6, 12, q5_, .int y_131), (2, 0, a0_, .ref q0_), (2, 1, a0_, .ref q1_), (2, 2, a0_, .ref q2_), (2, 3, a0_, .ref q3_), (2, 4, a0_, .ref q4_), (2, 5, a0_, .ref q5_), (0, 0, q2_, .ref q0_), (0, 1, q2_, .ref q1_), (5, 0, q1_, .ref q8_), (5, 1, q1_, .ref q9_), (9, 8, q4_, .int y1_), (7, 3, q3_, .int y2_), (5, 2, q1_, .int y4_), (7, 1, q3_, .int y5_)]) rfl (fun fr_246 H locs hp hMr_246 g => ?_)
            rcases hp with ⟨x_247, h_248, x_249, h_250, hF_251⟩ | ⟨x_252, h_253, hF_254⟩
            · have hG_255 := eOK.frame hMr_246 go_.2.2.2.1 mq2_ kq2_ (by decide) (by decide) hG_245
              have g := g.more hF_251
              subst hQ
              exact W.vret hx hb hr (fun t ht hW => ⟨⟨_, rfl, Or.inl ⟨hG_255, b_6, x_247, h_248, x_249, h_250, x_228, h_229, y_131, b_132, (g.fcts [0, 1, 2, 3] rfl)⟩, q3_of g hK ht hW⟩, g.2.2.1.F ht⟩) g.2.2.1.2.2 dX2_readMark_243
            · have hG_256 := eOK.frame hMr_246 go_.2.2.2.1 mq2_ kq2_ (by decide) (by decide) hG_245
              have g := g.more hF_254
              have kb_1201 : bd 1201 1201 (1201 : Int32) := ⟨by decide, by decide⟩
              subst hQ
              exact W.vret hx hb hr (fun t ht hW => ⟨⟨_, rfl, Or.inr (⟨hG_256, 1201, kb_1201, x_252, h_253, x_228, h_229, y_131, (bd_sub b_132 (by decide)), (g.fcts [0, 1, 2, 3] rfl)⟩), q3_of g hK ht hW⟩, g.2.2.1.F ht⟩) g.2.2.1.2.2 dX2_readMark_243
          · have hG_257 := eOK.frame hMr_222 go_.2.2.2.1 mq2_ kq2_ (by decide) (by decide) hG_134
            obtain rfl : r_222 = 0 := h_231
            have g := g.more hF_236
            refine lv_if_eq (tgt := 234) hx hb dX2_readMark_190 (by decide) (fun c_ => ?_) (fun c_ => absurd (by decide) c_)
            refine lv_aload_n hx hb dX2_readMark_234 rfl (lv_at hl 2 rfl) ?_
            refine g_getk (C := RX2) (T := TX2) (N := 16) hx hb hts (mc_ inX2) hown hK g rfl 0 (by decide) rfl (hts _ (List.mem_cons_of_mem _ t_416)) (fun _ h9 => h9) 4 rfl dX2_readMark_235 ?_
            refine lv_bipush (v := 59) hx hb dX2_readMark_238 (by decide) ?_
            have kb_1201 : bd 1201 1201 (1201 : Int32) := ⟨by decide, by decide⟩
            have go_ := g
            refine g_callv (va_runV (As := [.int 59]) (rest := []) ⟨hx, hb, hml, hown, hts⟩ (r_X8_take_2 l dC dI L kd tys fr_222 H.size g.2.2.2.1 q0_ mq0_ kq0_ 59 1201 kb_1201 x_232 h_233 (g.fcts [0, 1] rfl)) (cwV 1 hts (gV_ t_1098 t_1099 t_1100 t_184 t_1101) rfl rfl rfl (by decide +kernel) ⟨(Nat.le_of_ble_eq_true rfl), (Nat.le_of_ble_eq_true rfl)⟩) (pre3V g hK mq0_ kq0_ (by decide) (q := (RX8, TX8, 10)) rfl) rfl rfl hl.1 rfl (lv_room (Nat.le_of_ble_eq_true rfl)) dX2_readMark_240 ⟨(Nat.le_of_ble_eq_true rfl), (Nat.le_of_ble_eq_true rfl)⟩) g hK (by decide) (by decide) (fx' := [(8, 8, q0_, .int x_232), (7, 13, q3_, .int x_234), (6, 12, q5_, .int y_131), (2, 0, a0_, .ref q0_), (2, 1, a0_, .ref q1_), (2, 2, a0_, .ref q2_), (2, 3, a0_, .ref q3_), (2, 4, a0_, .ref q4_), (2, 5, a0_, .ref q5_), (0, 0, q2_, .ref q0_), (0, 1, q2_, .ref q1_), (5, 0, q1_, .ref q8_), (5, 1, q1_, .ref q9_), (9, 8, q4_, .int y1_), (7, 3, q3_, .int y2_), (5, 2, q1_, .int y4_), (7, 1, q3_, .int y5_)]) rfl (fun fr_258 H locs hp hMr_258 g => ?_)
            obtain ⟨x_259, h_260, hF_261⟩ := hp
            have hG_262 := eOK.frame hMr_258 go_.2.2.2.1 mq2_ kq2_ (by decide) (by decide) hG_257
            have g := g.more hF_261
            subst hQ
            exact W.vret hx hb hr (fun t ht hW => ⟨⟨_, rfl, Or.inr (⟨hG_262, x_259, h_260, x_232, h_233, x_234, h_235, y_131, (bd_sub b_132 (by decide)), (g.fcts [0, 1, 2, 3] rfl)⟩), q3_of g hK ht hW⟩, g.2.2.1.F ht⟩) g.2.2.1.2.2 dX2_readMark_243
          · have hG_263 := eOK.frame hMr_222 go_.2.2.2.1 mq2_ kq2_ (by decide) (by decide) hG_134
            obtain rfl : r_222 = 1 := h_237
            have g := g.more hF_244
            refine lv_if_eq (tgt := 234) hx hb dX2_readMark_190 (by decide) (fun c_ => absurd c_ (by decide)) (fun c_ => ?_)
            refine lv_aload_n hx hb dX2_readMark_193 rfl (lv_at hl 2 rfl) ?_
            refine lv_iconst (v := 0) hx hb dX2_readMark_194 (by decide) ?_
            have kb_0 : bd 0 0 (0 : Int32) := ⟨by decide, by decide⟩
            have go_ := g
            refine g_callv (va_runV (As := [.int 0]) (rest := []) ⟨hx, hb, hml, hown, hts⟩ (r_X2_readAsked_10 l dC dI L kd tys fr_222 H.size g.2.2.2.1 a0_ ma0_ ka0_ 0 kb_0 q0_ mq0_ kq0_ q1_ mq1_ kq1_ q2_ mq2_ kq2_ q3_ mq3_ kq3_ q8_ mq8_ kq8_ q9_ mq9_ kq9_ x_240 h_241 x_242 h_243 y2_ by2_ y4_ by4_ y5_ by5_ hG_263 (g.fcts [4, 5, 6, 7, 10, 11, 12, 13, 1, 2, 15, 16, 17] rfl)) (cwV 1 hts (gV_ t_1178 t_1180 t_13 t_183 t_1181) rfl rfl rfl (by decide +kernel) ⟨(Nat.le_of_ble_eq_true rfl), (Nat.le_of_ble_eq_true rfl)⟩) (pre3V g hK ma0_ ka0_ (by decide) (q := (RX2, TX2, 16)) rfl) rfl rfl hl.1 rfl (lv_room (Nat.le_of_ble_eq_true rfl)) dX2_readMark_195 ⟨(Nat.le_of_ble_eq_true rfl), (Nat.le_of_ble_eq_true rfl)⟩) g hK (by decide) (by decide) (fx' := [(7, 13, q3_, .int x_242), (6, 12, q5_, .int y_131), (2, 0, a0_, .ref q0_), (2, 1, a0_, .ref q1_), (2, 2, a0_, .ref q2_), (2, 3, a0_, .ref q3_), (2, 4, a0_, .ref q4_), (2, 5, a0_, .ref q5_), (0, 0, q2_, .ref q0_), (0, 1, q2_, .ref q1_), (5, 0, q1_, .ref q8_), (5, 1, q1_, .ref q9_), (9, 8, q4_, .int y1_), (7, 3, q3_, .int y2_), (5, 2, q1_, .int y4_), (7, 1, q3_, .int y5_)]) rfl (fun fr_264 H locs hp hMr_264 g => ?_)
            rcases hp with ⟨hG_265, x_266, h_267, x_268, h_269, hF_270⟩ | ⟨hG_271, x_272, h_273, x_274, h_275, x_276, h_277, hF_278⟩
            · have g := g.more hF_270
              refine lv_goto (tgt := 234) hx hb dX2_readMark_198 (by decide) ?_
              refine lv_aload_n hx hb dX2_readMark_234 rfl (lv_at hl 2 rfl) ?_
              refine g_getk (C := RX2) (T := TX2) (N := 16) hx hb hts (mc_ inX2) hown hK g rfl 0 (by decide) rfl (hts _ (List.mem_cons_of_mem _ t_416)) (fun _ h9 => h9) 7 rfl dX2_readMark_235 ?_
              refine lv_bipush (v := 59) hx hb dX2_readMark_238 (by decide) ?_
              have go_ := g
              refine g_callv (va_runV (As := [.int 59]) (rest := []) ⟨hx, hb, hml, hown, hts⟩ (r_X8_take l dC dI L kd tys fr_264 H.size g.2.2.2.1 q0_ mq0_ kq0_ 59 x_268 h_269 (g.fcts [4] rfl)) (cwV 1 hts (gV_ t_1098 t_1099 t_1100 t_184 t_1101) rfl rfl rfl (by decide +kernel) ⟨(Nat.le_of_ble_eq_true rfl), (Nat.le_of_ble_eq_true rfl)⟩) (pre3V g hK mq0_ kq0_ (by decide) (q := (RX8, TX8, 10)) rfl) rfl rfl hl.1 rfl (lv_room (Nat.le_of_ble_eq_true rfl)) dX2_readMark_240 ⟨(Nat.le_of_ble_eq_true rfl), (Nat.le_of_ble_eq_true rfl)⟩) g hK (by decide) (by decide) (fx' := [(7, 6, q3_, .int x_266), (5, 8, q1_, .int 0), (5, 7, q1_, .int 0), (0, 2, q2_, .ref q8_), (7, 13, q3_, .int x_242), (6, 12, q5_, .int y_131), (2, 0, a0_, .ref q0_), (2, 1, a0_, .ref q1_), (2, 2, a0_, .ref q2_), (2, 3, a0_, .ref q3_), (2, 4, a0_, .ref q4_), (2, 5, a0_, .ref q5_), (0, 0, q2_, .ref q0_), (0, 1, q2_, .ref q1_), (5, 0, q1_, .ref q8_), (5, 1, q1_, .ref q9_), (9, 8, q4_, .int y1_), (7, 3, q3_, .int y2_), (5, 2, q1_, .int y4_), (7, 1, q3_, .int y5_)]) rfl (fun fr_279 H locs hp hMr_279 g => ?_)
              rcases hp with ⟨x_280, h_281, x_282, h_283, hF_284⟩ | ⟨x_285, h_286, hF_287⟩
              · have hG_288 := eOK.frame hMr_279 go_.2.2.2.1 mq2_ kq2_ (by decide) (by decide) hG_265
                have g := g.more hF_284
                subst hQ
                exact W.vret hx hb hr (fun t ht hW => ⟨⟨_, rfl, Or.inl ⟨hG_288, b_6, x_280, h_281, x_282, h_283, x_242, h_243, y_131, b_132, (g.fcts [0, 1, 6, 7] rfl)⟩, q3_of g hK ht hW⟩, g.2.2.1.F ht⟩) g.2.2.1.2.2 dX2_readMark_243
              · have hG_289 := eOK.frame hMr_279 go_.2.2.2.1 mq2_ kq2_ (by decide) (by decide) hG_265
                have g := g.more hF_287
                have kb_1201 : bd 1201 1201 (1201 : Int32) := ⟨by decide, by decide⟩
                subst hQ
                exact W.vret hx hb hr (fun t ht hW => ⟨⟨_, rfl, Or.inr (⟨hG_289, 1201, kb_1201, x_285, h_286, x_242, h_243, y_131, (bd_sub b_132 (by decide)), (g.fcts [0, 1, 6, 7] rfl)⟩), q3_of g hK ht hW⟩, g.2.2.1.F ht⟩) g.2.2.1.2.2 dX2_readMark_243
            · have g := g.more hF_278
              refine lv_goto (tgt := 234) hx hb dX2_readMark_198 (by decide) ?_
              refine lv_aload_n hx hb dX2_readMark_234 rfl (lv_at hl 2 rfl) ?_
              refine g_getk (C := RX2) (T := TX2) (N := 16) hx hb hts (mc_ inX2) hown hK g rfl 0 (by decide) rfl (hts _ (List.mem_cons_of_mem _ t_416)) (fun _ h9 => h9) 8 rfl dX2_readMark_235 ?_
              refine lv_bipush (v := 59) hx hb dX2_readMark_238 (by decide) ?_
              have go_ := g
              refine g_callv (va_runV (As := [.int 59]) (rest := []) ⟨hx, hb, hml, hown, hts⟩ (r_X8_take_2 l dC dI L kd tys fr_264 H.size g.2.2.2.1 q0_ mq0_ kq0_ 59 x_274 h_275 x_276 h_277 (g.fcts [3, 4] rfl)) (cwV 1 hts (gV_ t_1098 t_1099 t_1100 t_184 t_1101) rfl rfl rfl (by decide +kernel) ⟨(Nat.le_of_ble_eq_true rfl), (Nat.le_of_ble_eq_true rfl)⟩) (pre3V g hK mq0_ kq0_ (by decide) (q := (RX8, TX8, 10)) rfl) rfl rfl hl.1 rfl (lv_room (Nat.le_of_ble_eq_true rfl)) dX2_readMark_240 ⟨(Nat.le_of_ble_eq_true rfl), (Nat.le_of_ble_eq_true rfl)⟩) g hK (by decide) (by decide) (fx' := [(7, 6, q3_, .int x_272), (5, 8, q1_, .int 0), (5, 7, q1_, .int 0), (8, 8, q0_, .int x_276), (0, 2, q2_, .ref q8_), (7, 13, q3_, .int x_242), (6, 12, q5_, .int y_131), (2, 0, a0_, .ref q0_), (2, 1, a0_, .ref q1_), (2, 2, a0_, .ref q2_), (2, 3, a0_, .ref q3_), (2, 4, a0_, .ref q4_), (2, 5, a0_, .ref q5_), (0, 0, q2_, .ref q0_), (0, 1, q2_, .ref q1_), (5, 0, q1_, .ref q8_), (5, 1, q1_, .ref q9_), (9, 8, q4_, .int y1_), (7, 3, q3_, .int y2_), (5, 2, q1_, .int y4_), (7, 1, q3_, .int y5_)]) rfl (fun fr_290 H locs hp hMr_290 g => ?_)
              obtain ⟨x_291, h_292, hF_293⟩ := hp
              have hG_294 := eOK.frame hMr_290 go_.2.2.2.1 mq2_ kq2_ (by decide) (by decide) hG_271
              have g := g.more hF_293
              subst hQ
              exact W.vret hx hb hr (fun t ht hW => ⟨⟨_, rfl, Or.inr (⟨hG_294, x_291, h_292, x_276, h_277, x_242, h_243, y_131, (bd_sub b_132 (by decide)), (g.fcts [0, 4, 6, 7] rfl)⟩), q3_of g hK ht hW⟩, g.2.2.1.F ht⟩) g.2.2.1.2.2 dX2_readMark_243
        by_cases e_295 : r_1 = 19
        · refine lv_topi (fun z_296 ez_296 => ?_)
          obtain rfl : z_296 = 19 := ez_296.trans e_295
          have kb_19 : bd 19 19 (19 : Int32) := ⟨by decide, by decide⟩
          have b_297 : bd 19 19 r_1 := eqX (eq_f e_295) (bdT r_1) kb_19 (by decide)
          refine lv_tableIn (off := 117) (tgt := 208) hx hb dX2_readMark_91 (by decide) (by decide) rfl (by decide) ?_
          refine lv_aload_n hx hb dX2_readMark_208 rfl (lv_at hl 2 rfl) ?_
          refine g_getk (C := RX2) (T := TX2) (N := 16) hx hb hts (mc_ inX2) hown hK g rfl 3 (by decide) rfl (hts _ (List.mem_cons_of_mem _ t_419)) (fun _ h9 => h9) 5 rfl dX2_readMark_209 ?_
          refine lv_bipush (v := 6) hx hb dX2_readMark_212 (by decide) ?_
          refine lv_aload_n hx hb dX2_readMark_214 rfl (lv_at hl 2 rfl) ?_
          refine g_getk (C := RX2) (T := TX2) (N := 16) hx hb hts (mc_ inX2) hown hK g rfl 1 (by decide) rfl (hts _ (List.mem_cons_of_mem _ t_417)) (fun _ h9 => h9) 3 rfl dX2_readMark_215 ?_
          refine g_getk (C := RX5) (T := TX5) (N := 9) hx hb hts (mc_ inX5) hown hK g rfl 2 (by decide) rfl (hts _ (List.mem_cons_of_mem _ t_333)) (fun _ h9 => h9) 15 rfl dX2_readMark_218 ?_
          refine lv_iload_n hx hb dX2_readMark_221 rfl (lv_at hl 0 rfl) ?_
          have go_ := g
          refine g_calli (va_runV (As := [.int 6, .int y4_, .int r_3]) (rest := []) ⟨hx, hb, hml, hown, hts⟩ (r_X7_addMark l dC dI L kd tys f H.size g.2.2.2.1 q3_ mq3_ kq3_ 6 y4_ r_3) (cwV 3 hts (gV_ t_1173 t_1174 t_1175 t_191 t_1176) rfl rfl rfl (by decide +kernel) ⟨(Nat.le_of_ble_eq_true rfl), (Nat.le_of_ble_eq_true rfl)⟩) (pre3V g hK mq3_ kq3_ (by decide) (q := (RX7, TX7, 19)) rfl) rfl rfl hl.1 rfl (lv_room (Nat.le_of_ble_eq_true rfl)) dX2_readMark_222 ⟨(Nat.le_of_ble_eq_true rfl), (Nat.le_of_ble_eq_true rfl)⟩) g hK (by decide) (by decide) (fx' := [(6, 12, q5_, .int y_131), (8, 6, q0_, .int x_8), (2, 0, a0_, .ref q0_), (2, 1, a0_, .ref q1_), (2, 2, a0_, .ref q2_), (2, 3, a0_, .ref q3_), (2, 4, a0_, .ref q4_), (2, 5, a0_, .ref q5_), (0, 0, q2_, .ref q0_), (0, 1, q2_, .ref q1_), (5, 0, q1_, .ref q8_), (5, 1, q1_, .ref q9_), (8, 8, q0_, .int y0_), (9, 8, q4_, .int y1_), (7, 3, q3_, .int y2_), (5, 2, q1_, .int y4_), (7, 1, q3_, .int y5_)]) rfl (fun r_298 fr_298 H locs hp hMr_298 g => ?_)
          obtain ⟨h_299, x_300, h_301, hF_302⟩ := hp
          have hG_303 := eOK.frame hMr_298 go_.2.2.2.1 mq2_ kq2_ (by decide) (by decide) hG_134
          have g := g.more hF_302
          refine lv_pop hx hb dX2_readMark_225 rfl ?_
          refine lv_aload_n hx hb dX2_readMark_226 rfl (lv_at hl 2 rfl) ?_
          refine g_getk (C := RX2) (T := TX2) (N := 16) hx hb hts (mc_ inX2) hown hK g rfl 5 (by decide) rfl (hts _ (List.mem_cons_of_mem _ t_421)) (fun _ h9 => h9) 8 rfl dX2_readMark_227 ?_
          refine lv_iconst (v := 1) hx hb dX2_readMark_230 (by decide) ?_
          have go_ := g
          refine g_put (C := RX6) (T := TX6) (N := 13) hx hb hts (mc_ inX6) tyX6 tyX6_ok nmX6 hown hK g mq5_ kq5_ (by decide) rfl 6 (by decide) (hts _ (List.mem_cons_of_mem _ t_578)) (fun _ h9 => h9) rfl rfl (okV_i (bd_sub kb_1 (by decide))) rfl rfl (by decide) (Or.inr (Or.inl (by decide))) (fx' := [(7, 13, q3_, .int x_300), (6, 12, q5_, .int y_131), (8, 6, q0_, .int x_8), (2, 0, a0_, .ref q0_), (2, 1, a0_, .ref q1_), (2, 2, a0_, .ref q2_), (2, 3, a0_, .ref q3_), (2, 4, a0_, .ref q4_), (2, 5, a0_, .ref q5_), (0, 0, q2_, .ref q0_), (0, 1, q2_, .ref q1_), (5, 0, q1_, .ref q8_), (5, 1, q1_, .ref q9_), (8, 8, q0_, .int y0_), (9, 8, q4_, .int y1_), (7, 3, q3_, .int y2_), (5, 2, q1_, .int y4_), (7, 1, q3_, .int y5_)]) rfl dX2_readMark_231 (fun f H locs hM_304 g => ?_)
          have hG_305 := eOK.frame hM_304 go_.2.2.2.1 mq2_ kq2_ (by decide) (by decide) hG_303
          refine lv_aload_n hx hb dX2_readMark_234 rfl (lv_at hl 2 rfl) ?_
          refine g_getk (C := RX2) (T := TX2) (N := 16) hx hb hts (mc_ inX2) hown hK g rfl 0 (by decide) rfl (hts _ (List.mem_cons_of_mem _ t_416)) (fun _ h9 => h9) 4 rfl dX2_readMark_235 ?_
          refine lv_bipush (v := 59) hx hb dX2_readMark_238 (by decide) ?_
          have go_ := g
          refine g_callv (va_runV (As := [.int 59]) (rest := []) ⟨hx, hb, hml, hown, hts⟩ (r_X8_take l dC dI L kd tys f H.size g.2.2.2.1 q0_ mq0_ kq0_ 59 y0_ by0_ (g.fcts [14] rfl)) (cwV 1 hts (gV_ t_1098 t_1099 t_1100 t_184 t_1101) rfl rfl rfl (by decide +kernel) ⟨(Nat.le_of_ble_eq_true rfl), (Nat.le_of_ble_eq_true rfl)⟩) (pre3V g hK mq0_ kq0_ (by decide) (q := (RX8, TX8, 10)) rfl) rfl rfl hl.1 rfl (lv_room (Nat.le_of_ble_eq_true rfl)) dX2_readMark_240 ⟨(Nat.le_of_ble_eq_true rfl), (Nat.le_of_ble_eq_true rfl)⟩) g hK (by decide) (by decide) (fx' := [(6, 6, q5_, .int 1), (7, 13, q3_, .int x_300), (6, 12, q5_, .int y_131), (2, 0, a0_, .ref q0_), (2, 1, a0_, .ref q1_), (2, 2, a0_, .ref q2_), (2, 3, a0_, .ref q3_), (2, 4, a0_, .ref q4_), (2, 5, a0_, .ref q5_), (0, 0, q2_, .ref q0_), (0, 1, q2_, .ref q1_), (5, 0, q1_, .ref q8_), (5, 1, q1_, .ref q9_), (9, 8, q4_, .int y1_), (7, 3, q3_, .int y2_), (5, 2, q1_, .int y4_), (7, 1, q3_, .int y5_)]) rfl (fun fr_306 H locs hp hMr_306 g => ?_)
          rcases hp with ⟨x_307, h_308, x_309, h_310, hF_311⟩ | ⟨x_312, h_313, hF_314⟩
          · have hG_315 := eOK.frame hMr_306 go_.2.2.2.1 mq2_ kq2_ (by decide) (by decide) hG_305
            have g := g.more hF_311
            subst hQ
            exact W.vret hx hb hr (fun t ht hW => ⟨⟨_, rfl, Or.inl ⟨hG_315, b_6, x_307, h_308, x_309, h_310, x_300, h_301, y_131, b_132, (g.fcts [0, 1, 3, 4] rfl)⟩, q3_of g hK ht hW⟩, g.2.2.1.F ht⟩) g.2.2.1.2.2 dX2_readMark_243
          · have hG_316 := eOK.frame hMr_306 go_.2.2.2.1 mq2_ kq2_ (by decide) (by decide) hG_305
            have g := g.more hF_314
            have kb_1201 : bd 1201 1201 (1201 : Int32) := ⟨by decide, by decide⟩
            subst hQ
            exact W.vret hx hb hr (fun t ht hW => ⟨⟨_, rfl, Or.inr (⟨hG_316, 1201, kb_1201, x_312, h_313, x_300, h_301, y_131, (bd_sub b_132 (by decide)), (g.fcts [0, 1, 3, 4] rfl)⟩), q3_of g hK ht hW⟩, g.2.2.1.F ht⟩) g.2.2.1.2.2 dX2_readMark_243
        by_cases e_317 : r_1 = 20
        · refine lv_topi (fun z_318 ez_318 => ?_)
          obtain rfl : z_318 = 20 := ez_318.trans e_317
          have b_319 : bd 20 20 r_1 := eqX (eq_f e_317) (bdT r_1) kb_20 (by decide)
          refine lv_tableIn (off := 110) (tgt := 201) hx hb dX2_readMark_91 (by decide) (by decide) rfl (by decide) ?_
          refine lv_aload_n hx hb dX2_readMark_201 rfl (lv_at hl 2 rfl) ?_
          have go_ := g
          refine g_callv (va_runV (As := []) (rest := []) ⟨hx, hb, hml, hown, hts⟩ (r_X2_readOnly l dC dI L kd tys f H.size g.2.2.2.1 a0_ ma0_ ka0_ q0_ mq0_ kq0_ q3_ mq3_ kq3_ q4_ mq4_ kq4_ y0_ by0_ (g.fcts [2, 5, 6, 12] rfl)) (cwV 0 hts (gV_ t_1330 t_1332 t_38 t_183 t_1333) rfl rfl rfl (by decide +kernel) ⟨(Nat.le_of_ble_eq_true rfl), (Nat.le_of_ble_eq_true rfl)⟩) (pre3V g hK ma0_ ka0_ (by decide) (q := (RX2, TX2, 16)) rfl) rfl rfl hl.1 rfl (lv_room (Nat.le_of_ble_eq_true rfl)) dX2_readMark_202 ⟨(Nat.le_of_ble_eq_true rfl), (Nat.le_of_ble_eq_true rfl)⟩) g hK (by decide) (by decide) (fx' := [(6, 12, q5_, .int y_131), (2, 0, a0_, .ref q0_), (2, 1, a0_, .ref q1_), (2, 2, a0_, .ref q2_), (2, 3, a0_, .ref q3_), (2, 4, a0_, .ref q4_), (2, 5, a0_, .ref q5_), (0, 0, q2_, .ref q0_), (0, 1, q2_, .ref q1_), (5, 0, q1_, .ref q8_), (5, 1, q1_, .ref q9_), (9, 8, q4_, .int y1_), (7, 3, q3_, .int y2_), (5, 2, q1_, .int y4_), (7, 1, q3_, .int y5_)]) rfl (fun fr_320 H locs hp hMr_320 g => ?_)
          rcases hp with ⟨x_321, h_322, x_323, h_324, hF_325⟩ | ⟨x_326, h_327, x_328, h_329, hF_330⟩
          · have hG_331 := eOK.frame hMr_320 go_.2.2.2.1 mq2_ kq2_ (by decide) (by decide) hG_134
            have g := g.more hF_325
            refine lv_goto (tgt := 234) hx hb dX2_readMark_205 (by decide) ?_
            refine lv_aload_n hx hb dX2_readMark_234 rfl (lv_at hl 2 rfl) ?_
            refine g_getk (C := RX2) (T := TX2) (N := 16) hx hb hts (mc_ inX2) hown hK g rfl 0 (by decide) rfl (hts _ (List.mem_cons_of_mem _ t_416)) (fun _ h9 => h9) 3 rfl dX2_readMark_235 ?_
            refine lv_bipush (v := 59) hx hb dX2_readMark_238 (by decide) ?_
            have go_ := g
            refine g_callv (va_runV (As := [.int 59]) (rest := []) ⟨hx, hb, hml, hown, hts⟩ (r_X8_take l dC dI L kd tys fr_320 H.size g.2.2.2.1 q0_ mq0_ kq0_ 59 x_323 h_324 (g.fcts [1] rfl)) (cwV 1 hts (gV_ t_1098 t_1099 t_1100 t_184 t_1101) rfl rfl rfl (by decide +kernel) ⟨(Nat.le_of_ble_eq_true rfl), (Nat.le_of_ble_eq_true rfl)⟩) (pre3V g hK mq0_ kq0_ (by decide) (q := (RX8, TX8, 10)) rfl) rfl rfl hl.1 rfl (lv_room (Nat.le_of_ble_eq_true rfl)) dX2_readMark_240 ⟨(Nat.le_of_ble_eq_true rfl), (Nat.le_of_ble_eq_true rfl)⟩) g hK (by decide) (by decide) (fx' := [(7, 13, q3_, .int x_321), (6, 12, q5_, .int y_131), (2, 0, a0_, .ref q0_), (2, 1, a0_, .ref q1_), (2, 2, a0_, .ref q2_), (2, 3, a0_, .ref q3_), (2, 4, a0_, .ref q4_), (2, 5, a0_, .ref q5_), (0, 0, q2_, .ref q0_), (0, 1, q2_, .ref q1_), (5, 0, q1_, .ref q8_), (5, 1, q1_, .ref q9_), (9, 8, q4_, .int y1_), (7, 3, q3_, .int y2_), (5, 2, q1_, .int y4_), (7, 1, q3_, .int y5_)]) rfl (fun fr_332 H locs hp hMr_332 g => ?_)
            rcases hp with ⟨x_333, h_334, x_335, h_336, hF_337⟩ | ⟨x_338, h_339, hF_340⟩
            · have hG_341 := eOK.frame hMr_332 go_.2.2.2.1 mq2_ kq2_ (by decide) (by decide) hG_331
              have g := g.more hF_337
              subst hQ
              exact W.vret hx hb hr (fun t ht hW => ⟨⟨_, rfl, Or.inl ⟨hG_341, b_6, x_333, h_334, x_335, h_336, x_321, h_322, y_131, b_132, (g.fcts [0, 1, 2, 3] rfl)⟩, q3_of g hK ht hW⟩, g.2.2.1.F ht⟩) g.2.2.1.2.2 dX2_readMark_243
            · have hG_342 := eOK.frame hMr_332 go_.2.2.2.1 mq2_ kq2_ (by decide) (by decide) hG_331
              have g := g.more hF_340
              have kb_1201 : bd 1201 1201 (1201 : Int32) := ⟨by decide, by decide⟩
              subst hQ
              exact W.vret hx hb hr (fun t ht hW => ⟨⟨_, rfl, Or.inr (⟨hG_342, 1201, kb_1201, x_338, h_339, x_321, h_322, y_131, (bd_sub b_132 (by decide)), (g.fcts [0, 1, 2, 3] rfl)⟩), q3_of g hK ht hW⟩, g.2.2.1.F ht⟩) g.2.2.1.2.2 dX2_readMark_243
          · have hG_343 := eOK.frame hMr_320 go_.2.2.2.1 mq2_ kq2_ (by decide) (by decide) hG_134
            have g := g.more hF_330
            refine lv_goto (tgt := 234) hx hb dX2_readMark_205 (by decide) ?_
            refine lv_aload_n hx hb dX2_readMark_234 rfl (lv_at hl 2 rfl) ?_
            refine g_getk (C := RX2) (T := TX2) (N := 16) hx hb hts (mc_ inX2) hown hK g rfl 0 (by decide) rfl (hts _ (List.mem_cons_of_mem _ t_416)) (fun _ h9 => h9) 4 rfl dX2_readMark_235 ?_
            refine lv_bipush (v := 59) hx hb dX2_readMark_238 (by decide) ?_
            have kb_1201 : bd 1201 1201 (1201 : Int32) := ⟨by decide, by decide⟩
            have go_ := g
            refine g_callv (va_runV (As := [.int 59]) (rest := []) ⟨hx, hb, hml, hown, hts⟩ (r_X8_take_2 l dC dI L kd tys fr_320 H.size g.2.2.2.1 q0_ mq0_ kq0_ 59 1201 kb_1201 x_326 h_327 (g.fcts [0, 1] rfl)) (cwV 1 hts (gV_ t_1098 t_1099 t_1100 t_184 t_1101) rfl rfl rfl (by decide +kernel) ⟨(Nat.le_of_ble_eq_true rfl), (Nat.le_of_ble_eq_true rfl)⟩) (pre3V g hK mq0_ kq0_ (by decide) (q := (RX8, TX8, 10)) rfl) rfl rfl hl.1 rfl (lv_room (Nat.le_of_ble_eq_true rfl)) dX2_readMark_240 ⟨(Nat.le_of_ble_eq_true rfl), (Nat.le_of_ble_eq_true rfl)⟩) g hK (by decide) (by decide) (fx' := [(8, 8, q0_, .int x_326), (7, 13, q3_, .int x_328), (6, 12, q5_, .int y_131), (2, 0, a0_, .ref q0_), (2, 1, a0_, .ref q1_), (2, 2, a0_, .ref q2_), (2, 3, a0_, .ref q3_), (2, 4, a0_, .ref q4_), (2, 5, a0_, .ref q5_), (0, 0, q2_, .ref q0_), (0, 1, q2_, .ref q1_), (5, 0, q1_, .ref q8_), (5, 1, q1_, .ref q9_), (9, 8, q4_, .int y1_), (7, 3, q3_, .int y2_), (5, 2, q1_, .int y4_), (7, 1, q3_, .int y5_)]) rfl (fun fr_344 H locs hp hMr_344 g => ?_)
            obtain ⟨x_345, h_346, hF_347⟩ := hp
            have hG_348 := eOK.frame hMr_344 go_.2.2.2.1 mq2_ kq2_ (by decide) (by decide) hG_343
            have g := g.more hF_347
            subst hQ
            exact W.vret hx hb hr (fun t ht hW => ⟨⟨_, rfl, Or.inr (⟨hG_348, x_345, h_346, x_326, h_327, x_328, h_329, y_131, (bd_sub b_132 (by decide)), (g.fcts [0, 1, 2, 3] rfl)⟩), q3_of g hK ht hW⟩, g.2.2.1.F ht⟩) g.2.2.1.2.2 dX2_readMark_243
        refine lv_tableOut (tgt := 208) hx hb dX2_readMark_91 (by have a0 : r_1.toInt ≠ 16 := fun h => e_135 (Int32.toInt_inj.mp (h.trans (by decide))); have a1 : r_1.toInt ≠ 17 := fun h => e_177 (Int32.toInt_inj.mp (h.trans (by decide))); have a2 : r_1.toInt ≠ 18 := fun h => e_219 (Int32.toInt_inj.mp (h.trans (by decide))); have a3 : r_1.toInt ≠ 19 := fun h => e_295 (Int32.toInt_inj.mp (h.trans (by decide))); have a4 : r_1.toInt ≠ 20 := fun h => e_317 (Int32.toInt_inj.mp (h.trans (by decide))); omega) (by decide) ?_
        refine lv_aload_n hx hb dX2_readMark_208 rfl (lv_at hl 2 rfl) ?_
        refine g_getk (C := RX2) (T := TX2) (N := 16) hx hb hts (mc_ inX2) hown hK g rfl 3 (by decide) rfl (hts _ (List.mem_cons_of_mem _ t_419)) (fun _ h9 => h9) 5 rfl dX2_readMark_209 ?_
        refine lv_bipush (v := 6) hx hb dX2_readMark_212 (by decide) ?_
        refine lv_aload_n hx hb dX2_readMark_214 rfl (lv_at hl 2 rfl) ?_
        refine g_getk (C := RX2) (T := TX2) (N := 16) hx hb hts (mc_ inX2) hown hK g rfl 1 (by decide) rfl (hts _ (List.mem_cons_of_mem _ t_417)) (fun _ h9 => h9) 3 rfl dX2_readMark_215 ?_
        refine g_getk (C := RX5) (T := TX5) (N := 9) hx hb hts (mc_ inX5) hown hK g rfl 2 (by decide) rfl (hts _ (List.mem_cons_of_mem _ t_333)) (fun _ h9 => h9) 15 rfl dX2_readMark_218 ?_
        refine lv_iload_n hx hb dX2_readMark_221 rfl (lv_at hl 0 rfl) ?_
        have go_ := g
        refine g_calli (va_runV (As := [.int 6, .int y4_, .int r_3]) (rest := []) ⟨hx, hb, hml, hown, hts⟩ (r_X7_addMark l dC dI L kd tys f H.size g.2.2.2.1 q3_ mq3_ kq3_ 6 y4_ r_3) (cwV 3 hts (gV_ t_1173 t_1174 t_1175 t_191 t_1176) rfl rfl rfl (by decide +kernel) ⟨(Nat.le_of_ble_eq_true rfl), (Nat.le_of_ble_eq_true rfl)⟩) (pre3V g hK mq3_ kq3_ (by decide) (q := (RX7, TX7, 19)) rfl) rfl rfl hl.1 rfl (lv_room (Nat.le_of_ble_eq_true rfl)) dX2_readMark_222 ⟨(Nat.le_of_ble_eq_true rfl), (Nat.le_of_ble_eq_true rfl)⟩) g hK (by decide) (by decide) (fx' := [(6, 12, q5_, .int y_131), (8, 6, q0_, .int x_8), (2, 0, a0_, .ref q0_), (2, 1, a0_, .ref q1_), (2, 2, a0_, .ref q2_), (2, 3, a0_, .ref q3_), (2, 4, a0_, .ref q4_), (2, 5, a0_, .ref q5_), (0, 0, q2_, .ref q0_), (0, 1, q2_, .ref q1_), (5, 0, q1_, .ref q8_), (5, 1, q1_, .ref q9_), (8, 8, q0_, .int y0_), (9, 8, q4_, .int y1_), (7, 3, q3_, .int y2_), (5, 2, q1_, .int y4_), (7, 1, q3_, .int y5_)]) rfl (fun r_349 fr_349 H locs hp hMr_349 g => ?_)
        obtain ⟨h_350, x_351, h_352, hF_353⟩ := hp
        have hG_354 := eOK.frame hMr_349 go_.2.2.2.1 mq2_ kq2_ (by decide) (by decide) hG_134
        have g := g.more hF_353
        refine lv_pop hx hb dX2_readMark_225 rfl ?_
        refine lv_aload_n hx hb dX2_readMark_226 rfl (lv_at hl 2 rfl) ?_
        refine g_getk (C := RX2) (T := TX2) (N := 16) hx hb hts (mc_ inX2) hown hK g rfl 5 (by decide) rfl (hts _ (List.mem_cons_of_mem _ t_421)) (fun _ h9 => h9) 8 rfl dX2_readMark_227 ?_
        refine lv_iconst (v := 1) hx hb dX2_readMark_230 (by decide) ?_
        have go_ := g
        refine g_put (C := RX6) (T := TX6) (N := 13) hx hb hts (mc_ inX6) tyX6 tyX6_ok nmX6 hown hK g mq5_ kq5_ (by decide) rfl 6 (by decide) (hts _ (List.mem_cons_of_mem _ t_578)) (fun _ h9 => h9) rfl rfl (okV_i (bd_sub kb_1 (by decide))) rfl rfl (by decide) (Or.inr (Or.inl (by decide))) (fx' := [(7, 13, q3_, .int x_351), (6, 12, q5_, .int y_131), (8, 6, q0_, .int x_8), (2, 0, a0_, .ref q0_), (2, 1, a0_, .ref q1_), (2, 2, a0_, .ref q2_), (2, 3, a0_, .ref q3_), (2, 4, a0_, .ref q4_), (2, 5, a0_, .ref q5_), (0, 0, q2_, .ref q0_), (0, 1, q2_, .ref q1_), (5, 0, q1_, .ref q8_), (5, 1, q1_, .ref q9_), (8, 8, q0_, .int y0_), (9, 8, q4_, .int y1_), (7, 3, q3_, .int y2_), (5, 2, q1_, .int y4_), (7, 1, q3_, .int y5_)]) rfl dX2_readMark_231 (fun f H locs hM_355 g => ?_)
        have hG_356 := eOK.frame hM_355 go_.2.2.2.1 mq2_ kq2_ (by decide) (by decide) hG_354
        refine lv_aload_n hx hb dX2_readMark_234 rfl (lv_at hl 2 rfl) ?_
        refine g_getk (C := RX2) (T := TX2) (N := 16) hx hb hts (mc_ inX2) hown hK g rfl 0 (by decide) rfl (hts _ (List.mem_cons_of_mem _ t_416)) (fun _ h9 => h9) 4 rfl dX2_readMark_235 ?_
        refine lv_bipush (v := 59) hx hb dX2_readMark_238 (by decide) ?_
        have go_ := g
        refine g_callv (va_runV (As := [.int 59]) (rest := []) ⟨hx, hb, hml, hown, hts⟩ (r_X8_take l dC dI L kd tys f H.size g.2.2.2.1 q0_ mq0_ kq0_ 59 y0_ by0_ (g.fcts [14] rfl)) (cwV 1 hts (gV_ t_1098 t_1099 t_1100 t_184 t_1101) rfl rfl rfl (by decide +kernel) ⟨(Nat.le_of_ble_eq_true rfl), (Nat.le_of_ble_eq_true rfl)⟩) (pre3V g hK mq0_ kq0_ (by decide) (q := (RX8, TX8, 10)) rfl) rfl rfl hl.1 rfl (lv_room (Nat.le_of_ble_eq_true rfl)) dX2_readMark_240 ⟨(Nat.le_of_ble_eq_true rfl), (Nat.le_of_ble_eq_true rfl)⟩) g hK (by decide) (by decide) (fx' := [(6, 6, q5_, .int 1), (7, 13, q3_, .int x_351), (6, 12, q5_, .int y_131), (2, 0, a0_, .ref q0_), (2, 1, a0_, .ref q1_), (2, 2, a0_, .ref q2_), (2, 3, a0_, .ref q3_), (2, 4, a0_, .ref q4_), (2, 5, a0_, .ref q5_), (0, 0, q2_, .ref q0_), (0, 1, q2_, .ref q1_), (5, 0, q1_, .ref q8_), (5, 1, q1_, .ref q9_), (9, 8, q4_, .int y1_), (7, 3, q3_, .int y2_), (5, 2, q1_, .int y4_), (7, 1, q3_, .int y5_)]) rfl (fun fr_357 H locs hp hMr_357 g => ?_)
        rcases hp with ⟨x_358, h_359, x_360, h_361, hF_362⟩ | ⟨x_363, h_364, hF_365⟩
        · have hG_366 := eOK.frame hMr_357 go_.2.2.2.1 mq2_ kq2_ (by decide) (by decide) hG_356
          have g := g.more hF_362
          subst hQ
          exact W.vret hx hb hr (fun t ht hW => ⟨⟨_, rfl, Or.inl ⟨hG_366, b_6, x_358, h_359, x_360, h_361, x_351, h_352, y_131, b_132, (g.fcts [0, 1, 3, 4] rfl)⟩, q3_of g hK ht hW⟩, g.2.2.1.F ht⟩) g.2.2.1.2.2 dX2_readMark_243
        · have hG_367 := eOK.frame hMr_357 go_.2.2.2.1 mq2_ kq2_ (by decide) (by decide) hG_356
          have g := g.more hF_365
          have kb_1201 : bd 1201 1201 (1201 : Int32) := ⟨by decide, by decide⟩
          subst hQ
          exact W.vret hx hb hr (fun t ht hW => ⟨⟨_, rfl, Or.inr (⟨hG_367, 1201, kb_1201, x_363, h_364, x_351, h_352, y_131, (bd_sub b_132 (by decide)), (g.fcts [0, 1, 3, 4] rfl)⟩), q3_of g hK ht hW⟩, g.2.2.1.F ht⟩) g.2.2.1.2.2 dX2_readMark_243
      · have fc_130 := eq_f c_130
        have b_368 : bd 21 21 r_1 := eqX fc_130 (bdT r_1) kb_21 (by decide)
        refine lv_aload_n hx hb dX2_readMark_56 rfl (lv_at hl 2 rfl) ?_
        refine g_geti (C := RX2) (T := TX2) (N := 16) hx hb hts (mc_ inX2) hown hK g ma0_ ka0_ (by decide) rfl 6 (by decide) rfl (hts _ (List.mem_cons_of_mem _ t_422)) (fun _ h9 => h9) rfl dX2_readMark_57 (fun x_369 bx_369 g => ?_)
        have kb_0 : bd 0 0 (0 : Int32) := ⟨by decide, by decide⟩
        refine lv_if_eq (tgt := 72) hx hb dX2_readMark_60 (by decide) (fun c_370 => ?_) (fun c_370 => ?_)
        · have fc_370 := eq_f c_370
          have b_371 : bd 0 0 x_369 := eqX fc_370 bx_369 kb_0 (by decide)
          refine lv_aload_n hx hb dX2_readMark_72 rfl (lv_at hl 2 rfl) ?_
          refine lv_iconst (v := 1) hx hb dX2_readMark_73 (by decide) ?_
          have kb_1 : bd 1 1 (1 : Int32) := ⟨by decide, by decide⟩
          have go_ := g
          refine g_put (C := RX2) (T := TX2) (N := 16) hx hb hts (mc_ inX2) tyX2 tyX2_ok nmX2 hown hK g ma0_ ka0_ (by decide) rfl 6 (by decide) (hts _ (List.mem_cons_of_mem _ t_422)) (fun _ h9 => h9) rfl rfl (okV_i (bd_sub kb_1 (by decide))) rfl rfl (by decide) (Or.inr (Or.inl (by decide))) (fx' := [(8, 6, q0_, .int x_8), (2, 0, a0_, .ref q0_), (2, 1, a0_, .ref q1_), (2, 2, a0_, .ref q2_), (2, 3, a0_, .ref q3_), (2, 4, a0_, .ref q4_), (2, 5, a0_, .ref q5_), (0, 0, q2_, .ref q0_), (0, 1, q2_, .ref q1_), (5, 0, q1_, .ref q8_), (5, 1, q1_, .ref q9_), (8, 8, q0_, .int y0_), (9, 8, q4_, .int y1_), (7, 3, q3_, .int y2_), (6, 12, q5_, .int y3_), (5, 2, q1_, .int y4_), (7, 1, q3_, .int y5_)]) rfl dX2_readMark_74 (fun f H locs hM_372 g => ?_)
          have hG_373 := eOK.frame hM_372 go_.2.2.2.1 mq2_ kq2_ (by decide) (by decide) hG_11
          refine lv_aload_n hx hb dX2_readMark_77 rfl (lv_at hl 2 rfl) ?_
          refine g_getk (C := RX2) (T := TX2) (N := 16) hx hb hts (mc_ inX2) hown hK g rfl 5 (by decide) rfl (hts _ (List.mem_cons_of_mem _ t_421)) (fun _ h9 => h9) 7 rfl dX2_readMark_78 ?_
          refine lv_dup hx hb dX2_readMark_81 rfl ?_
          refine g_getk (C := RX6) (T := TX6) (N := 13) hx hb hts (mc_ inX6) hown hK g rfl 12 (by decide) rfl (hts _ (List.mem_cons_of_mem _ t_591)) (fun _ h9 => h9) 15 rfl dX2_readMark_82 ?_
          refine lv_iconst (v := 1) hx hb dX2_readMark_85 (by decide) ?_
          refine lv_iadd hx hb dX2_readMark_86 ?_
          refine lv_topi (fun y_374 ey_374 => ?_)
          have ty_374 := add_bd ey_374 b_6 kb_1 (by decide)
          have b_375 : bd 1 8 y_374 := add_rg ty_374 b_6 kb_1 (by decide)
          have go_ := g
          refine g_put (C := RX6) (T := TX6) (N := 13) hx hb hts (mc_ inX6) tyX6 tyX6_ok nmX6 hown hK g mq5_ kq5_ (by decide) rfl 12 (by decide) (hts _ (List.mem_cons_of_mem _ t_591)) (fun _ h9 => h9) rfl rfl (okV_i (bd_sub b_375 (by decide))) rfl rfl (by decide) (Or.inr (Or.inl (by decide))) (fx' := [(2, 6, a0_, .int 1), (8, 6, q0_, .int x_8), (2, 0, a0_, .ref q0_), (2, 1, a0_, .ref q1_), (2, 2, a0_, .ref q2_), (2, 3, a0_, .ref q3_), (2, 4, a0_, .ref q4_), (2, 5, a0_, .ref q5_), (0, 0, q2_, .ref q0_), (0, 1, q2_, .ref q1_), (5, 0, q1_, .ref q8_), (5, 1, q1_, .ref q9_), (8, 8, q0_, .int y0_), (9, 8, q4_, .int y1_), (7, 3, q3_, .int y2_), (5, 2, q1_, .int y4_), (7, 1, q3_, .int y5_)]) rfl dX2_readMark_87 (fun f H locs hM_376 g => ?_)
          have hG_377 := eOK.frame hM_376 go_.2.2.2.1 mq2_ kq2_ (by decide) (by decide) hG_373
          refine lv_iload_n hx hb dX2_readMark_90 rfl (lv_at hl 1 rfl) ?_
          by_cases e_378 : r_1 = 16
          · refine lv_topi (fun z_379 ez_379 => ?_)
            obtain rfl : z_379 = 16 := ez_379.trans e_378
            have kb_16 : bd 16 16 (16 : Int32) := ⟨by decide, by decide⟩
            exact bd_no (eqX (eq_f e_378) b_368 kb_16 (lo := 21) (hi := 16) (by decide)) (by decide)
          by_cases e_380 : r_1 = 17
          · refine lv_topi (fun z_381 ez_381 => ?_)
            obtain rfl : z_381 = 17 := ez_381.trans e_380
            have kb_17 : bd 17 17 (17 : Int32) := ⟨by decide, by decide⟩
            exact bd_no (eqX (eq_f e_380) b_368 kb_17 (lo := 21) (hi := 17) (by decide)) (by decide)
          by_cases e_382 : r_1 = 18
          · refine lv_topi (fun z_383 ez_383 => ?_)
            obtain rfl : z_383 = 18 := ez_383.trans e_382
            have kb_18 : bd 18 18 (18 : Int32) := ⟨by decide, by decide⟩
            exact bd_no (eqX (eq_f e_382) b_368 kb_18 (lo := 21) (hi := 18) (by decide)) (by decide)
          by_cases e_384 : r_1 = 19
          · refine lv_topi (fun z_385 ez_385 => ?_)
            obtain rfl : z_385 = 19 := ez_385.trans e_384
            have kb_19 : bd 19 19 (19 : Int32) := ⟨by decide, by decide⟩
            exact bd_no (eqX (eq_f e_384) b_368 kb_19 (lo := 21) (hi := 19) (by decide)) (by decide)
          by_cases e_386 : r_1 = 20
          · refine lv_topi (fun z_387 ez_387 => ?_)
            obtain rfl : z_387 = 20 := ez_387.trans e_386
            exact bd_no (eqX (eq_f e_386) b_368 kb_20 (lo := 21) (hi := 20) (by decide)) (by decide)
          refine lv_tableOut (tgt := 208) hx hb dX2_readMark_91 (by have a0 : r_1.toInt ≠ 16 := fun h => e_378 (Int32.toInt_inj.mp (h.trans (by decide))); have a1 : r_1.toInt ≠ 17 := fun h => e_380 (Int32.toInt_inj.mp (h.trans (by decide))); have a2 : r_1.toInt ≠ 18 := fun h => e_382 (Int32.toInt_inj.mp (h.trans (by decide))); have a3 : r_1.toInt ≠ 19 := fun h => e_384 (Int32.toInt_inj.mp (h.trans (by decide))); have a4 : r_1.toInt ≠ 20 := fun h => e_386 (Int32.toInt_inj.mp (h.trans (by decide))); omega) (by decide) ?_
          refine lv_aload_n hx hb dX2_readMark_208 rfl (lv_at hl 2 rfl) ?_
          refine g_getk (C := RX2) (T := TX2) (N := 16) hx hb hts (mc_ inX2) hown hK g rfl 3 (by decide) rfl (hts _ (List.mem_cons_of_mem _ t_419)) (fun _ h9 => h9) 6 rfl dX2_readMark_209 ?_
          refine lv_bipush (v := 6) hx hb dX2_readMark_212 (by decide) ?_
          refine lv_aload_n hx hb dX2_readMark_214 rfl (lv_at hl 2 rfl) ?_
          refine g_getk (C := RX2) (T := TX2) (N := 16) hx hb hts (mc_ inX2) hown hK g rfl 1 (by decide) rfl (hts _ (List.mem_cons_of_mem _ t_417)) (fun _ h9 => h9) 4 rfl dX2_readMark_215 ?_
          refine g_getk (C := RX5) (T := TX5) (N := 9) hx hb hts (mc_ inX5) hown hK g rfl 2 (by decide) rfl (hts _ (List.mem_cons_of_mem _ t_333)) (fun _ h9 => h9) 16 rfl dX2_readMark_218 ?_
          refine lv_iload_n hx hb dX2_readMark_221 rfl (lv_at hl 0 rfl) ?_
          have go_ := g
          refine g_calli (va_runV (As := [.int 6, .int y4_, .int r_3]) (rest := []) ⟨hx, hb, hml, hown, hts⟩ (r_X7_addMark l dC dI L kd tys f H.size g.2.2.2.1 q3_ mq3_ kq3_ 6 y4_ r_3) (cwV 3 hts (gV_ t_1173 t_1174 t_1175 t_191 t_1176) rfl rfl rfl (by decide +kernel) ⟨(Nat.le_of_ble_eq_true rfl), (Nat.le_of_ble_eq_true rfl)⟩) (pre3V g hK mq3_ kq3_ (by decide) (q := (RX7, TX7, 19)) rfl) rfl rfl hl.1 rfl (lv_room (Nat.le_of_ble_eq_true rfl)) dX2_readMark_222 ⟨(Nat.le_of_ble_eq_true rfl), (Nat.le_of_ble_eq_true rfl)⟩) g hK (by decide) (by decide) (fx' := [(6, 12, q5_, .int y_374), (2, 6, a0_, .int 1), (8, 6, q0_, .int x_8), (2, 0, a0_, .ref q0_), (2, 1, a0_, .ref q1_), (2, 2, a0_, .ref q2_), (2, 3, a0_, .ref q3_), (2, 4, a0_, .ref q4_), (2, 5, a0_, .ref q5_), (0, 0, q2_, .ref q0_), (0, 1, q2_, .ref q1_), (5, 0, q1_, .ref q8_), (5, 1, q1_, .ref q9_), (8, 8, q0_, .int y0_), (9, 8, q4_, .int y1_), (7, 3, q3_, .int y2_), (5, 2, q1_, .int y4_), (7, 1, q3_, .int y5_)]) rfl (fun r_388 fr_388 H locs hp hMr_388 g => ?_)
          obtain ⟨h_389, x_390, h_391, hF_392⟩ := hp
          have hG_393 := eOK.frame hMr_388 go_.2.2.2.1 mq2_ kq2_ (by decide) (by decide) hG_377
          have g := g.more hF_392
          refine lv_pop hx hb dX2_readMark_225 rfl ?_
          refine lv_aload_n hx hb dX2_readMark_226 rfl (lv_at hl 2 rfl) ?_
          refine g_getk (C := RX2) (T := TX2) (N := 16) hx hb hts (mc_ inX2) hown hK g rfl 5 (by decide) rfl (hts _ (List.mem_cons_of_mem _ t_421)) (fun _ h9 => h9) 9 rfl dX2_readMark_227 ?_
          refine lv_iconst (v := 1) hx hb dX2_readMark_230 (by decide) ?_
          have go_ := g
          refine g_put (C := RX6) (T := TX6) (N := 13) hx hb hts (mc_ inX6) tyX6 tyX6_ok nmX6 hown hK g mq5_ kq5_ (by decide) rfl 6 (by decide) (hts _ (List.mem_cons_of_mem _ t_578)) (fun _ h9 => h9) rfl rfl (okV_i (bd_sub kb_1 (by decide))) rfl rfl (by decide) (Or.inr (Or.inl (by decide))) (fx' := [(7, 13, q3_, .int x_390), (6, 12, q5_, .int y_374), (2, 6, a0_, .int 1), (8, 6, q0_, .int x_8), (2, 0, a0_, .ref q0_), (2, 1, a0_, .ref q1_), (2, 2, a0_, .ref q2_), (2, 3, a0_, .ref q3_), (2, 4, a0_, .ref q4_), (2, 5, a0_, .ref q5_), (0, 0, q2_, .ref q0_), (0, 1, q2_, .ref q1_), (5, 0, q1_, .ref q8_), (5, 1, q1_, .ref q9_), (8, 8, q0_, .int y0_), (9, 8, q4_, .int y1_), (7, 3, q3_, .int y2_), (5, 2, q1_, .int y4_), (7, 1, q3_, .int y5_)]) rfl dX2_readMark_231 (fun f H locs hM_394 g => ?_)
          have hG_395 := eOK.frame hM_394 go_.2.2.2.1 mq2_ kq2_ (by decide) (by decide) hG_393
          refine lv_aload_n hx hb dX2_readMark_234 rfl (lv_at hl 2 rfl) ?_
          refine g_getk (C := RX2) (T := TX2) (N := 16) hx hb hts (mc_ inX2) hown hK g rfl 0 (by decide) rfl (hts _ (List.mem_cons_of_mem _ t_416)) (fun _ h9 => h9) 5 rfl dX2_readMark_235 ?_
          refine lv_bipush (v := 59) hx hb dX2_readMark_238 (by decide) ?_
          have go_ := g
          refine g_callv (va_runV (As := [.int 59]) (rest := []) ⟨hx, hb, hml, hown, hts⟩ (r_X8_take l dC dI L kd tys f H.size g.2.2.2.1 q0_ mq0_ kq0_ 59 y0_ by0_ (g.fcts [15] rfl)) (cwV 1 hts (gV_ t_1098 t_1099 t_1100 t_184 t_1101) rfl rfl rfl (by decide +kernel) ⟨(Nat.le_of_ble_eq_true rfl), (Nat.le_of_ble_eq_true rfl)⟩) (pre3V g hK mq0_ kq0_ (by decide) (q := (RX8, TX8, 10)) rfl) rfl rfl hl.1 rfl (lv_room (Nat.le_of_ble_eq_true rfl)) dX2_readMark_240 ⟨(Nat.le_of_ble_eq_true rfl), (Nat.le_of_ble_eq_true rfl)⟩) g hK (by decide) (by decide) (fx' := [(6, 6, q5_, .int 1), (7, 13, q3_, .int x_390), (6, 12, q5_, .int y_374), (2, 6, a0_, .int 1), (2, 0, a0_, .ref q0_), (2, 1, a0_, .ref q1_), (2, 2, a0_, .ref q2_), (2, 3, a0_, .ref q3_), (2, 4, a0_, .ref q4_), (2, 5, a0_, .ref q5_), (0, 0, q2_, .ref q0_), (0, 1, q2_, .ref q1_), (5, 0, q1_, .ref q8_), (5, 1, q1_, .ref q9_), (9, 8, q4_, .int y1_), (7, 3, q3_, .int y2_), (5, 2, q1_, .int y4_), (7, 1, q3_, .int y5_)]) rfl (fun fr_396 H locs hp hMr_396 g => ?_)
          rcases hp with ⟨x_397, h_398, x_399, h_400, hF_401⟩ | ⟨x_402, h_403, hF_404⟩
          · have hG_405 := eOK.frame hMr_396 go_.2.2.2.1 mq2_ kq2_ (by decide) (by decide) hG_395
            have g := g.more hF_401
            subst hQ
            exact W.vret hx hb hr (fun t ht hW => ⟨⟨_, rfl, Or.inl ⟨hG_405, b_6, x_397, h_398, x_399, h_400, x_390, h_391, y_374, b_375, (g.fcts [0, 1, 3, 4] rfl)⟩, q3_of g hK ht hW⟩, g.2.2.1.F ht⟩) g.2.2.1.2.2 dX2_readMark_243
          · have hG_406 := eOK.frame hMr_396 go_.2.2.2.1 mq2_ kq2_ (by decide) (by decide) hG_395
            have g := g.more hF_404
            have kb_1201 : bd 1201 1201 (1201 : Int32) := ⟨by decide, by decide⟩
            subst hQ
            exact W.vret hx hb hr (fun t ht hW => ⟨⟨_, rfl, Or.inr (⟨hG_406, 1201, kb_1201, x_402, h_403, x_390, h_391, y_374, (bd_sub b_375 (by decide)), (g.fcts [0, 1, 3, 4] rfl)⟩), q3_of g hK ht hW⟩, g.2.2.1.F ht⟩) g.2.2.1.2.2 dX2_readMark_243
        · have fc_370 := neq_f c_370
          have b_407 : bd 1 1 x_369 := neX fc_370 bx_369 kb_0 (by decide)
          refine lv_aload_n hx hb dX2_readMark_63 rfl (lv_at hl 2 rfl) ?_
          refine g_getk (C := RX2) (T := TX2) (N := 16) hx hb hts (mc_ inX2) hown hK g rfl 0 (by decide) rfl (hts _ (List.mem_cons_of_mem _ t_416)) (fun _ h9 => h9) 2 rfl dX2_readMark_64 ?_
          refine lv_iconst (v := 5) hx hb dX2_readMark_67 (by decide) ?_
          refine lv_iload_n hx hb dX2_readMark_68 rfl (lv_at hl 0 rfl) ?_
          have kb_5 : bd 5 5 (5 : Int32) := ⟨by decide, by decide⟩
          have go_ := g
          refine g_callv (va_runV (As := [.int 5, .int r_3]) (rest := []) ⟨hx, hb, hml, hown, hts⟩ (r_X8_fail l dC dI L kd tys fr_7 H.size g.2.2.2.1 q0_ mq0_ kq0_ 5 (bd_sub kb_5 (by decide)) r_3 y0_ by0_ (g.fcts [12] rfl)) (cwV 2 hts (gV_ t_1122 t_1107 t_1108 t_184 t_1109) rfl rfl rfl (by decide +kernel) ⟨(Nat.le_of_ble_eq_true rfl), (Nat.le_of_ble_eq_true rfl)⟩) (pre3V g hK mq0_ kq0_ (by decide) (q := (RX8, TX8, 10)) rfl) rfl rfl hl.1 rfl (lv_room (Nat.le_of_ble_eq_true rfl)) dX2_readMark_69 ⟨(Nat.le_of_ble_eq_true rfl), (Nat.le_of_ble_eq_true rfl)⟩) g hK (by decide) (by decide) (fx' := [(2, 6, a0_, .int x_369), (2, 0, a0_, .ref q0_), (2, 1, a0_, .ref q1_), (2, 2, a0_, .ref q2_), (2, 3, a0_, .ref q3_), (2, 4, a0_, .ref q4_), (2, 5, a0_, .ref q5_), (0, 0, q2_, .ref q0_), (0, 1, q2_, .ref q1_), (5, 0, q1_, .ref q8_), (5, 1, q1_, .ref q9_), (9, 8, q4_, .int y1_), (7, 3, q3_, .int y2_), (6, 12, q5_, .int y3_), (5, 2, q1_, .int y4_), (7, 1, q3_, .int y5_)]) rfl (fun fr_408 H locs hp hMr_408 g => ?_)
          obtain ⟨x_409, h_410, hF_411⟩ := hp
          have hG_412 := eOK.frame hMr_408 go_.2.2.2.1 mq2_ kq2_ (by decide) (by decide) hG_11
          have g := g.more hF_411
          refine lv_aload_n hx hb dX2_readMark_72 rfl (lv_at hl 2 rfl) ?_
          refine lv_iconst (v := 1) hx hb dX2_readMark_73 (by decide) ?_
          have kb_1 : bd 1 1 (1 : Int32) := ⟨by decide, by decide⟩
          have go_ := g
          refine g_put (C := RX2) (T := TX2) (N := 16) hx hb hts (mc_ inX2) tyX2 tyX2_ok nmX2 hown hK g ma0_ ka0_ (by decide) rfl 6 (by decide) (hts _ (List.mem_cons_of_mem _ t_422)) (fun _ h9 => h9) rfl rfl (okV_i (bd_sub kb_1 (by decide))) rfl rfl (by decide) (Or.inr (Or.inl (by decide))) (fx' := [(8, 6, q0_, .int 1201), (8, 8, q0_, .int x_409), (2, 0, a0_, .ref q0_), (2, 1, a0_, .ref q1_), (2, 2, a0_, .ref q2_), (2, 3, a0_, .ref q3_), (2, 4, a0_, .ref q4_), (2, 5, a0_, .ref q5_), (0, 0, q2_, .ref q0_), (0, 1, q2_, .ref q1_), (5, 0, q1_, .ref q8_), (5, 1, q1_, .ref q9_), (9, 8, q4_, .int y1_), (7, 3, q3_, .int y2_), (6, 12, q5_, .int y3_), (5, 2, q1_, .int y4_), (7, 1, q3_, .int y5_)]) rfl dX2_readMark_74 (fun f H locs hM_413 g => ?_)
          have hG_414 := eOK.frame hM_413 go_.2.2.2.1 mq2_ kq2_ (by decide) (by decide) hG_412
          refine lv_aload_n hx hb dX2_readMark_77 rfl (lv_at hl 2 rfl) ?_
          refine g_getk (C := RX2) (T := TX2) (N := 16) hx hb hts (mc_ inX2) hown hK g rfl 5 (by decide) rfl (hts _ (List.mem_cons_of_mem _ t_421)) (fun _ h9 => h9) 8 rfl dX2_readMark_78 ?_
          refine lv_dup hx hb dX2_readMark_81 rfl ?_
          refine g_getk (C := RX6) (T := TX6) (N := 13) hx hb hts (mc_ inX6) hown hK g rfl 12 (by decide) rfl (hts _ (List.mem_cons_of_mem _ t_591)) (fun _ h9 => h9) 15 rfl dX2_readMark_82 ?_
          refine lv_iconst (v := 1) hx hb dX2_readMark_85 (by decide) ?_
          refine lv_iadd hx hb dX2_readMark_86 ?_
          refine lv_topi (fun y_415 ey_415 => ?_)
          have ty_415 := add_bd ey_415 b_6 kb_1 (by decide)
          have b_416 : bd 1 8 y_415 := add_rg ty_415 b_6 kb_1 (by decide)
          have go_ := g
          refine g_put (C := RX6) (T := TX6) (N := 13) hx hb hts (mc_ inX6) tyX6 tyX6_ok nmX6 hown hK g mq5_ kq5_ (by decide) rfl 12 (by decide) (hts _ (List.mem_cons_of_mem _ t_591)) (fun _ h9 => h9) rfl rfl (okV_i (bd_sub b_416 (by decide))) rfl rfl (by decide) (Or.inr (Or.inl (by decide))) (fx' := [(2, 6, a0_, .int 1), (8, 6, q0_, .int 1201), (8, 8, q0_, .int x_409), (2, 0, a0_, .ref q0_), (2, 1, a0_, .ref q1_), (2, 2, a0_, .ref q2_), (2, 3, a0_, .ref q3_), (2, 4, a0_, .ref q4_), (2, 5, a0_, .ref q5_), (0, 0, q2_, .ref q0_), (0, 1, q2_, .ref q1_), (5, 0, q1_, .ref q8_), (5, 1, q1_, .ref q9_), (9, 8, q4_, .int y1_), (7, 3, q3_, .int y2_), (5, 2, q1_, .int y4_), (7, 1, q3_, .int y5_)]) rfl dX2_readMark_87 (fun f H locs hM_417 g => ?_)
          have hG_418 := eOK.frame hM_417 go_.2.2.2.1 mq2_ kq2_ (by decide) (by decide) hG_414
          refine lv_iload_n hx hb dX2_readMark_90 rfl (lv_at hl 1 rfl) ?_
          by_cases e_419 : r_1 = 16
          · refine lv_topi (fun z_420 ez_420 => ?_)
            obtain rfl : z_420 = 16 := ez_420.trans e_419
            have kb_16 : bd 16 16 (16 : Int32) := ⟨by decide, by decide⟩
            exact bd_no (eqX (eq_f e_419) b_368 kb_16 (lo := 21) (hi := 16) (by decide)) (by decide)
          by_cases e_421 : r_1 = 17
          · refine lv_topi (fun z_422 ez_422 => ?_)
            obtain rfl : z_422 = 17 := ez_422.trans e_421
            have kb_17 : bd 17 17 (17 : Int32) := ⟨by decide, by decide⟩
            exact bd_no (eqX (eq_f e_421) b_368 kb_17 (lo := 21) (hi := 17) (by decide)) (by decide)
          by_cases e_423 : r_1 = 18
          · refine lv_topi (fun z_424 ez_424 => ?_)
            obtain rfl : z_424 = 18 := ez_424.trans e_423
            have kb_18 : bd 18 18 (18 : Int32) := ⟨by decide, by decide⟩
            exact bd_no (eqX (eq_f e_423) b_368 kb_18 (lo := 21) (hi := 18) (by decide)) (by decide)
          by_cases e_425 : r_1 = 19
          · refine lv_topi (fun z_426 ez_426 => ?_)
            obtain rfl : z_426 = 19 := ez_426.trans e_425
            have kb_19 : bd 19 19 (19 : Int32) := ⟨by decide, by decide⟩
            exact bd_no (eqX (eq_f e_425) b_368 kb_19 (lo := 21) (hi := 19) (by decide)) (by decide)
          by_cases e_427 : r_1 = 20
          · refine lv_topi (fun z_428 ez_428 => ?_)
            obtain rfl : z_428 = 20 := ez_428.trans e_427
            exact bd_no (eqX (eq_f e_427) b_368 kb_20 (lo := 21) (hi := 20) (by decide)) (by decide)
          refine lv_tableOut (tgt := 208) hx hb dX2_readMark_91 (by have a0 : r_1.toInt ≠ 16 := fun h => e_419 (Int32.toInt_inj.mp (h.trans (by decide))); have a1 : r_1.toInt ≠ 17 := fun h => e_421 (Int32.toInt_inj.mp (h.trans (by decide))); have a2 : r_1.toInt ≠ 18 := fun h => e_423 (Int32.toInt_inj.mp (h.trans (by decide))); have a3 : r_1.toInt ≠ 19 := fun h => e_425 (Int32.toInt_inj.mp (h.trans (by decide))); have a4 : r_1.toInt ≠ 20 := fun h => e_427 (Int32.toInt_inj.mp (h.trans (by decide))); omega) (by decide) ?_
          refine lv_aload_n hx hb dX2_readMark_208 rfl (lv_at hl 2 rfl) ?_
          refine g_getk (C := RX2) (T := TX2) (N := 16) hx hb hts (mc_ inX2) hown hK g rfl 3 (by decide) rfl (hts _ (List.mem_cons_of_mem _ t_419)) (fun _ h9 => h9) 7 rfl dX2_readMark_209 ?_
          refine lv_bipush (v := 6) hx hb dX2_readMark_212 (by decide) ?_
          refine lv_aload_n hx hb dX2_readMark_214 rfl (lv_at hl 2 rfl) ?_
          refine g_getk (C := RX2) (T := TX2) (N := 16) hx hb hts (mc_ inX2) hown hK g rfl 1 (by decide) rfl (hts _ (List.mem_cons_of_mem _ t_417)) (fun _ h9 => h9) 5 rfl dX2_readMark_215 ?_
          refine g_getk (C := RX5) (T := TX5) (N := 9) hx hb hts (mc_ inX5) hown hK g rfl 2 (by decide) rfl (hts _ (List.mem_cons_of_mem _ t_333)) (fun _ h9 => h9) 16 rfl dX2_readMark_218 ?_
          refine lv_iload_n hx hb dX2_readMark_221 rfl (lv_at hl 0 rfl) ?_
          have go_ := g
          refine g_calli (va_runV (As := [.int 6, .int y4_, .int r_3]) (rest := []) ⟨hx, hb, hml, hown, hts⟩ (r_X7_addMark l dC dI L kd tys f H.size g.2.2.2.1 q3_ mq3_ kq3_ 6 y4_ r_3) (cwV 3 hts (gV_ t_1173 t_1174 t_1175 t_191 t_1176) rfl rfl rfl (by decide +kernel) ⟨(Nat.le_of_ble_eq_true rfl), (Nat.le_of_ble_eq_true rfl)⟩) (pre3V g hK mq3_ kq3_ (by decide) (q := (RX7, TX7, 19)) rfl) rfl rfl hl.1 rfl (lv_room (Nat.le_of_ble_eq_true rfl)) dX2_readMark_222 ⟨(Nat.le_of_ble_eq_true rfl), (Nat.le_of_ble_eq_true rfl)⟩) g hK (by decide) (by decide) (fx' := [(6, 12, q5_, .int y_415), (2, 6, a0_, .int 1), (8, 6, q0_, .int 1201), (8, 8, q0_, .int x_409), (2, 0, a0_, .ref q0_), (2, 1, a0_, .ref q1_), (2, 2, a0_, .ref q2_), (2, 3, a0_, .ref q3_), (2, 4, a0_, .ref q4_), (2, 5, a0_, .ref q5_), (0, 0, q2_, .ref q0_), (0, 1, q2_, .ref q1_), (5, 0, q1_, .ref q8_), (5, 1, q1_, .ref q9_), (9, 8, q4_, .int y1_), (7, 3, q3_, .int y2_), (5, 2, q1_, .int y4_), (7, 1, q3_, .int y5_)]) rfl (fun r_429 fr_429 H locs hp hMr_429 g => ?_)
          obtain ⟨h_430, x_431, h_432, hF_433⟩ := hp
          have hG_434 := eOK.frame hMr_429 go_.2.2.2.1 mq2_ kq2_ (by decide) (by decide) hG_418
          have g := g.more hF_433
          refine lv_pop hx hb dX2_readMark_225 rfl ?_
          refine lv_aload_n hx hb dX2_readMark_226 rfl (lv_at hl 2 rfl) ?_
          refine g_getk (C := RX2) (T := TX2) (N := 16) hx hb hts (mc_ inX2) hown hK g rfl 5 (by decide) rfl (hts _ (List.mem_cons_of_mem _ t_421)) (fun _ h9 => h9) 10 rfl dX2_readMark_227 ?_
          refine lv_iconst (v := 1) hx hb dX2_readMark_230 (by decide) ?_
          have go_ := g
          refine g_put (C := RX6) (T := TX6) (N := 13) hx hb hts (mc_ inX6) tyX6 tyX6_ok nmX6 hown hK g mq5_ kq5_ (by decide) rfl 6 (by decide) (hts _ (List.mem_cons_of_mem _ t_578)) (fun _ h9 => h9) rfl rfl (okV_i (bd_sub kb_1 (by decide))) rfl rfl (by decide) (Or.inr (Or.inl (by decide))) (fx' := [(7, 13, q3_, .int x_431), (6, 12, q5_, .int y_415), (2, 6, a0_, .int 1), (8, 6, q0_, .int 1201), (8, 8, q0_, .int x_409), (2, 0, a0_, .ref q0_), (2, 1, a0_, .ref q1_), (2, 2, a0_, .ref q2_), (2, 3, a0_, .ref q3_), (2, 4, a0_, .ref q4_), (2, 5, a0_, .ref q5_), (0, 0, q2_, .ref q0_), (0, 1, q2_, .ref q1_), (5, 0, q1_, .ref q8_), (5, 1, q1_, .ref q9_), (9, 8, q4_, .int y1_), (7, 3, q3_, .int y2_), (5, 2, q1_, .int y4_), (7, 1, q3_, .int y5_)]) rfl dX2_readMark_231 (fun f H locs hM_435 g => ?_)
          have hG_436 := eOK.frame hM_435 go_.2.2.2.1 mq2_ kq2_ (by decide) (by decide) hG_434
          refine lv_aload_n hx hb dX2_readMark_234 rfl (lv_at hl 2 rfl) ?_
          refine g_getk (C := RX2) (T := TX2) (N := 16) hx hb hts (mc_ inX2) hown hK g rfl 0 (by decide) rfl (hts _ (List.mem_cons_of_mem _ t_416)) (fun _ h9 => h9) 6 rfl dX2_readMark_235 ?_
          refine lv_bipush (v := 59) hx hb dX2_readMark_238 (by decide) ?_
          have kb_1201 : bd 1201 1201 (1201 : Int32) := ⟨by decide, by decide⟩
          have go_ := g
          refine g_callv (va_runV (As := [.int 59]) (rest := []) ⟨hx, hb, hml, hown, hts⟩ (r_X8_take_2 l dC dI L kd tys f H.size g.2.2.2.1 q0_ mq0_ kq0_ 59 1201 kb_1201 x_409 h_410 (g.fcts [4, 5] rfl)) (cwV 1 hts (gV_ t_1098 t_1099 t_1100 t_184 t_1101) rfl rfl rfl (by decide +kernel) ⟨(Nat.le_of_ble_eq_true rfl), (Nat.le_of_ble_eq_true rfl)⟩) (pre3V g hK mq0_ kq0_ (by decide) (q := (RX8, TX8, 10)) rfl) rfl rfl hl.1 rfl (lv_room (Nat.le_of_ble_eq_true rfl)) dX2_readMark_240 ⟨(Nat.le_of_ble_eq_true rfl), (Nat.le_of_ble_eq_true rfl)⟩) g hK (by decide) (by decide) (fx' := [(6, 6, q5_, .int 1), (7, 13, q3_, .int x_431), (6, 12, q5_, .int y_415), (2, 6, a0_, .int 1), (8, 8, q0_, .int x_409), (2, 0, a0_, .ref q0_), (2, 1, a0_, .ref q1_), (2, 2, a0_, .ref q2_), (2, 3, a0_, .ref q3_), (2, 4, a0_, .ref q4_), (2, 5, a0_, .ref q5_), (0, 0, q2_, .ref q0_), (0, 1, q2_, .ref q1_), (5, 0, q1_, .ref q8_), (5, 1, q1_, .ref q9_), (9, 8, q4_, .int y1_), (7, 3, q3_, .int y2_), (5, 2, q1_, .int y4_), (7, 1, q3_, .int y5_)]) rfl (fun fr_437 H locs hp hMr_437 g => ?_)
          obtain ⟨x_438, h_439, hF_440⟩ := hp
          have hG_441 := eOK.frame hMr_437 go_.2.2.2.1 mq2_ kq2_ (by decide) (by decide) hG_436
          have g := g.more hF_440
          subst hQ
          exact W.vret hx hb hr (fun t ht hW => ⟨⟨_, rfl, Or.inr (⟨hG_441, x_438, h_439, x_409, h_410, x_431, h_432, y_415, (bd_sub b_416 (by decide)), (g.fcts [0, 5, 2, 3] rfl)⟩), q3_of g hK ht hW⟩, g.2.2.1.F ht⟩) g.2.2.1.2.2 dX2_readMark_243
  · have fc_5 := nlt_f c_5
    have b_442 : bd 8 8 y3_ := leR fc_5 kb_8 by3_ (by decide)
    refine lv_aload_n hx hb dX2_readMark_28 rfl (lv_at hl 2 rfl) ?_
    refine g_getk (C := RX2) (T := TX2) (N := 16) hx hb hts (mc_ inX2) hown hK g rfl 0 (by decide) rfl (hts _ (List.mem_cons_of_mem _ t_416)) (fun _ h9 => h9) 0 rfl dX2_readMark_29 ?_
    refine lv_iconst (v := 4) hx hb dX2_readMark_32 (by decide) ?_
    refine lv_iload_n hx hb dX2_readMark_33 rfl (lv_at hl 0 rfl) ?_
    have kb_4 : bd 4 4 (4 : Int32) := ⟨by decide, by decide⟩
    have go_ := g
    refine g_callv (va_runV (As := [.int 4, .int r_3]) (rest := []) ⟨hx, hb, hml, hown, hts⟩ (r_X8_fail l dC dI L kd tys fr_3 H.size g.2.2.2.1 q0_ mq0_ kq0_ 4 (bd_sub kb_4 (by decide)) r_3 y0_ by0_ (g.fcts [10] rfl)) (cwV 2 hts (gV_ t_1122 t_1107 t_1108 t_184 t_1109) rfl rfl rfl (by decide +kernel) ⟨(Nat.le_of_ble_eq_true rfl), (Nat.le_of_ble_eq_true rfl)⟩) (pre3V g hK mq0_ kq0_ (by decide) (q := (RX8, TX8, 10)) rfl) rfl rfl hl.1 rfl (lv_room (Nat.le_of_ble_eq_true rfl)) dX2_readMark_34 ⟨(Nat.le_of_ble_eq_true rfl), (Nat.le_of_ble_eq_true rfl)⟩) g hK (by decide) (by decide) (fx' := [(2, 0, a0_, .ref q0_), (2, 1, a0_, .ref q1_), (2, 2, a0_, .ref q2_), (2, 3, a0_, .ref q3_), (2, 4, a0_, .ref q4_), (2, 5, a0_, .ref q5_), (0, 0, q2_, .ref q0_), (0, 1, q2_, .ref q1_), (5, 0, q1_, .ref q8_), (5, 1, q1_, .ref q9_), (9, 8, q4_, .int y1_), (7, 3, q3_, .int y2_), (6, 12, q5_, .int y3_), (5, 2, q1_, .int y4_), (7, 1, q3_, .int y5_)]) rfl (fun fr_443 H locs hp hMr_443 g => ?_)
    obtain ⟨x_444, h_445, hF_446⟩ := hp
    have hG_447 := eOK.frame hMr_443 go_.2.2.2.1 mq2_ kq2_ (by decide) (by decide) hG_4
    have g := g.more hF_446
    refine lv_aload_n hx hb dX2_readMark_37 rfl (lv_at hl 2 rfl) ?_
    refine g_getk (C := RX2) (T := TX2) (N := 16) hx hb hts (mc_ inX2) hown hK g rfl 0 (by decide) rfl (hts _ (List.mem_cons_of_mem _ t_416)) (fun _ h9 => h9) 2 rfl dX2_readMark_38 ?_
    have kb_1201 : bd 1201 1201 (1201 : Int32) := ⟨by decide, by decide⟩
    have go_ := g
    refine g_callv (va_runV (As := []) (rest := []) ⟨hx, hb, hml, hown, hts⟩ (r_X8_next_2 l dC dI L kd tys fr_443 H.size g.2.2.2.1 q0_ mq0_ kq0_ 1201 kb_1201 (g.fcts [0] rfl)) (cwV 0 hts (gV_ t_1131 t_1103 t_1104 t_184 t_1105) rfl rfl rfl (by decide +kernel) ⟨(Nat.le_of_ble_eq_true rfl), (Nat.le_of_ble_eq_true rfl)⟩) (pre3V g hK mq0_ kq0_ (by decide) (q := (RX8, TX8, 10)) rfl) rfl rfl hl.1 rfl (lv_room (Nat.le_of_ble_eq_true rfl)) dX2_readMark_41 ⟨(Nat.le_of_ble_eq_true rfl), (Nat.le_of_ble_eq_true rfl)⟩) g hK (by decide) (by decide) (fx' := [(8, 6, q0_, .int 1201), (8, 8, q0_, .int x_444), (2, 0, a0_, .ref q0_), (2, 1, a0_, .ref q1_), (2, 2, a0_, .ref q2_), (2, 3, a0_, .ref q3_), (2, 4, a0_, .ref q4_), (2, 5, a0_, .ref q5_), (0, 0, q2_, .ref q0_), (0, 1, q2_, .ref q1_), (5, 0, q1_, .ref q8_), (5, 1, q1_, .ref q9_), (9, 8, q4_, .int y1_), (7, 3, q3_, .int y2_), (6, 12, q5_, .int y3_), (5, 2, q1_, .int y4_), (7, 1, q3_, .int y5_)]) rfl (fun fr_448 H locs hp hMr_448 g => ?_)
    have hG_449 := eOK.frame hMr_448 go_.2.2.2.1 mq2_ kq2_ (by decide) (by decide) hG_447
    refine lv_iload_n hx hb dX2_readMark_44 rfl (lv_at hl 1 rfl) ?_
    refine lv_bipush (v := 20) hx hb dX2_readMark_45 (by decide) ?_
    have kb_20 : bd 20 20 (20 : Int32) := ⟨by decide, by decide⟩
    refine lv_icmp_eq (tgt := 56) hx hb dX2_readMark_47 (by decide) (fun c_450 => ?_) (fun c_450 => ?_)
    · have fc_450 := eq_f c_450
      have b_451 : bd 20 20 r_1 := eqX fc_450 (bdT r_1) kb_20 (by decide)
      refine lv_aload_n hx hb dX2_readMark_56 rfl (lv_at hl 2 rfl) ?_
      refine g_geti (C := RX2) (T := TX2) (N := 16) hx hb hts (mc_ inX2) hown hK g ma0_ ka0_ (by decide) rfl 6 (by decide) rfl (hts _ (List.mem_cons_of_mem _ t_422)) (fun _ h9 => h9) rfl dX2_readMark_57 (fun x_452 bx_452 g => ?_)
      have kb_0 : bd 0 0 (0 : Int32) := ⟨by decide, by decide⟩
      refine lv_if_eq (tgt := 72) hx hb dX2_readMark_60 (by decide) (fun c_453 => ?_) (fun c_453 => ?_)
      · have fc_453 := eq_f c_453
        have b_454 : bd 0 0 x_452 := eqX fc_453 bx_452 kb_0 (by decide)
        refine lv_aload_n hx hb dX2_readMark_72 rfl (lv_at hl 2 rfl) ?_
        refine lv_iconst (v := 1) hx hb dX2_readMark_73 (by decide) ?_
        have kb_1 : bd 1 1 (1 : Int32) := ⟨by decide, by decide⟩
        have go_ := g
        refine g_put (C := RX2) (T := TX2) (N := 16) hx hb hts (mc_ inX2) tyX2 tyX2_ok nmX2 hown hK g ma0_ ka0_ (by decide) rfl 6 (by decide) (hts _ (List.mem_cons_of_mem _ t_422)) (fun _ h9 => h9) rfl rfl (okV_i (bd_sub kb_1 (by decide))) rfl rfl (by decide) (Or.inr (Or.inl (by decide))) (fx' := [(8, 6, q0_, .int 1201), (8, 8, q0_, .int x_444), (2, 0, a0_, .ref q0_), (2, 1, a0_, .ref q1_), (2, 2, a0_, .ref q2_), (2, 3, a0_, .ref q3_), (2, 4, a0_, .ref q4_), (2, 5, a0_, .ref q5_), (0, 0, q2_, .ref q0_), (0, 1, q2_, .ref q1_), (5, 0, q1_, .ref q8_), (5, 1, q1_, .ref q9_), (9, 8, q4_, .int y1_), (7, 3, q3_, .int y2_), (6, 12, q5_, .int y3_), (5, 2, q1_, .int y4_), (7, 1, q3_, .int y5_)]) rfl dX2_readMark_74 (fun f H locs hM_455 g => ?_)
        have hG_456 := eOK.frame hM_455 go_.2.2.2.1 mq2_ kq2_ (by decide) (by decide) hG_449
        refine lv_aload_n hx hb dX2_readMark_77 rfl (lv_at hl 2 rfl) ?_
        refine g_getk (C := RX2) (T := TX2) (N := 16) hx hb hts (mc_ inX2) hown hK g rfl 5 (by decide) rfl (hts _ (List.mem_cons_of_mem _ t_421)) (fun _ h9 => h9) 8 rfl dX2_readMark_78 ?_
        refine lv_dup hx hb dX2_readMark_81 rfl ?_
        refine g_getk (C := RX6) (T := TX6) (N := 13) hx hb hts (mc_ inX6) hown hK g rfl 12 (by decide) rfl (hts _ (List.mem_cons_of_mem _ t_591)) (fun _ h9 => h9) 15 rfl dX2_readMark_82 ?_
        refine lv_iconst (v := 1) hx hb dX2_readMark_85 (by decide) ?_
        refine lv_iadd hx hb dX2_readMark_86 ?_
        refine lv_topi (fun y_457 ey_457 => ?_)
        have ty_457 := add_bd ey_457 b_442 kb_1 (by decide)
        have b_458 : bd 9 9 y_457 := add_rg ty_457 b_442 kb_1 (by decide)
        have go_ := g
        refine g_put (C := RX6) (T := TX6) (N := 13) hx hb hts (mc_ inX6) tyX6 tyX6_ok nmX6 hown hK g mq5_ kq5_ (by decide) rfl 12 (by decide) (hts _ (List.mem_cons_of_mem _ t_591)) (fun _ h9 => h9) rfl rfl (okV_i (bd_sub b_458 (by decide))) rfl rfl (by decide) (Or.inr (Or.inl (by decide))) (fx' := [(2, 6, a0_, .int 1), (8, 6, q0_, .int 1201), (8, 8, q0_, .int x_444), (2, 0, a0_, .ref q0_), (2, 1, a0_, .ref q1_), (2, 2, a0_, .ref q2_), (2, 3, a0_, .ref q3_), (2, 4, a0_, .ref q4_), (2, 5, a0_, .ref q5_), (0, 0, q2_, .ref q0_), (0, 1, q2_, .ref q1_), (5, 0, q1_, .ref q8_), (5, 1, q1_, .ref q9_), (9, 8, q4_, .int y1_), (7, 3, q3_, .int y2_), (5, 2, q1_, .int y4_), (7, 1, q3_, .int y5_)]) rfl dX2_readMark_87 (fun f H locs hM_459 g => ?_)
        have hG_460 := eOK.frame hM_459 go_.2.2.2.1 mq2_ kq2_ (by decide) (by decide) hG_456
        refine lv_iload_n hx hb dX2_readMark_90 rfl (lv_at hl 1 rfl) ?_
        by_cases e_461 : r_1 = 16
        · refine lv_topi (fun z_462 ez_462 => ?_)
          obtain rfl : z_462 = 16 := ez_462.trans e_461
          have kb_16 : bd 16 16 (16 : Int32) := ⟨by decide, by decide⟩
          exact bd_no (eqX (eq_f e_461) b_451 kb_16 (lo := 20) (hi := 16) (by decide)) (by decide)
        by_cases e_463 : r_1 = 17
        · refine lv_topi (fun z_464 ez_464 => ?_)
          obtain rfl : z_464 = 17 := ez_464.trans e_463
          have kb_17 : bd 17 17 (17 : Int32) := ⟨by decide, by decide⟩
          exact bd_no (eqX (eq_f e_463) b_451 kb_17 (lo := 20) (hi := 17) (by decide)) (by decide)
        by_cases e_465 : r_1 = 18
        · refine lv_topi (fun z_466 ez_466 => ?_)
          obtain rfl : z_466 = 18 := ez_466.trans e_465
          have kb_18 : bd 18 18 (18 : Int32) := ⟨by decide, by decide⟩
          exact bd_no (eqX (eq_f e_465) b_451 kb_18 (lo := 20) (hi := 18) (by decide)) (by decide)
        by_cases e_467 : r_1 = 19
        · refine lv_topi (fun z_468 ez_468 => ?_)
          obtain rfl : z_468 = 19 := ez_468.trans e_467
          have kb_19 : bd 19 19 (19 : Int32) := ⟨by decide, by decide⟩
          exact bd_no (eqX (eq_f e_467) b_451 kb_19 (lo := 20) (hi := 19) (by decide)) (by decide)
        by_cases e_469 : r_1 = 20
        · refine lv_topi (fun z_470 ez_470 => ?_)
          obtain rfl : z_470 = 20 := ez_470.trans e_469
          have b_471 : bd 20 20 r_1 := eqX (eq_f e_469) b_451 kb_20 (by decide)
          refine lv_tableIn (off := 110) (tgt := 201) hx hb dX2_readMark_91 (by decide) (by decide) rfl (by decide) ?_
          refine lv_aload_n hx hb dX2_readMark_201 rfl (lv_at hl 2 rfl) ?_
          have go_ := g
          refine g_callv (va_runV (As := []) (rest := []) ⟨hx, hb, hml, hown, hts⟩ (r_X2_readOnly_2 l dC dI L kd tys f H.size g.2.2.2.1 a0_ ma0_ ka0_ q0_ mq0_ kq0_ q3_ mq3_ kq3_ q4_ mq4_ kq4_ 1201 kb_1201 x_444 h_445 (g.fcts [4, 7, 8, 2, 3] rfl)) (cwV 0 hts (gV_ t_1330 t_1332 t_38 t_183 t_1333) rfl rfl rfl (by decide +kernel) ⟨(Nat.le_of_ble_eq_true rfl), (Nat.le_of_ble_eq_true rfl)⟩) (pre3V g hK ma0_ ka0_ (by decide) (q := (RX2, TX2, 16)) rfl) rfl rfl hl.1 rfl (lv_room (Nat.le_of_ble_eq_true rfl)) dX2_readMark_202 ⟨(Nat.le_of_ble_eq_true rfl), (Nat.le_of_ble_eq_true rfl)⟩) g hK (by decide) (by decide) (fx' := [(6, 12, q5_, .int y_457), (2, 6, a0_, .int 1), (8, 8, q0_, .int x_444), (2, 0, a0_, .ref q0_), (2, 1, a0_, .ref q1_), (2, 2, a0_, .ref q2_), (2, 3, a0_, .ref q3_), (2, 4, a0_, .ref q4_), (2, 5, a0_, .ref q5_), (0, 0, q2_, .ref q0_), (0, 1, q2_, .ref q1_), (5, 0, q1_, .ref q8_), (5, 1, q1_, .ref q9_), (9, 8, q4_, .int y1_), (7, 3, q3_, .int y2_), (5, 2, q1_, .int y4_), (7, 1, q3_, .int y5_)]) rfl (fun fr_472 H locs hp hMr_472 g => ?_)
          obtain ⟨x_473, h_474, x_475, h_476, hF_477⟩ := hp
          have hG_478 := eOK.frame hMr_472 go_.2.2.2.1 mq2_ kq2_ (by decide) (by decide) hG_460
          have g := g.more hF_477
          refine lv_goto (tgt := 234) hx hb dX2_readMark_205 (by decide) ?_
          refine lv_aload_n hx hb dX2_readMark_234 rfl (lv_at hl 2 rfl) ?_
          refine g_getk (C := RX2) (T := TX2) (N := 16) hx hb hts (mc_ inX2) hown hK g rfl 0 (by decide) rfl (hts _ (List.mem_cons_of_mem _ t_416)) (fun _ h9 => h9) 5 rfl dX2_readMark_235 ?_
          refine lv_bipush (v := 59) hx hb dX2_readMark_238 (by decide) ?_
          have go_ := g
          refine g_callv (va_runV (As := [.int 59]) (rest := []) ⟨hx, hb, hml, hown, hts⟩ (r_X8_take_2 l dC dI L kd tys fr_472 H.size g.2.2.2.1 q0_ mq0_ kq0_ 59 x_475 h_476 x_444 h_445 (g.fcts [1, 4] rfl)) (cwV 1 hts (gV_ t_1098 t_1099 t_1100 t_184 t_1101) rfl rfl rfl (by decide +kernel) ⟨(Nat.le_of_ble_eq_true rfl), (Nat.le_of_ble_eq_true rfl)⟩) (pre3V g hK mq0_ kq0_ (by decide) (q := (RX8, TX8, 10)) rfl) rfl rfl hl.1 rfl (lv_room (Nat.le_of_ble_eq_true rfl)) dX2_readMark_240 ⟨(Nat.le_of_ble_eq_true rfl), (Nat.le_of_ble_eq_true rfl)⟩) g hK (by decide) (by decide) (fx' := [(7, 13, q3_, .int x_473), (6, 12, q5_, .int y_457), (2, 6, a0_, .int 1), (8, 8, q0_, .int x_444), (2, 0, a0_, .ref q0_), (2, 1, a0_, .ref q1_), (2, 2, a0_, .ref q2_), (2, 3, a0_, .ref q3_), (2, 4, a0_, .ref q4_), (2, 5, a0_, .ref q5_), (0, 0, q2_, .ref q0_), (0, 1, q2_, .ref q1_), (5, 0, q1_, .ref q8_), (5, 1, q1_, .ref q9_), (9, 8, q4_, .int y1_), (7, 3, q3_, .int y2_), (5, 2, q1_, .int y4_), (7, 1, q3_, .int y5_)]) rfl (fun fr_479 H locs hp hMr_479 g => ?_)
          obtain ⟨x_480, h_481, hF_482⟩ := hp
          have hG_483 := eOK.frame hMr_479 go_.2.2.2.1 mq2_ kq2_ (by decide) (by decide) hG_478
          have g := g.more hF_482
          subst hQ
          exact W.vret hx hb hr (fun t ht hW => ⟨⟨_, rfl, Or.inr (⟨hG_483, x_480, h_481, x_444, h_445, x_473, h_474, y_457, (bd_sub b_458 (by decide)), (g.fcts [0, 4, 1, 2] rfl)⟩), q3_of g hK ht hW⟩, g.2.2.1.F ht⟩) g.2.2.1.2.2 dX2_readMark_243
        refine lv_tableOut (tgt := 208) hx hb dX2_readMark_91 (by have a0 : r_1.toInt ≠ 16 := fun h => e_461 (Int32.toInt_inj.mp (h.trans (by decide))); have a1 : r_1.toInt ≠ 17 := fun h => e_463 (Int32.toInt_inj.mp (h.trans (by decide))); have a2 : r_1.toInt ≠ 18 := fun h => e_465 (Int32.toInt_inj.mp (h.trans (by decide))); have a3 : r_1.toInt ≠ 19 := fun h => e_467 (Int32.toInt_inj.mp (h.trans (by decide))); have a4 : r_1.toInt ≠ 20 := fun h => e_469 (Int32.toInt_inj.mp (h.trans (by decide))); omega) (by decide) ?_
        refine lv_aload_n hx hb dX2_readMark_208 rfl (lv_at hl 2 rfl) ?_
        refine g_getk (C := RX2) (T := TX2) (N := 16) hx hb hts (mc_ inX2) hown hK g rfl 3 (by decide) rfl (hts _ (List.mem_cons_of_mem _ t_419)) (fun _ h9 => h9) 7 rfl dX2_readMark_209 ?_
        refine lv_bipush (v := 6) hx hb dX2_readMark_212 (by decide) ?_
        refine lv_aload_n hx hb dX2_readMark_214 rfl (lv_at hl 2 rfl) ?_
        refine g_getk (C := RX2) (T := TX2) (N := 16) hx hb hts (mc_ inX2) hown hK g rfl 1 (by decide) rfl (hts _ (List.mem_cons_of_mem _ t_417)) (fun _ h9 => h9) 5 rfl dX2_readMark_215 ?_
        refine g_getk (C := RX5) (T := TX5) (N := 9) hx hb hts (mc_ inX5) hown hK g rfl 2 (by decide) rfl (hts _ (List.mem_cons_of_mem _ t_333)) (fun _ h9 => h9) 16 rfl dX2_readMark_218 ?_
        refine lv_iload_n hx hb dX2_readMark_221 rfl (lv_at hl 0 rfl) ?_
        have go_ := g
        refine g_calli (va_runV (As := [.int 6, .int y4_, .int r_3]) (rest := []) ⟨hx, hb, hml, hown, hts⟩ (r_X7_addMark l dC dI L kd tys f H.size g.2.2.2.1 q3_ mq3_ kq3_ 6 y4_ r_3) (cwV 3 hts (gV_ t_1173 t_1174 t_1175 t_191 t_1176) rfl rfl rfl (by decide +kernel) ⟨(Nat.le_of_ble_eq_true rfl), (Nat.le_of_ble_eq_true rfl)⟩) (pre3V g hK mq3_ kq3_ (by decide) (q := (RX7, TX7, 19)) rfl) rfl rfl hl.1 rfl (lv_room (Nat.le_of_ble_eq_true rfl)) dX2_readMark_222 ⟨(Nat.le_of_ble_eq_true rfl), (Nat.le_of_ble_eq_true rfl)⟩) g hK (by decide) (by decide) (fx' := [(6, 12, q5_, .int y_457), (2, 6, a0_, .int 1), (8, 6, q0_, .int 1201), (8, 8, q0_, .int x_444), (2, 0, a0_, .ref q0_), (2, 1, a0_, .ref q1_), (2, 2, a0_, .ref q2_), (2, 3, a0_, .ref q3_), (2, 4, a0_, .ref q4_), (2, 5, a0_, .ref q5_), (0, 0, q2_, .ref q0_), (0, 1, q2_, .ref q1_), (5, 0, q1_, .ref q8_), (5, 1, q1_, .ref q9_), (9, 8, q4_, .int y1_), (7, 3, q3_, .int y2_), (5, 2, q1_, .int y4_), (7, 1, q3_, .int y5_)]) rfl (fun r_484 fr_484 H locs hp hMr_484 g => ?_)
        obtain ⟨h_485, x_486, h_487, hF_488⟩ := hp
        have hG_489 := eOK.frame hMr_484 go_.2.2.2.1 mq2_ kq2_ (by decide) (by decide) hG_460
        have g := g.more hF_488
        refine lv_pop hx hb dX2_readMark_225 rfl ?_
        refine lv_aload_n hx hb dX2_readMark_226 rfl (lv_at hl 2 rfl) ?_
        refine g_getk (C := RX2) (T := TX2) (N := 16) hx hb hts (mc_ inX2) hown hK g rfl 5 (by decide) rfl (hts _ (List.mem_cons_of_mem _ t_421)) (fun _ h9 => h9) 10 rfl dX2_readMark_227 ?_
        refine lv_iconst (v := 1) hx hb dX2_readMark_230 (by decide) ?_
        have go_ := g
        refine g_put (C := RX6) (T := TX6) (N := 13) hx hb hts (mc_ inX6) tyX6 tyX6_ok nmX6 hown hK g mq5_ kq5_ (by decide) rfl 6 (by decide) (hts _ (List.mem_cons_of_mem _ t_578)) (fun _ h9 => h9) rfl rfl (okV_i (bd_sub kb_1 (by decide))) rfl rfl (by decide) (Or.inr (Or.inl (by decide))) (fx' := [(7, 13, q3_, .int x_486), (6, 12, q5_, .int y_457), (2, 6, a0_, .int 1), (8, 6, q0_, .int 1201), (8, 8, q0_, .int x_444), (2, 0, a0_, .ref q0_), (2, 1, a0_, .ref q1_), (2, 2, a0_, .ref q2_), (2, 3, a0_, .ref q3_), (2, 4, a0_, .ref q4_), (2, 5, a0_, .ref q5_), (0, 0, q2_, .ref q0_), (0, 1, q2_, .ref q1_), (5, 0, q1_, .ref q8_), (5, 1, q1_, .ref q9_), (9, 8, q4_, .int y1_), (7, 3, q3_, .int y2_), (5, 2, q1_, .int y4_), (7, 1, q3_, .int y5_)]) rfl dX2_readMark_231 (fun f H locs hM_490 g => ?_)
        have hG_491 := eOK.frame hM_490 go_.2.2.2.1 mq2_ kq2_ (by decide) (by decide) hG_489
        refine lv_aload_n hx hb dX2_readMark_234 rfl (lv_at hl 2 rfl) ?_
        refine g_getk (C := RX2) (T := TX2) (N := 16) hx hb hts (mc_ inX2) hown hK g rfl 0 (by decide) rfl (hts _ (List.mem_cons_of_mem _ t_416)) (fun _ h9 => h9) 6 rfl dX2_readMark_235 ?_
        refine lv_bipush (v := 59) hx hb dX2_readMark_238 (by decide) ?_
        have go_ := g
        refine g_callv (va_runV (As := [.int 59]) (rest := []) ⟨hx, hb, hml, hown, hts⟩ (r_X8_take_2 l dC dI L kd tys f H.size g.2.2.2.1 q0_ mq0_ kq0_ 59 1201 kb_1201 x_444 h_445 (g.fcts [4, 5] rfl)) (cwV 1 hts (gV_ t_1098 t_1099 t_1100 t_184 t_1101) rfl rfl rfl (by decide +kernel) ⟨(Nat.le_of_ble_eq_true rfl), (Nat.le_of_ble_eq_true rfl)⟩) (pre3V g hK mq0_ kq0_ (by decide) (q := (RX8, TX8, 10)) rfl) rfl rfl hl.1 rfl (lv_room (Nat.le_of_ble_eq_true rfl)) dX2_readMark_240 ⟨(Nat.le_of_ble_eq_true rfl), (Nat.le_of_ble_eq_true rfl)⟩) g hK (by decide) (by decide) (fx' := [(6, 6, q5_, .int 1), (7, 13, q3_, .int x_486), (6, 12, q5_, .int y_457), (2, 6, a0_, .int 1), (8, 8, q0_, .int x_444), (2, 0, a0_, .ref q0_), (2, 1, a0_, .ref q1_), (2, 2, a0_, .ref q2_), (2, 3, a0_, .ref q3_), (2, 4, a0_, .ref q4_), (2, 5, a0_, .ref q5_), (0, 0, q2_, .ref q0_), (0, 1, q2_, .ref q1_), (5, 0, q1_, .ref q8_), (5, 1, q1_, .ref q9_), (9, 8, q4_, .int y1_), (7, 3, q3_, .int y2_), (5, 2, q1_, .int y4_), (7, 1, q3_, .int y5_)]) rfl (fun fr_492 H locs hp hMr_492 g => ?_)
        obtain ⟨x_493, h_494, hF_495⟩ := hp
        have hG_496 := eOK.frame hMr_492 go_.2.2.2.1 mq2_ kq2_ (by decide) (by decide) hG_491
        have g := g.more hF_495
        subst hQ
        exact W.vret hx hb hr (fun t ht hW => ⟨⟨_, rfl, Or.inr (⟨hG_496, x_493, h_494, x_444, h_445, x_486, h_487, y_457, (bd_sub b_458 (by decide)), (g.fcts [0, 5, 2, 3] rfl)⟩), q3_of g hK ht hW⟩, g.2.2.1.F ht⟩) g.2.2.1.2.2 dX2_readMark_243
      · have fc_453 := neq_f c_453
        have b_497 : bd 1 1 x_452 := neX fc_453 bx_452 kb_0 (by decide)
        refine lv_aload_n hx hb dX2_readMark_63 rfl (lv_at hl 2 rfl) ?_
        refine g_getk (C := RX2) (T := TX2) (N := 16) hx hb hts (mc_ inX2) hown hK g rfl 0 (by decide) rfl (hts _ (List.mem_cons_of_mem _ t_416)) (fun _ h9 => h9) 3 rfl dX2_readMark_64 ?_
        refine lv_iconst (v := 5) hx hb dX2_readMark_67 (by decide) ?_
        refine lv_iload_n hx hb dX2_readMark_68 rfl (lv_at hl 0 rfl) ?_
        have kb_5 : bd 5 5 (5 : Int32) := ⟨by decide, by decide⟩
        have go_ := g
        refine g_callv (va_runV (As := [.int 5, .int r_3]) (rest := []) ⟨hx, hb, hml, hown, hts⟩ (r_X8_fail_2 l dC dI L kd tys fr_448 H.size g.2.2.2.1 q0_ mq0_ kq0_ 5 (bd_sub kb_5 (by decide)) r_3 x_444 h_445 (g.fcts [2] rfl)) (cwV 2 hts (gV_ t_1122 t_1107 t_1108 t_184 t_1109) rfl rfl rfl (by decide +kernel) ⟨(Nat.le_of_ble_eq_true rfl), (Nat.le_of_ble_eq_true rfl)⟩) (pre3V g hK mq0_ kq0_ (by decide) (q := (RX8, TX8, 10)) rfl) rfl rfl hl.1 rfl (lv_room (Nat.le_of_ble_eq_true rfl)) dX2_readMark_69 ⟨(Nat.le_of_ble_eq_true rfl), (Nat.le_of_ble_eq_true rfl)⟩) g hK (by decide) (by decide) (fx' := [(2, 6, a0_, .int x_452), (8, 8, q0_, .int x_444), (2, 0, a0_, .ref q0_), (2, 1, a0_, .ref q1_), (2, 2, a0_, .ref q2_), (2, 3, a0_, .ref q3_), (2, 4, a0_, .ref q4_), (2, 5, a0_, .ref q5_), (0, 0, q2_, .ref q0_), (0, 1, q2_, .ref q1_), (5, 0, q1_, .ref q8_), (5, 1, q1_, .ref q9_), (9, 8, q4_, .int y1_), (7, 3, q3_, .int y2_), (6, 12, q5_, .int y3_), (5, 2, q1_, .int y4_), (7, 1, q3_, .int y5_)]) rfl (fun fr_498 H locs hp hMr_498 g => ?_)
        have hF_499 := hp
        have hG_500 := eOK.frame hMr_498 go_.2.2.2.1 mq2_ kq2_ (by decide) (by decide) hG_449
        have g := g.more hF_499
        refine lv_aload_n hx hb dX2_readMark_72 rfl (lv_at hl 2 rfl) ?_
        refine lv_iconst (v := 1) hx hb dX2_readMark_73 (by decide) ?_
        have kb_1 : bd 1 1 (1 : Int32) := ⟨by decide, by decide⟩
        have go_ := g
        refine g_put (C := RX2) (T := TX2) (N := 16) hx hb hts (mc_ inX2) tyX2 tyX2_ok nmX2 hown hK g ma0_ ka0_ (by decide) rfl 6 (by decide) (hts _ (List.mem_cons_of_mem _ t_422)) (fun _ h9 => h9) rfl rfl (okV_i (bd_sub kb_1 (by decide))) rfl rfl (by decide) (Or.inr (Or.inl (by decide))) (fx' := [(8, 6, q0_, .int 1201), (8, 8, q0_, .int x_444), (2, 0, a0_, .ref q0_), (2, 1, a0_, .ref q1_), (2, 2, a0_, .ref q2_), (2, 3, a0_, .ref q3_), (2, 4, a0_, .ref q4_), (2, 5, a0_, .ref q5_), (0, 0, q2_, .ref q0_), (0, 1, q2_, .ref q1_), (5, 0, q1_, .ref q8_), (5, 1, q1_, .ref q9_), (9, 8, q4_, .int y1_), (7, 3, q3_, .int y2_), (6, 12, q5_, .int y3_), (5, 2, q1_, .int y4_), (7, 1, q3_, .int y5_)]) rfl dX2_readMark_74 (fun f H locs hM_501 g => ?_)
        have hG_502 := eOK.frame hM_501 go_.2.2.2.1 mq2_ kq2_ (by decide) (by decide) hG_500
        refine lv_aload_n hx hb dX2_readMark_77 rfl (lv_at hl 2 rfl) ?_
        refine g_getk (C := RX2) (T := TX2) (N := 16) hx hb hts (mc_ inX2) hown hK g rfl 5 (by decide) rfl (hts _ (List.mem_cons_of_mem _ t_421)) (fun _ h9 => h9) 8 rfl dX2_readMark_78 ?_
        refine lv_dup hx hb dX2_readMark_81 rfl ?_
        refine g_getk (C := RX6) (T := TX6) (N := 13) hx hb hts (mc_ inX6) hown hK g rfl 12 (by decide) rfl (hts _ (List.mem_cons_of_mem _ t_591)) (fun _ h9 => h9) 15 rfl dX2_readMark_82 ?_
        refine lv_iconst (v := 1) hx hb dX2_readMark_85 (by decide) ?_
        refine lv_iadd hx hb dX2_readMark_86 ?_
        refine lv_topi (fun y_503 ey_503 => ?_)
        have ty_503 := add_bd ey_503 b_442 kb_1 (by decide)
        have b_504 : bd 9 9 y_503 := add_rg ty_503 b_442 kb_1 (by decide)
        have go_ := g
        refine g_put (C := RX6) (T := TX6) (N := 13) hx hb hts (mc_ inX6) tyX6 tyX6_ok nmX6 hown hK g mq5_ kq5_ (by decide) rfl 12 (by decide) (hts _ (List.mem_cons_of_mem _ t_591)) (fun _ h9 => h9) rfl rfl (okV_i (bd_sub b_504 (by decide))) rfl rfl (by decide) (Or.inr (Or.inl (by decide))) (fx' := [(2, 6, a0_, .int 1), (8, 6, q0_, .int 1201), (8, 8, q0_, .int x_444), (2, 0, a0_, .ref q0_), (2, 1, a0_, .ref q1_), (2, 2, a0_, .ref q2_), (2, 3, a0_, .ref q3_), (2, 4, a0_, .ref q4_), (2, 5, a0_, .ref q5_), (0, 0, q2_, .ref q0_), (0, 1, q2_, .ref q1_), (5, 0, q1_, .ref q8_), (5, 1, q1_, .ref q9_), (9, 8, q4_, .int y1_), (7, 3, q3_, .int y2_), (5, 2, q1_, .int y4_), (7, 1, q3_, .int y5_)]) rfl dX2_readMark_87 (fun f H locs hM_505 g => ?_)
        have hG_506 := eOK.frame hM_505 go_.2.2.2.1 mq2_ kq2_ (by decide) (by decide) hG_502
        refine lv_iload_n hx hb dX2_readMark_90 rfl (lv_at hl 1 rfl) ?_
        by_cases e_507 : r_1 = 16
        · refine lv_topi (fun z_508 ez_508 => ?_)
          obtain rfl : z_508 = 16 := ez_508.trans e_507
          have kb_16 : bd 16 16 (16 : Int32) := ⟨by decide, by decide⟩
          exact bd_no (eqX (eq_f e_507) b_451 kb_16 (lo := 20) (hi := 16) (by decide)) (by decide)
        by_cases e_509 : r_1 = 17
        · refine lv_topi (fun z_510 ez_510 => ?_)
          obtain rfl : z_510 = 17 := ez_510.trans e_509
          have kb_17 : bd 17 17 (17 : Int32) := ⟨by decide, by decide⟩
          exact bd_no (eqX (eq_f e_509) b_451 kb_17 (lo := 20) (hi := 17) (by decide)) (by decide)
        by_cases e_511 : r_1 = 18
        · refine lv_topi (fun z_512 ez_512 => ?_)
          obtain rfl : z_512 = 18 := ez_512.trans e_511
          have kb_18 : bd 18 18 (18 : Int32) := ⟨by decide, by decide⟩
          exact bd_no (eqX (eq_f e_511) b_451 kb_18 (lo := 20) (hi := 18) (by decide)) (by decide)
        by_cases e_513 : r_1 = 19
        · refine lv_topi (fun z_514 ez_514 => ?_)
          obtain rfl : z_514 = 19 := ez_514.trans e_513
          have kb_19 : bd 19 19 (19 : Int32) := ⟨by decide, by decide⟩
          exact bd_no (eqX (eq_f e_513) b_451 kb_19 (lo := 20) (hi := 19) (by decide)) (by decide)
        by_cases e_515 : r_1 = 20
        · refine lv_topi (fun z_516 ez_516 => ?_)
          obtain rfl : z_516 = 20 := ez_516.trans e_515
          have b_517 : bd 20 20 r_1 := eqX (eq_f e_515) b_451 kb_20 (by decide)
          refine lv_tableIn (off := 110) (tgt := 201) hx hb dX2_readMark_91 (by decide) (by decide) rfl (by decide) ?_
          refine lv_aload_n hx hb dX2_readMark_201 rfl (lv_at hl 2 rfl) ?_
          have go_ := g
          refine g_callv (va_runV (As := []) (rest := []) ⟨hx, hb, hml, hown, hts⟩ (r_X2_readOnly_2 l dC dI L kd tys f H.size g.2.2.2.1 a0_ ma0_ ka0_ q0_ mq0_ kq0_ q3_ mq3_ kq3_ q4_ mq4_ kq4_ 1201 kb_1201 x_444 h_445 (g.fcts [4, 7, 8, 2, 3] rfl)) (cwV 0 hts (gV_ t_1330 t_1332 t_38 t_183 t_1333) rfl rfl rfl (by decide +kernel) ⟨(Nat.le_of_ble_eq_true rfl), (Nat.le_of_ble_eq_true rfl)⟩) (pre3V g hK ma0_ ka0_ (by decide) (q := (RX2, TX2, 16)) rfl) rfl rfl hl.1 rfl (lv_room (Nat.le_of_ble_eq_true rfl)) dX2_readMark_202 ⟨(Nat.le_of_ble_eq_true rfl), (Nat.le_of_ble_eq_true rfl)⟩) g hK (by decide) (by decide) (fx' := [(6, 12, q5_, .int y_503), (2, 6, a0_, .int 1), (8, 8, q0_, .int x_444), (2, 0, a0_, .ref q0_), (2, 1, a0_, .ref q1_), (2, 2, a0_, .ref q2_), (2, 3, a0_, .ref q3_), (2, 4, a0_, .ref q4_), (2, 5, a0_, .ref q5_), (0, 0, q2_, .ref q0_), (0, 1, q2_, .ref q1_), (5, 0, q1_, .ref q8_), (5, 1, q1_, .ref q9_), (9, 8, q4_, .int y1_), (7, 3, q3_, .int y2_), (5, 2, q1_, .int y4_), (7, 1, q3_, .int y5_)]) rfl (fun fr_518 H locs hp hMr_518 g => ?_)
          obtain ⟨x_519, h_520, x_521, h_522, hF_523⟩ := hp
          have hG_524 := eOK.frame hMr_518 go_.2.2.2.1 mq2_ kq2_ (by decide) (by decide) hG_506
          have g := g.more hF_523
          refine lv_goto (tgt := 234) hx hb dX2_readMark_205 (by decide) ?_
          refine lv_aload_n hx hb dX2_readMark_234 rfl (lv_at hl 2 rfl) ?_
          refine g_getk (C := RX2) (T := TX2) (N := 16) hx hb hts (mc_ inX2) hown hK g rfl 0 (by decide) rfl (hts _ (List.mem_cons_of_mem _ t_416)) (fun _ h9 => h9) 5 rfl dX2_readMark_235 ?_
          refine lv_bipush (v := 59) hx hb dX2_readMark_238 (by decide) ?_
          have go_ := g
          refine g_callv (va_runV (As := [.int 59]) (rest := []) ⟨hx, hb, hml, hown, hts⟩ (r_X8_take_2 l dC dI L kd tys fr_518 H.size g.2.2.2.1 q0_ mq0_ kq0_ 59 x_521 h_522 x_444 h_445 (g.fcts [1, 4] rfl)) (cwV 1 hts (gV_ t_1098 t_1099 t_1100 t_184 t_1101) rfl rfl rfl (by decide +kernel) ⟨(Nat.le_of_ble_eq_true rfl), (Nat.le_of_ble_eq_true rfl)⟩) (pre3V g hK mq0_ kq0_ (by decide) (q := (RX8, TX8, 10)) rfl) rfl rfl hl.1 rfl (lv_room (Nat.le_of_ble_eq_true rfl)) dX2_readMark_240 ⟨(Nat.le_of_ble_eq_true rfl), (Nat.le_of_ble_eq_true rfl)⟩) g hK (by decide) (by decide) (fx' := [(7, 13, q3_, .int x_519), (6, 12, q5_, .int y_503), (2, 6, a0_, .int 1), (8, 8, q0_, .int x_444), (2, 0, a0_, .ref q0_), (2, 1, a0_, .ref q1_), (2, 2, a0_, .ref q2_), (2, 3, a0_, .ref q3_), (2, 4, a0_, .ref q4_), (2, 5, a0_, .ref q5_), (0, 0, q2_, .ref q0_), (0, 1, q2_, .ref q1_), (5, 0, q1_, .ref q8_), (5, 1, q1_, .ref q9_), (9, 8, q4_, .int y1_), (7, 3, q3_, .int y2_), (5, 2, q1_, .int y4_), (7, 1, q3_, .int y5_)]) rfl (fun fr_525 H locs hp hMr_525 g => ?_)
          obtain ⟨x_526, h_527, hF_528⟩ := hp
          have hG_529 := eOK.frame hMr_525 go_.2.2.2.1 mq2_ kq2_ (by decide) (by decide) hG_524
          have g := g.more hF_528
          subst hQ
          exact W.vret hx hb hr (fun t ht hW => ⟨⟨_, rfl, Or.inr (⟨hG_529, x_526, h_527, x_444, h_445, x_519, h_520, y_503, (bd_sub b_504 (by decide)), (g.fcts [0, 4, 1, 2] rfl)⟩), q3_of g hK ht hW⟩, g.2.2.1.F ht⟩) g.2.2.1.2.2 dX2_readMark_243
        refine lv_tableOut (tgt := 208) hx hb dX2_readMark_91 (by have a0 : r_1.toInt ≠ 16 := fun h => e_507 (Int32.toInt_inj.mp (h.trans (by decide))); have a1 : r_1.toInt ≠ 17 := fun h => e_509 (Int32.toInt_inj.mp (h.trans (by decide))); have a2 : r_1.toInt ≠ 18 := fun h => e_511 (Int32.toInt_inj.mp (h.trans (by decide))); have a3 : r_1.toInt ≠ 19 := fun h => e_513 (Int32.toInt_inj.mp (h.trans (by decide))); have a4 : r_1.toInt ≠ 20 := fun h => e_515 (Int32.toInt_inj.mp (h.trans (by decide))); omega) (by decide) ?_
        refine lv_aload_n hx hb dX2_readMark_208 rfl (lv_at hl 2 rfl) ?_
        refine g_getk (C := RX2) (T := TX2) (N := 16) hx hb hts (mc_ inX2) hown hK g rfl 3 (by decide) rfl (hts _ (List.mem_cons_of_mem _ t_419)) (fun _ h9 => h9) 7 rfl dX2_readMark_209 ?_
        refine lv_bipush (v := 6) hx hb dX2_readMark_212 (by decide) ?_
        refine lv_aload_n hx hb dX2_readMark_214 rfl (lv_at hl 2 rfl) ?_
        refine g_getk (C := RX2) (T := TX2) (N := 16) hx hb hts (mc_ inX2) hown hK g rfl 1 (by decide) rfl (hts _ (List.mem_cons_of_mem _ t_417)) (fun _ h9 => h9) 5 rfl dX2_readMark_215 ?_
        refine g_getk (C := RX5) (T := TX5) (N := 9) hx hb hts (mc_ inX5) hown hK g rfl 2 (by decide) rfl (hts _ (List.mem_cons_of_mem _ t_333)) (fun _ h9 => h9) 16 rfl dX2_readMark_218 ?_
        refine lv_iload_n hx hb dX2_readMark_221 rfl (lv_at hl 0 rfl) ?_
        have go_ := g
        refine g_calli (va_runV (As := [.int 6, .int y4_, .int r_3]) (rest := []) ⟨hx, hb, hml, hown, hts⟩ (r_X7_addMark l dC dI L kd tys f H.size g.2.2.2.1 q3_ mq3_ kq3_ 6 y4_ r_3) (cwV 3 hts (gV_ t_1173 t_1174 t_1175 t_191 t_1176) rfl rfl rfl (by decide +kernel) ⟨(Nat.le_of_ble_eq_true rfl), (Nat.le_of_ble_eq_true rfl)⟩) (pre3V g hK mq3_ kq3_ (by decide) (q := (RX7, TX7, 19)) rfl) rfl rfl hl.1 rfl (lv_room (Nat.le_of_ble_eq_true rfl)) dX2_readMark_222 ⟨(Nat.le_of_ble_eq_true rfl), (Nat.le_of_ble_eq_true rfl)⟩) g hK (by decide) (by decide) (fx' := [(6, 12, q5_, .int y_503), (2, 6, a0_, .int 1), (8, 6, q0_, .int 1201), (8, 8, q0_, .int x_444), (2, 0, a0_, .ref q0_), (2, 1, a0_, .ref q1_), (2, 2, a0_, .ref q2_), (2, 3, a0_, .ref q3_), (2, 4, a0_, .ref q4_), (2, 5, a0_, .ref q5_), (0, 0, q2_, .ref q0_), (0, 1, q2_, .ref q1_), (5, 0, q1_, .ref q8_), (5, 1, q1_, .ref q9_), (9, 8, q4_, .int y1_), (7, 3, q3_, .int y2_), (5, 2, q1_, .int y4_), (7, 1, q3_, .int y5_)]) rfl (fun r_530 fr_530 H locs hp hMr_530 g => ?_)
        obtain ⟨h_531, x_532, h_533, hF_534⟩ := hp
        have hG_535 := eOK.frame hMr_530 go_.2.2.2.1 mq2_ kq2_ (by decide) (by decide) hG_506
        have g := g.more hF_534
        refine lv_pop hx hb dX2_readMark_225 rfl ?_
        refine lv_aload_n hx hb dX2_readMark_226 rfl (lv_at hl 2 rfl) ?_
        refine g_getk (C := RX2) (T := TX2) (N := 16) hx hb hts (mc_ inX2) hown hK g rfl 5 (by decide) rfl (hts _ (List.mem_cons_of_mem _ t_421)) (fun _ h9 => h9) 10 rfl dX2_readMark_227 ?_
        refine lv_iconst (v := 1) hx hb dX2_readMark_230 (by decide) ?_
        have go_ := g
        refine g_put (C := RX6) (T := TX6) (N := 13) hx hb hts (mc_ inX6) tyX6 tyX6_ok nmX6 hown hK g mq5_ kq5_ (by decide) rfl 6 (by decide) (hts _ (List.mem_cons_of_mem _ t_578)) (fun _ h9 => h9) rfl rfl (okV_i (bd_sub kb_1 (by decide))) rfl rfl (by decide) (Or.inr (Or.inl (by decide))) (fx' := [(7, 13, q3_, .int x_532), (6, 12, q5_, .int y_503), (2, 6, a0_, .int 1), (8, 6, q0_, .int 1201), (8, 8, q0_, .int x_444), (2, 0, a0_, .ref q0_), (2, 1, a0_, .ref q1_), (2, 2, a0_, .ref q2_), (2, 3, a0_, .ref q3_), (2, 4, a0_, .ref q4_), (2, 5, a0_, .ref q5_), (0, 0, q2_, .ref q0_), (0, 1, q2_, .ref q1_), (5, 0, q1_, .ref q8_), (5, 1, q1_, .ref q9_), (9, 8, q4_, .int y1_), (7, 3, q3_, .int y2_), (5, 2, q1_, .int y4_), (7, 1, q3_, .int y5_)]) rfl dX2_readMark_231 (fun f H locs hM_536 g => ?_)
        have hG_537 := eOK.frame hM_536 go_.2.2.2.1 mq2_ kq2_ (by decide) (by decide) hG_535
        refine lv_aload_n hx hb dX2_readMark_234 rfl (lv_at hl 2 rfl) ?_
        refine g_getk (C := RX2) (T := TX2) (N := 16) hx hb hts (mc_ inX2) hown hK g rfl 0 (by decide) rfl (hts _ (List.mem_cons_of_mem _ t_416)) (fun _ h9 => h9) 6 rfl dX2_readMark_235 ?_
        refine lv_bipush (v := 59) hx hb dX2_readMark_238 (by decide) ?_
        have go_ := g
        refine g_callv (va_runV (As := [.int 59]) (rest := []) ⟨hx, hb, hml, hown, hts⟩ (r_X8_take_2 l dC dI L kd tys f H.size g.2.2.2.1 q0_ mq0_ kq0_ 59 1201 kb_1201 x_444 h_445 (g.fcts [4, 5] rfl)) (cwV 1 hts (gV_ t_1098 t_1099 t_1100 t_184 t_1101) rfl rfl rfl (by decide +kernel) ⟨(Nat.le_of_ble_eq_true rfl), (Nat.le_of_ble_eq_true rfl)⟩) (pre3V g hK mq0_ kq0_ (by decide) (q := (RX8, TX8, 10)) rfl) rfl rfl hl.1 rfl (lv_room (Nat.le_of_ble_eq_true rfl)) dX2_readMark_240 ⟨(Nat.le_of_ble_eq_true rfl), (Nat.le_of_ble_eq_true rfl)⟩) g hK (by decide) (by decide) (fx' := [(6, 6, q5_, .int 1), (7, 13, q3_, .int x_532), (6, 12, q5_, .int y_503), (2, 6, a0_, .int 1), (8, 8, q0_, .int x_444), (2, 0, a0_, .ref q0_), (2, 1, a0_, .ref q1_), (2, 2, a0_, .ref q2_), (2, 3, a0_, .ref q3_), (2, 4, a0_, .ref q4_), (2, 5, a0_, .ref q5_), (0, 0, q2_, .ref q0_), (0, 1, q2_, .ref q1_), (5, 0, q1_, .ref q8_), (5, 1, q1_, .ref q9_), (9, 8, q4_, .int y1_), (7, 3, q3_, .int y2_), (5, 2, q1_, .int y4_), (7, 1, q3_, .int y5_)]) rfl (fun fr_538 H locs hp hMr_538 g => ?_)
        obtain ⟨x_539, h_540, hF_541⟩ := hp
        have hG_542 := eOK.frame hMr_538 go_.2.2.2.1 mq2_ kq2_ (by decide) (by decide) hG_537
        have g := g.more hF_541
        subst hQ
        exact W.vret hx hb hr (fun t ht hW => ⟨⟨_, rfl, Or.inr (⟨hG_542, x_539, h_540, x_444, h_445, x_532, h_533, y_503, (bd_sub b_504 (by decide)), (g.fcts [0, 5, 2, 3] rfl)⟩), q3_of g hK ht hW⟩, g.2.2.1.F ht⟩) g.2.2.1.2.2 dX2_readMark_243
    · have fc_450 := neq_f c_450
      refine lv_iload_n hx hb dX2_readMark_50 rfl (lv_at hl 1 rfl) ?_
      refine lv_bipush (v := 21) hx hb dX2_readMark_51 (by decide) ?_
      have kb_21 : bd 21 21 (21 : Int32) := ⟨by decide, by decide⟩
      refine lv_icmp_ne (tgt := 77) hx hb dX2_readMark_53 (by decide) (fun c_543 => ?_) (fun c_543 => ?_)
      · have fc_543 := neq_f c_543
        refine lv_aload_n hx hb dX2_readMark_77 rfl (lv_at hl 2 rfl) ?_
        refine g_getk (C := RX2) (T := TX2) (N := 16) hx hb hts (mc_ inX2) hown hK g rfl 5 (by decide) rfl (hts _ (List.mem_cons_of_mem _ t_421)) (fun _ h9 => h9) 7 rfl dX2_readMark_78 ?_
        refine lv_dup hx hb dX2_readMark_81 rfl ?_
        refine g_getk (C := RX6) (T := TX6) (N := 13) hx hb hts (mc_ inX6) hown hK g rfl 12 (by decide) rfl (hts _ (List.mem_cons_of_mem _ t_591)) (fun _ h9 => h9) 14 rfl dX2_readMark_82 ?_
        refine lv_iconst (v := 1) hx hb dX2_readMark_85 (by decide) ?_
        have kb_1 : bd 1 1 (1 : Int32) := ⟨by decide, by decide⟩
        refine lv_iadd hx hb dX2_readMark_86 ?_
        refine lv_topi (fun y_544 ey_544 => ?_)
        have ty_544 := add_bd ey_544 b_442 kb_1 (by decide)
        have b_545 : bd 9 9 y_544 := add_rg ty_544 b_442 kb_1 (by decide)
        have go_ := g
        refine g_put (C := RX6) (T := TX6) (N := 13) hx hb hts (mc_ inX6) tyX6 tyX6_ok nmX6 hown hK g mq5_ kq5_ (by decide) rfl 12 (by decide) (hts _ (List.mem_cons_of_mem _ t_591)) (fun _ h9 => h9) rfl rfl (okV_i (bd_sub b_545 (by decide))) rfl rfl (by decide) (Or.inr (Or.inl (by decide))) (fx' := [(8, 6, q0_, .int 1201), (8, 8, q0_, .int x_444), (2, 0, a0_, .ref q0_), (2, 1, a0_, .ref q1_), (2, 2, a0_, .ref q2_), (2, 3, a0_, .ref q3_), (2, 4, a0_, .ref q4_), (2, 5, a0_, .ref q5_), (0, 0, q2_, .ref q0_), (0, 1, q2_, .ref q1_), (5, 0, q1_, .ref q8_), (5, 1, q1_, .ref q9_), (9, 8, q4_, .int y1_), (7, 3, q3_, .int y2_), (5, 2, q1_, .int y4_), (7, 1, q3_, .int y5_)]) rfl dX2_readMark_87 (fun f H locs hM_546 g => ?_)
        have hG_547 := eOK.frame hM_546 go_.2.2.2.1 mq2_ kq2_ (by decide) (by decide) hG_449
        refine lv_iload_n hx hb dX2_readMark_90 rfl (lv_at hl 1 rfl) ?_
        by_cases e_548 : r_1 = 16
        · refine lv_topi (fun z_549 ez_549 => ?_)
          obtain rfl : z_549 = 16 := ez_549.trans e_548
          have kb_16 : bd 16 16 (16 : Int32) := ⟨by decide, by decide⟩
          have b_550 : bd 16 16 r_1 := eqX (eq_f e_548) (bdT r_1) kb_16 (by decide)
          refine lv_tableIn (off := 33) (tgt := 124) hx hb dX2_readMark_91 (by decide) (by decide) rfl (by decide) ?_
          refine lv_aload_n hx hb dX2_readMark_124 rfl (lv_at hl 2 rfl) ?_
          refine g_getk (C := RX2) (T := TX2) (N := 16) hx hb hts (mc_ inX2) hown hK g rfl 3 (by decide) rfl (hts _ (List.mem_cons_of_mem _ t_419)) (fun _ h9 => h9) 6 rfl dX2_readMark_125 ?_
          refine lv_iconst (v := 1) hx hb dX2_readMark_128 (by decide) ?_
          refine lv_aload_n hx hb dX2_readMark_129 rfl (lv_at hl 2 rfl) ?_
          refine g_getk (C := RX2) (T := TX2) (N := 16) hx hb hts (mc_ inX2) hown hK g rfl 1 (by decide) rfl (hts _ (List.mem_cons_of_mem _ t_417)) (fun _ h9 => h9) 4 rfl dX2_readMark_130 ?_
          refine g_getk (C := RX5) (T := TX5) (N := 9) hx hb hts (mc_ inX5) hown hK g rfl 2 (by decide) rfl (hts _ (List.mem_cons_of_mem _ t_333)) (fun _ h9 => h9) 15 rfl dX2_readMark_133 ?_
          refine lv_aload_n hx hb dX2_readMark_136 rfl (lv_at hl 2 rfl) ?_
          refine g_getk (C := RX2) (T := TX2) (N := 16) hx hb hts (mc_ inX2) hown hK g rfl 0 (by decide) rfl (hts _ (List.mem_cons_of_mem _ t_416)) (fun _ h9 => h9) 3 rfl dX2_readMark_137 ?_
          have go_ := g
          refine g_calli (va_runV (As := []) (rest := [.int y4_, .int 1, .ref q3_]) ⟨hx, hb, hml, hown, hts⟩ (r_X8_place l dC dI L kd tys f H.size g.2.2.2.1 q0_ mq0_ kq0_) (cwV 0 hts (gV_ t_1110 t_1111 t_1112 t_184 t_1113) rfl rfl rfl (by decide +kernel) ⟨(Nat.le_of_ble_eq_true rfl), (Nat.le_of_ble_eq_true rfl)⟩) (pre3V g hK mq0_ kq0_ (by decide) (q := (RX8, TX8, 10)) rfl) rfl rfl hl.1 rfl (lv_room (Nat.le_of_ble_eq_true rfl)) dX2_readMark_140 ⟨(Nat.le_of_ble_eq_true rfl), (Nat.le_of_ble_eq_true rfl)⟩) g hK (by decide) (by decide) (fx' := [(6, 12, q5_, .int y_544), (8, 6, q0_, .int 1201), (8, 8, q0_, .int x_444), (2, 0, a0_, .ref q0_), (2, 1, a0_, .ref q1_), (2, 2, a0_, .ref q2_), (2, 3, a0_, .ref q3_), (2, 4, a0_, .ref q4_), (2, 5, a0_, .ref q5_), (0, 0, q2_, .ref q0_), (0, 1, q2_, .ref q1_), (5, 0, q1_, .ref q8_), (5, 1, q1_, .ref q9_), (9, 8, q4_, .int y1_), (7, 3, q3_, .int y2_), (5, 2, q1_, .int y4_), (7, 1, q3_, .int y5_)]) rfl (fun r_551 fr_551 H locs hp hMr_551 g => ?_)
          have hG_552 := eOK.frame hMr_551 go_.2.2.2.1 mq2_ kq2_ (by decide) (by decide) hG_547
          have go_ := g
          refine g_calli (va_runV (As := [.int 1, .int y4_, .int r_551]) (rest := []) ⟨hx, hb, hml, hown, hts⟩ (r_X7_addMark l dC dI L kd tys fr_551 H.size g.2.2.2.1 q3_ mq3_ kq3_ 1 y4_ r_551) (cwV 3 hts (gV_ t_1173 t_1174 t_1175 t_191 t_1176) rfl rfl rfl (by decide +kernel) ⟨(Nat.le_of_ble_eq_true rfl), (Nat.le_of_ble_eq_true rfl)⟩) (pre3V g hK mq3_ kq3_ (by decide) (q := (RX7, TX7, 19)) rfl) rfl rfl hl.1 rfl (lv_room (Nat.le_of_ble_eq_true rfl)) dX2_readMark_143 ⟨(Nat.le_of_ble_eq_true rfl), (Nat.le_of_ble_eq_true rfl)⟩) g hK (by decide) (by decide) (fx' := [(6, 12, q5_, .int y_544), (8, 6, q0_, .int 1201), (8, 8, q0_, .int x_444), (2, 0, a0_, .ref q0_), (2, 1, a0_, .ref q1_), (2, 2, a0_, .ref q2_), (2, 3, a0_, .ref q3_), (2, 4, a0_, .ref q4_), (2, 5, a0_, .ref q5_), (0, 0, q2_, .ref q0_), (0, 1, q2_, .ref q1_), (5, 0, q1_, .ref q8_), (5, 1, q1_, .ref q9_), (9, 8, q4_, .int y1_), (7, 3, q3_, .int y2_), (5, 2, q1_, .int y4_), (7, 1, q3_, .int y5_)]) rfl (fun r_553 fr_553 H locs hp hMr_553 g => ?_)
          obtain ⟨h_554, x_555, h_556, hF_557⟩ := hp
          have hG_558 := eOK.frame hMr_553 go_.2.2.2.1 mq2_ kq2_ (by decide) (by decide) hG_552
          have g := g.more hF_557
          refine lv_pop hx hb dX2_readMark_146 rfl ?_
          refine lv_aload_n hx hb dX2_readMark_147 rfl (lv_at hl 2 rfl) ?_
          refine lv_iconst (v := 0) hx hb dX2_readMark_148 (by decide) ?_
          have kb_0 : bd 0 0 (0 : Int32) := ⟨by decide, by decide⟩
          have go_ := g
          refine g_callv (va_runV (As := [.int 0]) (rest := []) ⟨hx, hb, hml, hown, hts⟩ (r_X2_readAsked_11 l dC dI L kd tys fr_553 H.size g.2.2.2.1 a0_ ma0_ ka0_ 0 kb_0 q0_ mq0_ kq0_ q1_ mq1_ kq1_ q2_ mq2_ kq2_ q3_ mq3_ kq3_ q8_ mq8_ kq8_ q9_ mq9_ kq9_ x_555 h_556 1201 kb_1201 x_444 h_445 y2_ by2_ y4_ by4_ y5_ by5_ hG_558 (g.fcts [4, 5, 6, 7, 10, 11, 12, 13, 0, 2, 3, 15, 16, 17] rfl)) (cwV 1 hts (gV_ t_1178 t_1180 t_13 t_183 t_1181) rfl rfl rfl (by decide +kernel) ⟨(Nat.le_of_ble_eq_true rfl), (Nat.le_of_ble_eq_true rfl)⟩) (pre3V g hK ma0_ ka0_ (by decide) (q := (RX2, TX2, 16)) rfl) rfl rfl hl.1 rfl (lv_room (Nat.le_of_ble_eq_true rfl)) dX2_readMark_149 ⟨(Nat.le_of_ble_eq_true rfl), (Nat.le_of_ble_eq_true rfl)⟩) g hK (by decide) (by decide) (fx' := [(7, 13, q3_, .int x_555), (6, 12, q5_, .int y_544), (8, 6, q0_, .int 1201), (8, 8, q0_, .int x_444), (2, 0, a0_, .ref q0_), (2, 1, a0_, .ref q1_), (2, 2, a0_, .ref q2_), (2, 3, a0_, .ref q3_), (2, 4, a0_, .ref q4_), (2, 5, a0_, .ref q5_), (0, 0, q2_, .ref q0_), (0, 1, q2_, .ref q1_), (5, 0, q1_, .ref q8_), (5, 1, q1_, .ref q9_), (9, 8, q4_, .int y1_), (7, 3, q3_, .int y2_), (5, 2, q1_, .int y4_), (7, 1, q3_, .int y5_)]) rfl (fun fr_559 H locs hp hMr_559 g => ?_)
          obtain ⟨x_560, h_561, hF_562⟩ := hp
          have hG_563 := eOK.frame hMr_559 go_.2.2.2.1 mq2_ kq2_ (by decide) (by decide) hG_558
          have g := g.more hF_562
          refine lv_goto (tgt := 234) hx hb dX2_readMark_152 (by decide) ?_
          refine lv_aload_n hx hb dX2_readMark_234 rfl (lv_at hl 2 rfl) ?_
          refine g_getk (C := RX2) (T := TX2) (N := 16) hx hb hts (mc_ inX2) hown hK g rfl 0 (by decide) rfl (hts _ (List.mem_cons_of_mem _ t_416)) (fun _ h9 => h9) 13 rfl dX2_readMark_235 ?_
          refine lv_bipush (v := 59) hx hb dX2_readMark_238 (by decide) ?_
          have go_ := g
          refine g_callv (va_runV (As := [.int 59]) (rest := []) ⟨hx, hb, hml, hown, hts⟩ (r_X8_take_2 l dC dI L kd tys fr_559 H.size g.2.2.2.1 q0_ mq0_ kq0_ 59 1201 kb_1201 x_444 h_445 (g.fcts [11, 12] rfl)) (cwV 1 hts (gV_ t_1098 t_1099 t_1100 t_184 t_1101) rfl rfl rfl (by decide +kernel) ⟨(Nat.le_of_ble_eq_true rfl), (Nat.le_of_ble_eq_true rfl)⟩) (pre3V g hK mq0_ kq0_ (by decide) (q := (RX8, TX8, 10)) rfl) rfl rfl hl.1 rfl (lv_room (Nat.le_of_ble_eq_true rfl)) dX2_readMark_240 ⟨(Nat.le_of_ble_eq_true rfl), (Nat.le_of_ble_eq_true rfl)⟩) g hK (by decide) (by decide) (fx' := [(7, 6, q3_, .int x_560), (5, 8, q1_, .int 0), (5, 7, q1_, .int 0), (0, 13, q2_, .int 0), (0, 12, q2_, .int 1), (0, 11, q2_, .int 0), (0, 10, q2_, .int 0), (0, 8, q2_, .int 0), (0, 2, q2_, .ref q8_), (7, 13, q3_, .int x_555), (6, 12, q5_, .int y_544), (8, 8, q0_, .int x_444), (2, 0, a0_, .ref q0_), (2, 1, a0_, .ref q1_), (2, 2, a0_, .ref q2_), (2, 3, a0_, .ref q3_), (2, 4, a0_, .ref q4_), (2, 5, a0_, .ref q5_), (0, 0, q2_, .ref q0_), (0, 1, q2_, .ref q1_), (5, 0, q1_, .ref q8_), (5, 1, q1_, .ref q9_), (9, 8, q4_, .int y1_), (7, 3, q3_, .int y2_), (5, 2, q1_, .int y4_), (7, 1, q3_, .int y5_)]) rfl (fun fr_564 H locs hp hMr_564 g => ?_)
          obtain ⟨x_565, h_566, hF_567⟩ := hp
          have hG_568 := eOK.frame hMr_564 go_.2.2.2.1 mq2_ kq2_ (by decide) (by decide) hG_563
          have g := g.more hF_567
          subst hQ
          exact W.vret hx hb hr (fun t ht hW => ⟨⟨_, rfl, Or.inr (⟨hG_568, x_565, h_566, x_444, h_445, x_555, h_556, y_544, (bd_sub b_545 (by decide)), (g.fcts [0, 12, 10, 11] rfl)⟩), q3_of g hK ht hW⟩, g.2.2.1.F ht⟩) g.2.2.1.2.2 dX2_readMark_243
        by_cases e_569 : r_1 = 17
        · refine lv_topi (fun z_570 ez_570 => ?_)
          obtain rfl : z_570 = 17 := ez_570.trans e_569
          have kb_17 : bd 17 17 (17 : Int32) := ⟨by decide, by decide⟩
          have b_571 : bd 17 17 r_1 := eqX (eq_f e_569) (bdT r_1) kb_17 (by decide)
          refine lv_tableIn (off := 64) (tgt := 155) hx hb dX2_readMark_91 (by decide) (by decide) rfl (by decide) ?_
          refine lv_aload_n hx hb dX2_readMark_155 rfl (lv_at hl 2 rfl) ?_
          refine g_getk (C := RX2) (T := TX2) (N := 16) hx hb hts (mc_ inX2) hown hK g rfl 3 (by decide) rfl (hts _ (List.mem_cons_of_mem _ t_419)) (fun _ h9 => h9) 6 rfl dX2_readMark_156 ?_
          refine lv_iconst (v := 2) hx hb dX2_readMark_159 (by decide) ?_
          refine lv_aload_n hx hb dX2_readMark_160 rfl (lv_at hl 2 rfl) ?_
          refine g_getk (C := RX2) (T := TX2) (N := 16) hx hb hts (mc_ inX2) hown hK g rfl 1 (by decide) rfl (hts _ (List.mem_cons_of_mem _ t_417)) (fun _ h9 => h9) 4 rfl dX2_readMark_161 ?_
          refine g_getk (C := RX5) (T := TX5) (N := 9) hx hb hts (mc_ inX5) hown hK g rfl 2 (by decide) rfl (hts _ (List.mem_cons_of_mem _ t_333)) (fun _ h9 => h9) 15 rfl dX2_readMark_164 ?_
          refine lv_aload_n hx hb dX2_readMark_167 rfl (lv_at hl 2 rfl) ?_
          refine g_getk (C := RX2) (T := TX2) (N := 16) hx hb hts (mc_ inX2) hown hK g rfl 0 (by decide) rfl (hts _ (List.mem_cons_of_mem _ t_416)) (fun _ h9 => h9) 3 rfl dX2_readMark_168 ?_
          have go_ := g
          refine g_calli (va_runV (As := []) (rest := [.int y4_, .int 2, .ref q3_]) ⟨hx, hb, hml, hown, hts⟩ (r_X8_place l dC dI L kd tys f H.size g.2.2.2.1 q0_ mq0_ kq0_) (cwV 0 hts (gV_ t_1110 t_1111 t_1112 t_184 t_1113) rfl rfl rfl (by decide +kernel) ⟨(Nat.le_of_ble_eq_true rfl), (Nat.le_of_ble_eq_true rfl)⟩) (pre3V g hK mq0_ kq0_ (by decide) (q := (RX8, TX8, 10)) rfl) rfl rfl hl.1 rfl (lv_room (Nat.le_of_ble_eq_true rfl)) dX2_readMark_171 ⟨(Nat.le_of_ble_eq_true rfl), (Nat.le_of_ble_eq_true rfl)⟩) g hK (by decide) (by decide) (fx' := [(6, 12, q5_, .int y_544), (8, 6, q0_, .int 1201), (8, 8, q0_, .int x_444), (2, 0, a0_, .ref q0_), (2, 1, a0_, .ref q1_), (2, 2, a0_, .ref q2_), (2, 3, a0_, .ref q3_), (2, 4, a0_, .ref q4_), (2, 5, a0_, .ref q5_), (0, 0, q2_, .ref q0_), (0, 1, q2_, .ref q1_), (5, 0, q1_, .ref q8_), (5, 1, q1_, .ref q9_), (9, 8, q4_, .int y1_), (7, 3, q3_, .int y2_), (5, 2, q1_, .int y4_), (7, 1, q3_, .int y5_)]) rfl (fun r_572 fr_572 H locs hp hMr_572 g => ?_)
          have hG_573 := eOK.frame hMr_572 go_.2.2.2.1 mq2_ kq2_ (by decide) (by decide) hG_547
          have go_ := g
          refine g_calli (va_runV (As := [.int 2, .int y4_, .int r_572]) (rest := []) ⟨hx, hb, hml, hown, hts⟩ (r_X7_addMark l dC dI L kd tys fr_572 H.size g.2.2.2.1 q3_ mq3_ kq3_ 2 y4_ r_572) (cwV 3 hts (gV_ t_1173 t_1174 t_1175 t_191 t_1176) rfl rfl rfl (by decide +kernel) ⟨(Nat.le_of_ble_eq_true rfl), (Nat.le_of_ble_eq_true rfl)⟩) (pre3V g hK mq3_ kq3_ (by decide) (q := (RX7, TX7, 19)) rfl) rfl rfl hl.1 rfl (lv_room (Nat.le_of_ble_eq_true rfl)) dX2_readMark_174 ⟨(Nat.le_of_ble_eq_true rfl), (Nat.le_of_ble_eq_true rfl)⟩) g hK (by decide) (by decide) (fx' := [(6, 12, q5_, .int y_544), (8, 6, q0_, .int 1201), (8, 8, q0_, .int x_444), (2, 0, a0_, .ref q0_), (2, 1, a0_, .ref q1_), (2, 2, a0_, .ref q2_), (2, 3, a0_, .ref q3_), (2, 4, a0_, .ref q4_), (2, 5, a0_, .ref q5_), (0, 0, q2_, .ref q0_), (0, 1, q2_, .ref q1_), (5, 0, q1_, .ref q8_), (5, 1, q1_, .ref q9_), (9, 8, q4_, .int y1_), (7, 3, q3_, .int y2_), (5, 2, q1_, .int y4_), (7, 1, q3_, .int y5_)]) rfl (fun r_574 fr_574 H locs hp hMr_574 g => ?_)
          obtain ⟨h_575, x_576, h_577, hF_578⟩ := hp
          have hG_579 := eOK.frame hMr_574 go_.2.2.2.1 mq2_ kq2_ (by decide) (by decide) hG_573
          have g := g.more hF_578
          refine lv_pop hx hb dX2_readMark_177 rfl ?_
          refine lv_aload_n hx hb dX2_readMark_178 rfl (lv_at hl 2 rfl) ?_
          refine lv_iconst (v := 1) hx hb dX2_readMark_179 (by decide) ?_
          have go_ := g
          refine g_callv (va_runV (As := [.int 1]) (rest := []) ⟨hx, hb, hml, hown, hts⟩ (r_X2_readAsked_12 l dC dI L kd tys fr_574 H.size g.2.2.2.1 a0_ ma0_ ka0_ 1 kb_1 q0_ mq0_ kq0_ q1_ mq1_ kq1_ q2_ mq2_ kq2_ q3_ mq3_ kq3_ q8_ mq8_ kq8_ q9_ mq9_ kq9_ x_576 h_577 1201 kb_1201 x_444 h_445 y2_ by2_ y4_ by4_ y5_ by5_ hG_579 (g.fcts [4, 5, 6, 7, 10, 11, 12, 13, 0, 2, 3, 15, 16, 17] rfl)) (cwV 1 hts (gV_ t_1178 t_1180 t_13 t_183 t_1181) rfl rfl rfl (by decide +kernel) ⟨(Nat.le_of_ble_eq_true rfl), (Nat.le_of_ble_eq_true rfl)⟩) (pre3V g hK ma0_ ka0_ (by decide) (q := (RX2, TX2, 16)) rfl) rfl rfl hl.1 rfl (lv_room (Nat.le_of_ble_eq_true rfl)) dX2_readMark_180 ⟨(Nat.le_of_ble_eq_true rfl), (Nat.le_of_ble_eq_true rfl)⟩) g hK (by decide) (by decide) (fx' := [(7, 13, q3_, .int x_576), (6, 12, q5_, .int y_544), (8, 6, q0_, .int 1201), (8, 8, q0_, .int x_444), (2, 0, a0_, .ref q0_), (2, 1, a0_, .ref q1_), (2, 2, a0_, .ref q2_), (2, 3, a0_, .ref q3_), (2, 4, a0_, .ref q4_), (2, 5, a0_, .ref q5_), (0, 0, q2_, .ref q0_), (0, 1, q2_, .ref q1_), (5, 0, q1_, .ref q8_), (5, 1, q1_, .ref q9_), (9, 8, q4_, .int y1_), (7, 3, q3_, .int y2_), (5, 2, q1_, .int y4_), (7, 1, q3_, .int y5_)]) rfl (fun fr_580 H locs hp hMr_580 g => ?_)
          obtain ⟨x_581, h_582, hF_583⟩ := hp
          have hG_584 := eOK.frame hMr_580 go_.2.2.2.1 mq2_ kq2_ (by decide) (by decide) hG_579
          have g := g.more hF_583
          refine lv_goto (tgt := 234) hx hb dX2_readMark_183 (by decide) ?_
          refine lv_aload_n hx hb dX2_readMark_234 rfl (lv_at hl 2 rfl) ?_
          refine g_getk (C := RX2) (T := TX2) (N := 16) hx hb hts (mc_ inX2) hown hK g rfl 0 (by decide) rfl (hts _ (List.mem_cons_of_mem _ t_416)) (fun _ h9 => h9) 13 rfl dX2_readMark_235 ?_
          refine lv_bipush (v := 59) hx hb dX2_readMark_238 (by decide) ?_
          have go_ := g
          refine g_callv (va_runV (As := [.int 59]) (rest := []) ⟨hx, hb, hml, hown, hts⟩ (r_X8_take_2 l dC dI L kd tys fr_580 H.size g.2.2.2.1 q0_ mq0_ kq0_ 59 1201 kb_1201 x_444 h_445 (g.fcts [11, 12] rfl)) (cwV 1 hts (gV_ t_1098 t_1099 t_1100 t_184 t_1101) rfl rfl rfl (by decide +kernel) ⟨(Nat.le_of_ble_eq_true rfl), (Nat.le_of_ble_eq_true rfl)⟩) (pre3V g hK mq0_ kq0_ (by decide) (q := (RX8, TX8, 10)) rfl) rfl rfl hl.1 rfl (lv_room (Nat.le_of_ble_eq_true rfl)) dX2_readMark_240 ⟨(Nat.le_of_ble_eq_true rfl), (Nat.le_of_ble_eq_true rfl)⟩) g hK (by decide) (by decide) (fx' := [(7, 6, q3_, .int x_581), (5, 8, q1_, .int 0), (5, 7, q1_, .int 0), (0, 13, q2_, .int 0), (0, 12, q2_, .int 1), (0, 11, q2_, .int 0), (0, 10, q2_, .int 0), (0, 8, q2_, .int 0), (0, 2, q2_, .ref q8_), (7, 13, q3_, .int x_576), (6, 12, q5_, .int y_544), (8, 8, q0_, .int x_444), (2, 0, a0_, .ref q0_), (2, 1, a0_, .ref q1_), (2, 2, a0_, .ref q2_), (2, 3, a0_, .ref q3_), (2, 4, a0_, .ref q4_), (2, 5, a0_, .ref q5_), (0, 0, q2_, .ref q0_), (0, 1, q2_, .ref q1_), (5, 0, q1_, .ref q8_), (5, 1, q1_, .ref q9_), (9, 8, q4_, .int y1_), (7, 3, q3_, .int y2_), (5, 2, q1_, .int y4_), (7, 1, q3_, .int y5_)]) rfl (fun fr_585 H locs hp hMr_585 g => ?_)
          obtain ⟨x_586, h_587, hF_588⟩ := hp
          have hG_589 := eOK.frame hMr_585 go_.2.2.2.1 mq2_ kq2_ (by decide) (by decide) hG_584
          have g := g.more hF_588
          subst hQ
          exact W.vret hx hb hr (fun t ht hW => ⟨⟨_, rfl, Or.inr (⟨hG_589, x_586, h_587, x_444, h_445, x_576, h_577, y_544, (bd_sub b_545 (by decide)), (g.fcts [0, 12, 10, 11] rfl)⟩), q3_of g hK ht hW⟩, g.2.2.1.F ht⟩) g.2.2.1.2.2 dX2_readMark_243
        by_cases e_590 : r_1 = 18
        · refine lv_topi (fun z_591 ez_591 => ?_)
          obtain rfl : z_591 = 18 := ez_591.trans e_590
          have kb_18 : bd 18 18 (18 : Int32) := ⟨by decide, by decide⟩
          have b_592 : bd 18 18 r_1 := eqX (eq_f e_590) (bdT r_1) kb_18 (by decide)
          refine lv_tableIn (off := 95) (tgt := 186) hx hb dX2_readMark_91 (by decide) (by decide) rfl (by decide) ?_
          refine lv_aload_n hx hb dX2_readMark_186 rfl (lv_at hl 2 rfl) ?_
          have go_ := g
          refine g_calli (va_runV (As := []) (rest := []) ⟨hx, hb, hml, hown, hts⟩ (r_X2_readThrownWord_2 l dC dI L kd tys f H.size g.2.2.2.1 a0_ ma0_ ka0_ q0_ mq0_ kq0_ q3_ mq3_ kq3_ 1201 kb_1201 x_444 h_445 (g.fcts [3, 6, 1, 2] rfl)) (cwV 0 hts (gV_ t_1326 t_1328 t_37 t_183 t_1329) rfl rfl rfl (by decide +kernel) ⟨(Nat.le_of_ble_eq_true rfl), (Nat.le_of_ble_eq_true rfl)⟩) (pre3V g hK ma0_ ka0_ (by decide) (q := (RX2, TX2, 16)) rfl) rfl rfl hl.1 rfl (lv_room (Nat.le_of_ble_eq_true rfl)) dX2_readMark_187 ⟨(Nat.le_of_ble_eq_true rfl), (Nat.le_of_ble_eq_true rfl)⟩) g hK (by decide) (by decide) (fx' := [(6, 12, q5_, .int y_544), (8, 8, q0_, .int x_444), (2, 0, a0_, .ref q0_), (2, 1, a0_, .ref q1_), (2, 2, a0_, .ref q2_), (2, 3, a0_, .ref q3_), (2, 4, a0_, .ref q4_), (2, 5, a0_, .ref q5_), (0, 0, q2_, .ref q0_), (0, 1, q2_, .ref q1_), (5, 0, q1_, .ref q8_), (5, 1, q1_, .ref q9_), (9, 8, q4_, .int y1_), (7, 3, q3_, .int y2_), (5, 2, q1_, .int y4_), (7, 1, q3_, .int y5_)]) rfl (fun r_593 fr_593 H locs hp hMr_593 g => ?_)
          obtain ⟨h_594, x_595, h_596, x_597, h_598, hF_599⟩ := hp
          have hG_600 := eOK.frame hMr_593 go_.2.2.2.1 mq2_ kq2_ (by decide) (by decide) hG_547
          obtain rfl : r_593 = 0 := h_594
          have g := g.more hF_599
          refine lv_if_eq (tgt := 234) hx hb dX2_readMark_190 (by decide) (fun c_ => ?_) (fun c_ => absurd (by decide) c_)
          refine lv_aload_n hx hb dX2_readMark_234 rfl (lv_at hl 2 rfl) ?_
          refine g_getk (C := RX2) (T := TX2) (N := 16) hx hb hts (mc_ inX2) hown hK g rfl 0 (by decide) rfl (hts _ (List.mem_cons_of_mem _ t_416)) (fun _ h9 => h9) 4 rfl dX2_readMark_235 ?_
          refine lv_bipush (v := 59) hx hb dX2_readMark_238 (by decide) ?_
          have go_ := g
          refine g_callv (va_runV (As := [.int 59]) (rest := []) ⟨hx, hb, hml, hown, hts⟩ (r_X8_take_2 l dC dI L kd tys fr_593 H.size g.2.2.2.1 q0_ mq0_ kq0_ 59 x_595 h_596 x_444 h_445 (g.fcts [0, 3] rfl)) (cwV 1 hts (gV_ t_1098 t_1099 t_1100 t_184 t_1101) rfl rfl rfl (by decide +kernel) ⟨(Nat.le_of_ble_eq_true rfl), (Nat.le_of_ble_eq_true rfl)⟩) (pre3V g hK mq0_ kq0_ (by decide) (q := (RX8, TX8, 10)) rfl) rfl rfl hl.1 rfl (lv_room (Nat.le_of_ble_eq_true rfl)) dX2_readMark_240 ⟨(Nat.le_of_ble_eq_true rfl), (Nat.le_of_ble_eq_true rfl)⟩) g hK (by decide) (by decide) (fx' := [(7, 13, q3_, .int x_597), (6, 12, q5_, .int y_544), (8, 8, q0_, .int x_444), (2, 0, a0_, .ref q0_), (2, 1, a0_, .ref q1_), (2, 2, a0_, .ref q2_), (2, 3, a0_, .ref q3_), (2, 4, a0_, .ref q4_), (2, 5, a0_, .ref q5_), (0, 0, q2_, .ref q0_), (0, 1, q2_, .ref q1_), (5, 0, q1_, .ref q8_), (5, 1, q1_, .ref q9_), (9, 8, q4_, .int y1_), (7, 3, q3_, .int y2_), (5, 2, q1_, .int y4_), (7, 1, q3_, .int y5_)]) rfl (fun fr_601 H locs hp hMr_601 g => ?_)
          obtain ⟨x_602, h_603, hF_604⟩ := hp
          have hG_605 := eOK.frame hMr_601 go_.2.2.2.1 mq2_ kq2_ (by decide) (by decide) hG_600
          have g := g.more hF_604
          subst hQ
          exact W.vret hx hb hr (fun t ht hW => ⟨⟨_, rfl, Or.inr (⟨hG_605, x_602, h_603, x_444, h_445, x_597, h_598, y_544, (bd_sub b_545 (by decide)), (g.fcts [0, 3, 1, 2] rfl)⟩), q3_of g hK ht hW⟩, g.2.2.1.F ht⟩) g.2.2.1.2.2 dX2_readMark_243
        by_cases e_606 : r_1 = 19
        · refine lv_topi (fun z_607 ez_607 => ?_)
          obtain rfl : z_607 = 19 := ez_607.trans e_606
          have kb_19 : bd 19 19 (19 : Int32) := ⟨by decide, by decide⟩
          have b_608 : bd 19 19 r_1 := eqX (eq_f e_606) (bdT r_1) kb_19 (by decide)
          refine lv_tableIn (off := 117) (tgt := 208) hx hb dX2_readMark_91 (by decide) (by decide) rfl (by decide) ?_
          refine lv_aload_n hx hb dX2_readMark_208 rfl (lv_at hl 2 rfl) ?_
          refine g_getk (C := RX2) (T := TX2) (N := 16) hx hb hts (mc_ inX2) hown hK g rfl 3 (by decide) rfl (hts _ (List.mem_cons_of_mem _ t_419)) (fun _ h9 => h9) 6 rfl dX2_readMark_209 ?_
          refine lv_bipush (v := 6) hx hb dX2_readMark_212 (by decide) ?_
          refine lv_aload_n hx hb dX2_readMark_214 rfl (lv_at hl 2 rfl) ?_
          refine g_getk (C := RX2) (T := TX2) (N := 16) hx hb hts (mc_ inX2) hown hK g rfl 1 (by decide) rfl (hts _ (List.mem_cons_of_mem _ t_417)) (fun _ h9 => h9) 4 rfl dX2_readMark_215 ?_
          refine g_getk (C := RX5) (T := TX5) (N := 9) hx hb hts (mc_ inX5) hown hK g rfl 2 (by decide) rfl (hts _ (List.mem_cons_of_mem _ t_333)) (fun _ h9 => h9) 15 rfl dX2_readMark_218 ?_
          refine lv_iload_n hx hb dX2_readMark_221 rfl (lv_at hl 0 rfl) ?_
          have go_ := g
          refine g_calli (va_runV (As := [.int 6, .int y4_, .int r_3]) (rest := []) ⟨hx, hb, hml, hown, hts⟩ (r_X7_addMark l dC dI L kd tys f H.size g.2.2.2.1 q3_ mq3_ kq3_ 6 y4_ r_3) (cwV 3 hts (gV_ t_1173 t_1174 t_1175 t_191 t_1176) rfl rfl rfl (by decide +kernel) ⟨(Nat.le_of_ble_eq_true rfl), (Nat.le_of_ble_eq_true rfl)⟩) (pre3V g hK mq3_ kq3_ (by decide) (q := (RX7, TX7, 19)) rfl) rfl rfl hl.1 rfl (lv_room (Nat.le_of_ble_eq_true rfl)) dX2_readMark_222 ⟨(Nat.le_of_ble_eq_true rfl), (Nat.le_of_ble_eq_true rfl)⟩) g hK (by decide) (by decide) (fx' := [(6, 12, q5_, .int y_544), (8, 6, q0_, .int 1201), (8, 8, q0_, .int x_444), (2, 0, a0_, .ref q0_), (2, 1, a0_, .ref q1_), (2, 2, a0_, .ref q2_), (2, 3, a0_, .ref q3_), (2, 4, a0_, .ref q4_), (2, 5, a0_, .ref q5_), (0, 0, q2_, .ref q0_), (0, 1, q2_, .ref q1_), (5, 0, q1_, .ref q8_), (5, 1, q1_, .ref q9_), (9, 8, q4_, .int y1_), (7, 3, q3_, .int y2_), (5, 2, q1_, .int y4_), (7, 1, q3_, .int y5_)]) rfl (fun r_609 fr_609 H locs hp hMr_609 g => ?_)
          obtain ⟨h_610, x_611, h_612, hF_613⟩ := hp
          have hG_614 := eOK.frame hMr_609 go_.2.2.2.1 mq2_ kq2_ (by decide) (by decide) hG_547
          have g := g.more hF_613
          refine lv_pop hx hb dX2_readMark_225 rfl ?_
          refine lv_aload_n hx hb dX2_readMark_226 rfl (lv_at hl 2 rfl) ?_
          refine g_getk (C := RX2) (T := TX2) (N := 16) hx hb hts (mc_ inX2) hown hK g rfl 5 (by decide) rfl (hts _ (List.mem_cons_of_mem _ t_421)) (fun _ h9 => h9) 9 rfl dX2_readMark_227 ?_
          refine lv_iconst (v := 1) hx hb dX2_readMark_230 (by decide) ?_
          have go_ := g
          refine g_put (C := RX6) (T := TX6) (N := 13) hx hb hts (mc_ inX6) tyX6 tyX6_ok nmX6 hown hK g mq5_ kq5_ (by decide) rfl 6 (by decide) (hts _ (List.mem_cons_of_mem _ t_578)) (fun _ h9 => h9) rfl rfl (okV_i (bd_sub kb_1 (by decide))) rfl rfl (by decide) (Or.inr (Or.inl (by decide))) (fx' := [(7, 13, q3_, .int x_611), (6, 12, q5_, .int y_544), (8, 6, q0_, .int 1201), (8, 8, q0_, .int x_444), (2, 0, a0_, .ref q0_), (2, 1, a0_, .ref q1_), (2, 2, a0_, .ref q2_), (2, 3, a0_, .ref q3_), (2, 4, a0_, .ref q4_), (2, 5, a0_, .ref q5_), (0, 0, q2_, .ref q0_), (0, 1, q2_, .ref q1_), (5, 0, q1_, .ref q8_), (5, 1, q1_, .ref q9_), (9, 8, q4_, .int y1_), (7, 3, q3_, .int y2_), (5, 2, q1_, .int y4_), (7, 1, q3_, .int y5_)]) rfl dX2_readMark_231 (fun f H locs hM_615 g => ?_)
          have hG_616 := eOK.frame hM_615 go_.2.2.2.1 mq2_ kq2_ (by decide) (by decide) hG_614
          refine lv_aload_n hx hb dX2_readMark_234 rfl (lv_at hl 2 rfl) ?_
          refine g_getk (C := RX2) (T := TX2) (N := 16) hx hb hts (mc_ inX2) hown hK g rfl 0 (by decide) rfl (hts _ (List.mem_cons_of_mem _ t_416)) (fun _ h9 => h9) 5 rfl dX2_readMark_235 ?_
          refine lv_bipush (v := 59) hx hb dX2_readMark_238 (by decide) ?_
          have go_ := g
          refine g_callv (va_runV (As := [.int 59]) (rest := []) ⟨hx, hb, hml, hown, hts⟩ (r_X8_take_2 l dC dI L kd tys f H.size g.2.2.2.1 q0_ mq0_ kq0_ 59 1201 kb_1201 x_444 h_445 (g.fcts [3, 4] rfl)) (cwV 1 hts (gV_ t_1098 t_1099 t_1100 t_184 t_1101) rfl rfl rfl (by decide +kernel) ⟨(Nat.le_of_ble_eq_true rfl), (Nat.le_of_ble_eq_true rfl)⟩) (pre3V g hK mq0_ kq0_ (by decide) (q := (RX8, TX8, 10)) rfl) rfl rfl hl.1 rfl (lv_room (Nat.le_of_ble_eq_true rfl)) dX2_readMark_240 ⟨(Nat.le_of_ble_eq_true rfl), (Nat.le_of_ble_eq_true rfl)⟩) g hK (by decide) (by decide) (fx' := [(6, 6, q5_, .int 1), (7, 13, q3_, .int x_611), (6, 12, q5_, .int y_544), (8, 8, q0_, .int x_444), (2, 0, a0_, .ref q0_), (2, 1, a0_, .ref q1_), (2, 2, a0_, .ref q2_), (2, 3, a0_, .ref q3_), (2, 4, a0_, .ref q4_), (2, 5, a0_, .ref q5_), (0, 0, q2_, .ref q0_), (0, 1, q2_, .ref q1_), (5, 0, q1_, .ref q8_), (5, 1, q1_, .ref q9_), (9, 8, q4_, .int y1_), (7, 3, q3_, .int y2_), (5, 2, q1_, .int y4_), (7, 1, q3_, .int y5_)]) rfl (fun fr_617 H locs hp hMr_617 g => ?_)
          obtain ⟨x_618, h_619, hF_620⟩ := hp
          have hG_621 := eOK.frame hMr_617 go_.2.2.2.1 mq2_ kq2_ (by decide) (by decide) hG_616
          have g := g.more hF_620
          subst hQ
          exact W.vret hx hb hr (fun t ht hW => ⟨⟨_, rfl, Or.inr (⟨hG_621, x_618, h_619, x_444, h_445, x_611, h_612, y_544, (bd_sub b_545 (by decide)), (g.fcts [0, 4, 2, 3] rfl)⟩), q3_of g hK ht hW⟩, g.2.2.1.F ht⟩) g.2.2.1.2.2 dX2_readMark_243
        by_cases e_622 : r_1 = 20
        · refine lv_topi (fun z_623 ez_623 => ?_)
          obtain rfl : z_623 = 20 := ez_623.trans e_622
          have b_624 : bd 20 20 r_1 := eqX (eq_f e_622) (bdT r_1) kb_20 (by decide)
          refine lv_tableIn (off := 110) (tgt := 201) hx hb dX2_readMark_91 (by decide) (by decide) rfl (by decide) ?_
          refine lv_aload_n hx hb dX2_readMark_201 rfl (lv_at hl 2 rfl) ?_
          have go_ := g
          refine g_callv (va_runV (As := []) (rest := []) ⟨hx, hb, hml, hown, hts⟩ (r_X2_readOnly_2 l dC dI L kd tys f H.size g.2.2.2.1 a0_ ma0_ ka0_ q0_ mq0_ kq0_ q3_ mq3_ kq3_ q4_ mq4_ kq4_ 1201 kb_1201 x_444 h_445 (g.fcts [3, 6, 7, 1, 2] rfl)) (cwV 0 hts (gV_ t_1330 t_1332 t_38 t_183 t_1333) rfl rfl rfl (by decide +kernel) ⟨(Nat.le_of_ble_eq_true rfl), (Nat.le_of_ble_eq_true rfl)⟩) (pre3V g hK ma0_ ka0_ (by decide) (q := (RX2, TX2, 16)) rfl) rfl rfl hl.1 rfl (lv_room (Nat.le_of_ble_eq_true rfl)) dX2_readMark_202 ⟨(Nat.le_of_ble_eq_true rfl), (Nat.le_of_ble_eq_true rfl)⟩) g hK (by decide) (by decide) (fx' := [(6, 12, q5_, .int y_544), (8, 8, q0_, .int x_444), (2, 0, a0_, .ref q0_), (2, 1, a0_, .ref q1_), (2, 2, a0_, .ref q2_), (2, 3, a0_, .ref q3_), (2, 4, a0_, .ref q4_), (2, 5, a0_, .ref q5_), (0, 0, q2_, .ref q0_), (0, 1, q2_, .ref q1_), (5, 0, q1_, .ref q8_), (5, 1, q1_, .ref q9_), (9, 8, q4_, .int y1_), (7, 3, q3_, .int y2_), (5, 2, q1_, .int y4_), (7, 1, q3_, .int y5_)]) rfl (fun fr_625 H locs hp hMr_625 g => ?_)
          obtain ⟨x_626, h_627, x_628, h_629, hF_630⟩ := hp
          have hG_631 := eOK.frame hMr_625 go_.2.2.2.1 mq2_ kq2_ (by decide) (by decide) hG_547
          have g := g.more hF_630
          refine lv_goto (tgt := 234) hx hb dX2_readMark_205 (by decide) ?_
          refine lv_aload_n hx hb dX2_readMark_234 rfl (lv_at hl 2 rfl) ?_
          refine g_getk (C := RX2) (T := TX2) (N := 16) hx hb hts (mc_ inX2) hown hK g rfl 0 (by decide) rfl (hts _ (List.mem_cons_of_mem _ t_416)) (fun _ h9 => h9) 4 rfl dX2_readMark_235 ?_
          refine lv_bipush (v := 59) hx hb dX2_readMark_238 (by decide) ?_
          have go_ := g
          refine g_callv (va_runV (As := [.int 59]) (rest := []) ⟨hx, hb, hml, hown, hts⟩ (r_X8_take_2 l dC dI L kd tys fr_625 H.size g.2.2.2.1 q0_ mq0_ kq0_ 59 x_628 h_629 x_444 h_445 (g.fcts [1, 3] rfl)) (cwV 1 hts (gV_ t_1098 t_1099 t_1100 t_184 t_1101) rfl rfl rfl (by decide +kernel) ⟨(Nat.le_of_ble_eq_true rfl), (Nat.le_of_ble_eq_true rfl)⟩) (pre3V g hK mq0_ kq0_ (by decide) (q := (RX8, TX8, 10)) rfl) rfl rfl hl.1 rfl (lv_room (Nat.le_of_ble_eq_true rfl)) dX2_readMark_240 ⟨(Nat.le_of_ble_eq_true rfl), (Nat.le_of_ble_eq_true rfl)⟩) g hK (by decide) (by decide) (fx' := [(7, 13, q3_, .int x_626), (6, 12, q5_, .int y_544), (8, 8, q0_, .int x_444), (2, 0, a0_, .ref q0_), (2, 1, a0_, .ref q1_), (2, 2, a0_, .ref q2_), (2, 3, a0_, .ref q3_), (2, 4, a0_, .ref q4_), (2, 5, a0_, .ref q5_), (0, 0, q2_, .ref q0_), (0, 1, q2_, .ref q1_), (5, 0, q1_, .ref q8_), (5, 1, q1_, .ref q9_), (9, 8, q4_, .int y1_), (7, 3, q3_, .int y2_), (5, 2, q1_, .int y4_), (7, 1, q3_, .int y5_)]) rfl (fun fr_632 H locs hp hMr_632 g => ?_)
          obtain ⟨x_633, h_634, hF_635⟩ := hp
          have hG_636 := eOK.frame hMr_632 go_.2.2.2.1 mq2_ kq2_ (by decide) (by decide) hG_631
          have g := g.more hF_635
          subst hQ
          exact W.vret hx hb hr (fun t ht hW => ⟨⟨_, rfl, Or.inr (⟨hG_636, x_633, h_634, x_444, h_445, x_626, h_627, y_544, (bd_sub b_545 (by decide)), (g.fcts [0, 3, 1, 2] rfl)⟩), q3_of g hK ht hW⟩, g.2.2.1.F ht⟩) g.2.2.1.2.2 dX2_readMark_243
        refine lv_tableOut (tgt := 208) hx hb dX2_readMark_91 (by have a0 : r_1.toInt ≠ 16 := fun h => e_548 (Int32.toInt_inj.mp (h.trans (by decide))); have a1 : r_1.toInt ≠ 17 := fun h => e_569 (Int32.toInt_inj.mp (h.trans (by decide))); have a2 : r_1.toInt ≠ 18 := fun h => e_590 (Int32.toInt_inj.mp (h.trans (by decide))); have a3 : r_1.toInt ≠ 19 := fun h => e_606 (Int32.toInt_inj.mp (h.trans (by decide))); have a4 : r_1.toInt ≠ 20 := fun h => e_622 (Int32.toInt_inj.mp (h.trans (by decide))); omega) (by decide) ?_
        refine lv_aload_n hx hb dX2_readMark_208 rfl (lv_at hl 2 rfl) ?_
        refine g_getk (C := RX2) (T := TX2) (N := 16) hx hb hts (mc_ inX2) hown hK g rfl 3 (by decide) rfl (hts _ (List.mem_cons_of_mem _ t_419)) (fun _ h9 => h9) 6 rfl dX2_readMark_209 ?_
        refine lv_bipush (v := 6) hx hb dX2_readMark_212 (by decide) ?_
        refine lv_aload_n hx hb dX2_readMark_214 rfl (lv_at hl 2 rfl) ?_
        refine g_getk (C := RX2) (T := TX2) (N := 16) hx hb hts (mc_ inX2) hown hK g rfl 1 (by decide) rfl (hts _ (List.mem_cons_of_mem _ t_417)) (fun _ h9 => h9) 4 rfl dX2_readMark_215 ?_
        refine g_getk (C := RX5) (T := TX5) (N := 9) hx hb hts (mc_ inX5) hown hK g rfl 2 (by decide) rfl (hts _ (List.mem_cons_of_mem _ t_333)) (fun _ h9 => h9) 15 rfl dX2_readMark_218 ?_
        refine lv_iload_n hx hb dX2_readMark_221 rfl (lv_at hl 0 rfl) ?_
        have go_ := g
        refine g_calli (va_runV (As := [.int 6, .int y4_, .int r_3]) (rest := []) ⟨hx, hb, hml, hown, hts⟩ (r_X7_addMark l dC dI L kd tys f H.size g.2.2.2.1 q3_ mq3_ kq3_ 6 y4_ r_3) (cwV 3 hts (gV_ t_1173 t_1174 t_1175 t_191 t_1176) rfl rfl rfl (by decide +kernel) ⟨(Nat.le_of_ble_eq_true rfl), (Nat.le_of_ble_eq_true rfl)⟩) (pre3V g hK mq3_ kq3_ (by decide) (q := (RX7, TX7, 19)) rfl) rfl rfl hl.1 rfl (lv_room (Nat.le_of_ble_eq_true rfl)) dX2_readMark_222 ⟨(Nat.le_of_ble_eq_true rfl), (Nat.le_of_ble_eq_true rfl)⟩) g hK (by decide) (by decide) (fx' := [(6, 12, q5_, .int y_544), (8, 6, q0_, .int 1201), (8, 8, q0_, .int x_444), (2, 0, a0_, .ref q0_), (2, 1, a0_, .ref q1_), (2, 2, a0_, .ref q2_), (2, 3, a0_, .ref q3_), (2, 4, a0_, .ref q4_), (2, 5, a0_, .ref q5_), (0, 0, q2_, .ref q0_), (0, 1, q2_, .ref q1_), (5, 0, q1_, .ref q8_), (5, 1, q1_, .ref q9_), (9, 8, q4_, .int y1_), (7, 3, q3_, .int y2_), (5, 2, q1_, .int y4_), (7, 1, q3_, .int y5_)]) rfl (fun r_637 fr_637 H locs hp hMr_637 g => ?_)
        obtain ⟨h_638, x_639, h_640, hF_641⟩ := hp
        have hG_642 := eOK.frame hMr_637 go_.2.2.2.1 mq2_ kq2_ (by decide) (by decide) hG_547
        have g := g.more hF_641
        refine lv_pop hx hb dX2_readMark_225 rfl ?_
        refine lv_aload_n hx hb dX2_readMark_226 rfl (lv_at hl 2 rfl) ?_
        refine g_getk (C := RX2) (T := TX2) (N := 16) hx hb hts (mc_ inX2) hown hK g rfl 5 (by decide) rfl (hts _ (List.mem_cons_of_mem _ t_421)) (fun _ h9 => h9) 9 rfl dX2_readMark_227 ?_
        refine lv_iconst (v := 1) hx hb dX2_readMark_230 (by decide) ?_
        have go_ := g
        refine g_put (C := RX6) (T := TX6) (N := 13) hx hb hts (mc_ inX6) tyX6 tyX6_ok nmX6 hown hK g mq5_ kq5_ (by decide) rfl 6 (by decide) (hts _ (List.mem_cons_of_mem _ t_578)) (fun _ h9 => h9) rfl rfl (okV_i (bd_sub kb_1 (by decide))) rfl rfl (by decide) (Or.inr (Or.inl (by decide))) (fx' := [(7, 13, q3_, .int x_639), (6, 12, q5_, .int y_544), (8, 6, q0_, .int 1201), (8, 8, q0_, .int x_444), (2, 0, a0_, .ref q0_), (2, 1, a0_, .ref q1_), (2, 2, a0_, .ref q2_), (2, 3, a0_, .ref q3_), (2, 4, a0_, .ref q4_), (2, 5, a0_, .ref q5_), (0, 0, q2_, .ref q0_), (0, 1, q2_, .ref q1_), (5, 0, q1_, .ref q8_), (5, 1, q1_, .ref q9_), (9, 8, q4_, .int y1_), (7, 3, q3_, .int y2_), (5, 2, q1_, .int y4_), (7, 1, q3_, .int y5_)]) rfl dX2_readMark_231 (fun f H locs hM_643 g => ?_)
        have hG_644 := eOK.frame hM_643 go_.2.2.2.1 mq2_ kq2_ (by decide) (by decide) hG_642
        refine lv_aload_n hx hb dX2_readMark_234 rfl (lv_at hl 2 rfl) ?_
        refine g_getk (C := RX2) (T := TX2) (N := 16) hx hb hts (mc_ inX2) hown hK g rfl 0 (by decide) rfl (hts _ (List.mem_cons_of_mem _ t_416)) (fun _ h9 => h9) 5 rfl dX2_readMark_235 ?_
        refine lv_bipush (v := 59) hx hb dX2_readMark_238 (by decide) ?_
        have go_ := g
        refine g_callv (va_runV (As := [.int 59]) (rest := []) ⟨hx, hb, hml, hown, hts⟩ (r_X8_take_2 l dC dI L kd tys f H.size g.2.2.2.1 q0_ mq0_ kq0_ 59 1201 kb_1201 x_444 h_445 (g.fcts [3, 4] rfl)) (cwV 1 hts (gV_ t_1098 t_1099 t_1100 t_184 t_1101) rfl rfl rfl (by decide +kernel) ⟨(Nat.le_of_ble_eq_true rfl), (Nat.le_of_ble_eq_true rfl)⟩) (pre3V g hK mq0_ kq0_ (by decide) (q := (RX8, TX8, 10)) rfl) rfl rfl hl.1 rfl (lv_room (Nat.le_of_ble_eq_true rfl)) dX2_readMark_240 ⟨(Nat.le_of_ble_eq_true rfl), (Nat.le_of_ble_eq_true rfl)⟩) g hK (by decide) (by decide) (fx' := [(6, 6, q5_, .int 1), (7, 13, q3_, .int x_639), (6, 12, q5_, .int y_544), (8, 8, q0_, .int x_444), (2, 0, a0_, .ref q0_), (2, 1, a0_, .ref q1_), (2, 2, a0_, .ref q2_), (2, 3, a0_, .ref q3_), (2, 4, a0_, .ref q4_), (2, 5, a0_, .ref q5_), (0, 0, q2_, .ref q0_), (0, 1, q2_, .ref q1_), (5, 0, q1_, .ref q8_), (5, 1, q1_, .ref q9_), (9, 8, q4_, .int y1_), (7, 3, q3_, .int y2_), (5, 2, q1_, .int y4_), (7, 1, q3_, .int y5_)]) rfl (fun fr_645 H locs hp hMr_645 g => ?_)
        obtain ⟨x_646, h_647, hF_648⟩ := hp
        have hG_649 := eOK.frame hMr_645 go_.2.2.2.1 mq2_ kq2_ (by decide) (by decide) hG_644
        have g := g.more hF_648
        subst hQ
        exact W.vret hx hb hr (fun t ht hW => ⟨⟨_, rfl, Or.inr (⟨hG_649, x_646, h_647, x_444, h_445, x_639, h_640, y_544, (bd_sub b_545 (by decide)), (g.fcts [0, 4, 2, 3] rfl)⟩), q3_of g hK ht hW⟩, g.2.2.1.F ht⟩) g.2.2.1.2.2 dX2_readMark_243
      · have fc_543 := eq_f c_543
        have b_650 : bd 21 21 r_1 := eqX fc_543 (bdT r_1) kb_21 (by decide)
        refine lv_aload_n hx hb dX2_readMark_56 rfl (lv_at hl 2 rfl) ?_
        refine g_geti (C := RX2) (T := TX2) (N := 16) hx hb hts (mc_ inX2) hown hK g ma0_ ka0_ (by decide) rfl 6 (by decide) rfl (hts _ (List.mem_cons_of_mem _ t_422)) (fun _ h9 => h9) rfl dX2_readMark_57 (fun x_651 bx_651 g => ?_)
        have kb_0 : bd 0 0 (0 : Int32) := ⟨by decide, by decide⟩
        refine lv_if_eq (tgt := 72) hx hb dX2_readMark_60 (by decide) (fun c_652 => ?_) (fun c_652 => ?_)
        · have fc_652 := eq_f c_652
          have b_653 : bd 0 0 x_651 := eqX fc_652 bx_651 kb_0 (by decide)
          refine lv_aload_n hx hb dX2_readMark_72 rfl (lv_at hl 2 rfl) ?_
          refine lv_iconst (v := 1) hx hb dX2_readMark_73 (by decide) ?_
          have kb_1 : bd 1 1 (1 : Int32) := ⟨by decide, by decide⟩
          have go_ := g
          refine g_put (C := RX2) (T := TX2) (N := 16) hx hb hts (mc_ inX2) tyX2 tyX2_ok nmX2 hown hK g ma0_ ka0_ (by decide) rfl 6 (by decide) (hts _ (List.mem_cons_of_mem _ t_422)) (fun _ h9 => h9) rfl rfl (okV_i (bd_sub kb_1 (by decide))) rfl rfl (by decide) (Or.inr (Or.inl (by decide))) (fx' := [(8, 6, q0_, .int 1201), (8, 8, q0_, .int x_444), (2, 0, a0_, .ref q0_), (2, 1, a0_, .ref q1_), (2, 2, a0_, .ref q2_), (2, 3, a0_, .ref q3_), (2, 4, a0_, .ref q4_), (2, 5, a0_, .ref q5_), (0, 0, q2_, .ref q0_), (0, 1, q2_, .ref q1_), (5, 0, q1_, .ref q8_), (5, 1, q1_, .ref q9_), (9, 8, q4_, .int y1_), (7, 3, q3_, .int y2_), (6, 12, q5_, .int y3_), (5, 2, q1_, .int y4_), (7, 1, q3_, .int y5_)]) rfl dX2_readMark_74 (fun f H locs hM_654 g => ?_)
          have hG_655 := eOK.frame hM_654 go_.2.2.2.1 mq2_ kq2_ (by decide) (by decide) hG_449
          refine lv_aload_n hx hb dX2_readMark_77 rfl (lv_at hl 2 rfl) ?_
          refine g_getk (C := RX2) (T := TX2) (N := 16) hx hb hts (mc_ inX2) hown hK g rfl 5 (by decide) rfl (hts _ (List.mem_cons_of_mem _ t_421)) (fun _ h9 => h9) 8 rfl dX2_readMark_78 ?_
          refine lv_dup hx hb dX2_readMark_81 rfl ?_
          refine g_getk (C := RX6) (T := TX6) (N := 13) hx hb hts (mc_ inX6) hown hK g rfl 12 (by decide) rfl (hts _ (List.mem_cons_of_mem _ t_591)) (fun _ h9 => h9) 15 rfl dX2_readMark_82 ?_
          refine lv_iconst (v := 1) hx hb dX2_readMark_85 (by decide) ?_
          refine lv_iadd hx hb dX2_readMark_86 ?_
          refine lv_topi (fun y_656 ey_656 => ?_)
          have ty_656 := add_bd ey_656 b_442 kb_1 (by decide)
          have b_657 : bd 9 9 y_656 := add_rg ty_656 b_442 kb_1 (by decide)
          have go_ := g
          refine g_put (C := RX6) (T := TX6) (N := 13) hx hb hts (mc_ inX6) tyX6 tyX6_ok nmX6 hown hK g mq5_ kq5_ (by decide) rfl 12 (by decide) (hts _ (List.mem_cons_of_mem _ t_591)) (fun _ h9 => h9) rfl rfl (okV_i (bd_sub b_657 (by decide))) rfl rfl (by decide) (Or.inr (Or.inl (by decide))) (fx' := [(2, 6, a0_, .int 1), (8, 6, q0_, .int 1201), (8, 8, q0_, .int x_444), (2, 0, a0_, .ref q0_), (2, 1, a0_, .ref q1_), (2, 2, a0_, .ref q2_), (2, 3, a0_, .ref q3_), (2, 4, a0_, .ref q4_), (2, 5, a0_, .ref q5_), (0, 0, q2_, .ref q0_), (0, 1, q2_, .ref q1_), (5, 0, q1_, .ref q8_), (5, 1, q1_, .ref q9_), (9, 8, q4_, .int y1_), (7, 3, q3_, .int y2_), (5, 2, q1_, .int y4_), (7, 1, q3_, .int y5_)]) rfl dX2_readMark_87 (fun f H locs hM_658 g => ?_)
          have hG_659 := eOK.frame hM_658 go_.2.2.2.1 mq2_ kq2_ (by decide) (by decide) hG_655
          refine lv_iload_n hx hb dX2_readMark_90 rfl (lv_at hl 1 rfl) ?_
          by_cases e_660 : r_1 = 16
          · refine lv_topi (fun z_661 ez_661 => ?_)
            obtain rfl : z_661 = 16 := ez_661.trans e_660
            have kb_16 : bd 16 16 (16 : Int32) := ⟨by decide, by decide⟩
            exact bd_no (eqX (eq_f e_660) b_650 kb_16 (lo := 21) (hi := 16) (by decide)) (by decide)
          by_cases e_662 : r_1 = 17
          · refine lv_topi (fun z_663 ez_663 => ?_)
            obtain rfl : z_663 = 17 := ez_663.trans e_662
            have kb_17 : bd 17 17 (17 : Int32) := ⟨by decide, by decide⟩
            exact bd_no (eqX (eq_f e_662) b_650 kb_17 (lo := 21) (hi := 17) (by decide)) (by decide)
          by_cases e_664 : r_1 = 18
          · refine lv_topi (fun z_665 ez_665 => ?_)
            obtain rfl : z_665 = 18 := ez_665.trans e_664
            have kb_18 : bd 18 18 (18 : Int32) := ⟨by decide, by decide⟩
            exact bd_no (eqX (eq_f e_664) b_650 kb_18 (lo := 21) (hi := 18) (by decide)) (by decide)
          by_cases e_666 : r_1 = 19
          · refine lv_topi (fun z_667 ez_667 => ?_)
            obtain rfl : z_667 = 19 := ez_667.trans e_666
            have kb_19 : bd 19 19 (19 : Int32) := ⟨by decide, by decide⟩
            exact bd_no (eqX (eq_f e_666) b_650 kb_19 (lo := 21) (hi := 19) (by decide)) (by decide)
          by_cases e_668 : r_1 = 20
          · refine lv_topi (fun z_669 ez_669 => ?_)
            obtain rfl : z_669 = 20 := ez_669.trans e_668
            exact bd_no (eqX (eq_f e_668) b_650 kb_20 (lo := 21) (hi := 20) (by decide)) (by decide)
          refine lv_tableOut (tgt := 208) hx hb dX2_readMark_91 (by have a0 : r_1.toInt ≠ 16 := fun h => e_660 (Int32.toInt_inj.mp (h.trans (by decide))); have a1 : r_1.toInt ≠ 17 := fun h => e_662 (Int32.toInt_inj.mp (h.trans (by decide))); have a2 : r_1.toInt ≠ 18 := fun h => e_664 (Int32.toInt_inj.mp (h.trans (by decide))); have a3 : r_1.toInt ≠ 19 := fun h => e_666 (Int32.toInt_inj.mp (h.trans (by decide))); have a4 : r_1.toInt ≠ 20 := fun h => e_668 (Int32.toInt_inj.mp (h.trans (by decide))); omega) (by decide) ?_
          refine lv_aload_n hx hb dX2_readMark_208 rfl (lv_at hl 2 rfl) ?_
          refine g_getk (C := RX2) (T := TX2) (N := 16) hx hb hts (mc_ inX2) hown hK g rfl 3 (by decide) rfl (hts _ (List.mem_cons_of_mem _ t_419)) (fun _ h9 => h9) 7 rfl dX2_readMark_209 ?_
          refine lv_bipush (v := 6) hx hb dX2_readMark_212 (by decide) ?_
          refine lv_aload_n hx hb dX2_readMark_214 rfl (lv_at hl 2 rfl) ?_
          refine g_getk (C := RX2) (T := TX2) (N := 16) hx hb hts (mc_ inX2) hown hK g rfl 1 (by decide) rfl (hts _ (List.mem_cons_of_mem _ t_417)) (fun _ h9 => h9) 5 rfl dX2_readMark_215 ?_
          refine g_getk (C := RX5) (T := TX5) (N := 9) hx hb hts (mc_ inX5) hown hK g rfl 2 (by decide) rfl (hts _ (List.mem_cons_of_mem _ t_333)) (fun _ h9 => h9) 16 rfl dX2_readMark_218 ?_
          refine lv_iload_n hx hb dX2_readMark_221 rfl (lv_at hl 0 rfl) ?_
          have go_ := g
          refine g_calli (va_runV (As := [.int 6, .int y4_, .int r_3]) (rest := []) ⟨hx, hb, hml, hown, hts⟩ (r_X7_addMark l dC dI L kd tys f H.size g.2.2.2.1 q3_ mq3_ kq3_ 6 y4_ r_3) (cwV 3 hts (gV_ t_1173 t_1174 t_1175 t_191 t_1176) rfl rfl rfl (by decide +kernel) ⟨(Nat.le_of_ble_eq_true rfl), (Nat.le_of_ble_eq_true rfl)⟩) (pre3V g hK mq3_ kq3_ (by decide) (q := (RX7, TX7, 19)) rfl) rfl rfl hl.1 rfl (lv_room (Nat.le_of_ble_eq_true rfl)) dX2_readMark_222 ⟨(Nat.le_of_ble_eq_true rfl), (Nat.le_of_ble_eq_true rfl)⟩) g hK (by decide) (by decide) (fx' := [(6, 12, q5_, .int y_656), (2, 6, a0_, .int 1), (8, 6, q0_, .int 1201), (8, 8, q0_, .int x_444), (2, 0, a0_, .ref q0_), (2, 1, a0_, .ref q1_), (2, 2, a0_, .ref q2_), (2, 3, a0_, .ref q3_), (2, 4, a0_, .ref q4_), (2, 5, a0_, .ref q5_), (0, 0, q2_, .ref q0_), (0, 1, q2_, .ref q1_), (5, 0, q1_, .ref q8_), (5, 1, q1_, .ref q9_), (9, 8, q4_, .int y1_), (7, 3, q3_, .int y2_), (5, 2, q1_, .int y4_), (7, 1, q3_, .int y5_)]) rfl (fun r_670 fr_670 H locs hp hMr_670 g => ?_)
          obtain ⟨h_671, x_672, h_673, hF_674⟩ := hp
          have hG_675 := eOK.frame hMr_670 go_.2.2.2.1 mq2_ kq2_ (by decide) (by decide) hG_659
          have g := g.more hF_674
          refine lv_pop hx hb dX2_readMark_225 rfl ?_
          refine lv_aload_n hx hb dX2_readMark_226 rfl (lv_at hl 2 rfl) ?_
          refine g_getk (C := RX2) (T := TX2) (N := 16) hx hb hts (mc_ inX2) hown hK g rfl 5 (by decide) rfl (hts _ (List.mem_cons_of_mem _ t_421)) (fun _ h9 => h9) 10 rfl dX2_readMark_227 ?_
          refine lv_iconst (v := 1) hx hb dX2_readMark_230 (by decide) ?_
          have go_ := g
          refine g_put (C := RX6) (T := TX6) (N := 13) hx hb hts (mc_ inX6) tyX6 tyX6_ok nmX6 hown hK g mq5_ kq5_ (by decide) rfl 6 (by decide) (hts _ (List.mem_cons_of_mem _ t_578)) (fun _ h9 => h9) rfl rfl (okV_i (bd_sub kb_1 (by decide))) rfl rfl (by decide) (Or.inr (Or.inl (by decide))) (fx' := [(7, 13, q3_, .int x_672), (6, 12, q5_, .int y_656), (2, 6, a0_, .int 1), (8, 6, q0_, .int 1201), (8, 8, q0_, .int x_444), (2, 0, a0_, .ref q0_), (2, 1, a0_, .ref q1_), (2, 2, a0_, .ref q2_), (2, 3, a0_, .ref q3_), (2, 4, a0_, .ref q4_), (2, 5, a0_, .ref q5_), (0, 0, q2_, .ref q0_), (0, 1, q2_, .ref q1_), (5, 0, q1_, .ref q8_), (5, 1, q1_, .ref q9_), (9, 8, q4_, .int y1_), (7, 3, q3_, .int y2_), (5, 2, q1_, .int y4_), (7, 1, q3_, .int y5_)]) rfl dX2_readMark_231 (fun f H locs hM_676 g => ?_)
          have hG_677 := eOK.frame hM_676 go_.2.2.2.1 mq2_ kq2_ (by decide) (by decide) hG_675
          refine lv_aload_n hx hb dX2_readMark_234 rfl (lv_at hl 2 rfl) ?_
          refine g_getk (C := RX2) (T := TX2) (N := 16) hx hb hts (mc_ inX2) hown hK g rfl 0 (by decide) rfl (hts _ (List.mem_cons_of_mem _ t_416)) (fun _ h9 => h9) 6 rfl dX2_readMark_235 ?_
          refine lv_bipush (v := 59) hx hb dX2_readMark_238 (by decide) ?_
          have go_ := g
          refine g_callv (va_runV (As := [.int 59]) (rest := []) ⟨hx, hb, hml, hown, hts⟩ (r_X8_take_2 l dC dI L kd tys f H.size g.2.2.2.1 q0_ mq0_ kq0_ 59 1201 kb_1201 x_444 h_445 (g.fcts [4, 5] rfl)) (cwV 1 hts (gV_ t_1098 t_1099 t_1100 t_184 t_1101) rfl rfl rfl (by decide +kernel) ⟨(Nat.le_of_ble_eq_true rfl), (Nat.le_of_ble_eq_true rfl)⟩) (pre3V g hK mq0_ kq0_ (by decide) (q := (RX8, TX8, 10)) rfl) rfl rfl hl.1 rfl (lv_room (Nat.le_of_ble_eq_true rfl)) dX2_readMark_240 ⟨(Nat.le_of_ble_eq_true rfl), (Nat.le_of_ble_eq_true rfl)⟩) g hK (by decide) (by decide) (fx' := [(6, 6, q5_, .int 1), (7, 13, q3_, .int x_672), (6, 12, q5_, .int y_656), (2, 6, a0_, .int 1), (8, 8, q0_, .int x_444), (2, 0, a0_, .ref q0_), (2, 1, a0_, .ref q1_), (2, 2, a0_, .ref q2_), (2, 3, a0_, .ref q3_), (2, 4, a0_, .ref q4_), (2, 5, a0_, .ref q5_), (0, 0, q2_, .ref q0_), (0, 1, q2_, .ref q1_), (5, 0, q1_, .ref q8_), (5, 1, q1_, .ref q9_), (9, 8, q4_, .int y1_), (7, 3, q3_, .int y2_), (5, 2, q1_, .int y4_), (7, 1, q3_, .int y5_)]) rfl (fun fr_678 H locs hp hMr_678 g => ?_)
          obtain ⟨x_679, h_680, hF_681⟩ := hp
          have hG_682 := eOK.frame hMr_678 go_.2.2.2.1 mq2_ kq2_ (by decide) (by decide) hG_677
          have g := g.more hF_681
          subst hQ
          exact W.vret hx hb hr (fun t ht hW => ⟨⟨_, rfl, Or.inr (⟨hG_682, x_679, h_680, x_444, h_445, x_672, h_673, y_656, (bd_sub b_657 (by decide)), (g.fcts [0, 5, 2, 3] rfl)⟩), q3_of g hK ht hW⟩, g.2.2.1.F ht⟩) g.2.2.1.2.2 dX2_readMark_243
        · have fc_652 := neq_f c_652
          have b_683 : bd 1 1 x_651 := neX fc_652 bx_651 kb_0 (by decide)
          refine lv_aload_n hx hb dX2_readMark_63 rfl (lv_at hl 2 rfl) ?_
          refine g_getk (C := RX2) (T := TX2) (N := 16) hx hb hts (mc_ inX2) hown hK g rfl 0 (by decide) rfl (hts _ (List.mem_cons_of_mem _ t_416)) (fun _ h9 => h9) 3 rfl dX2_readMark_64 ?_
          refine lv_iconst (v := 5) hx hb dX2_readMark_67 (by decide) ?_
          refine lv_iload_n hx hb dX2_readMark_68 rfl (lv_at hl 0 rfl) ?_
          have kb_5 : bd 5 5 (5 : Int32) := ⟨by decide, by decide⟩
          have go_ := g
          refine g_callv (va_runV (As := [.int 5, .int r_3]) (rest := []) ⟨hx, hb, hml, hown, hts⟩ (r_X8_fail_2 l dC dI L kd tys fr_448 H.size g.2.2.2.1 q0_ mq0_ kq0_ 5 (bd_sub kb_5 (by decide)) r_3 x_444 h_445 (g.fcts [2] rfl)) (cwV 2 hts (gV_ t_1122 t_1107 t_1108 t_184 t_1109) rfl rfl rfl (by decide +kernel) ⟨(Nat.le_of_ble_eq_true rfl), (Nat.le_of_ble_eq_true rfl)⟩) (pre3V g hK mq0_ kq0_ (by decide) (q := (RX8, TX8, 10)) rfl) rfl rfl hl.1 rfl (lv_room (Nat.le_of_ble_eq_true rfl)) dX2_readMark_69 ⟨(Nat.le_of_ble_eq_true rfl), (Nat.le_of_ble_eq_true rfl)⟩) g hK (by decide) (by decide) (fx' := [(2, 6, a0_, .int x_651), (8, 8, q0_, .int x_444), (2, 0, a0_, .ref q0_), (2, 1, a0_, .ref q1_), (2, 2, a0_, .ref q2_), (2, 3, a0_, .ref q3_), (2, 4, a0_, .ref q4_), (2, 5, a0_, .ref q5_), (0, 0, q2_, .ref q0_), (0, 1, q2_, .ref q1_), (5, 0, q1_, .ref q8_), (5, 1, q1_, .ref q9_), (9, 8, q4_, .int y1_), (7, 3, q3_, .int y2_), (6, 12, q5_, .int y3_), (5, 2, q1_, .int y4_), (7, 1, q3_, .int y5_)]) rfl (fun fr_684 H locs hp hMr_684 g => ?_)
          have hF_685 := hp
          have hG_686 := eOK.frame hMr_684 go_.2.2.2.1 mq2_ kq2_ (by decide) (by decide) hG_449
          have g := g.more hF_685
          refine lv_aload_n hx hb dX2_readMark_72 rfl (lv_at hl 2 rfl) ?_
          refine lv_iconst (v := 1) hx hb dX2_readMark_73 (by decide) ?_
          have kb_1 : bd 1 1 (1 : Int32) := ⟨by decide, by decide⟩
          have go_ := g
          refine g_put (C := RX2) (T := TX2) (N := 16) hx hb hts (mc_ inX2) tyX2 tyX2_ok nmX2 hown hK g ma0_ ka0_ (by decide) rfl 6 (by decide) (hts _ (List.mem_cons_of_mem _ t_422)) (fun _ h9 => h9) rfl rfl (okV_i (bd_sub kb_1 (by decide))) rfl rfl (by decide) (Or.inr (Or.inl (by decide))) (fx' := [(8, 6, q0_, .int 1201), (8, 8, q0_, .int x_444), (2, 0, a0_, .ref q0_), (2, 1, a0_, .ref q1_), (2, 2, a0_, .ref q2_), (2, 3, a0_, .ref q3_), (2, 4, a0_, .ref q4_), (2, 5, a0_, .ref q5_), (0, 0, q2_, .ref q0_), (0, 1, q2_, .ref q1_), (5, 0, q1_, .ref q8_), (5, 1, q1_, .ref q9_), (9, 8, q4_, .int y1_), (7, 3, q3_, .int y2_), (6, 12, q5_, .int y3_), (5, 2, q1_, .int y4_), (7, 1, q3_, .int y5_)]) rfl dX2_readMark_74 (fun f H locs hM_687 g => ?_)
          have hG_688 := eOK.frame hM_687 go_.2.2.2.1 mq2_ kq2_ (by decide) (by decide) hG_686
          refine lv_aload_n hx hb dX2_readMark_77 rfl (lv_at hl 2 rfl) ?_
          refine g_getk (C := RX2) (T := TX2) (N := 16) hx hb hts (mc_ inX2) hown hK g rfl 5 (by decide) rfl (hts _ (List.mem_cons_of_mem _ t_421)) (fun _ h9 => h9) 8 rfl dX2_readMark_78 ?_
          refine lv_dup hx hb dX2_readMark_81 rfl ?_
          refine g_getk (C := RX6) (T := TX6) (N := 13) hx hb hts (mc_ inX6) hown hK g rfl 12 (by decide) rfl (hts _ (List.mem_cons_of_mem _ t_591)) (fun _ h9 => h9) 15 rfl dX2_readMark_82 ?_
          refine lv_iconst (v := 1) hx hb dX2_readMark_85 (by decide) ?_
          refine lv_iadd hx hb dX2_readMark_86 ?_
          refine lv_topi (fun y_689 ey_689 => ?_)
          have ty_689 := add_bd ey_689 b_442 kb_1 (by decide)
          have b_690 : bd 9 9 y_689 := add_rg ty_689 b_442 kb_1 (by decide)
          have go_ := g
          refine g_put (C := RX6) (T := TX6) (N := 13) hx hb hts (mc_ inX6) tyX6 tyX6_ok nmX6 hown hK g mq5_ kq5_ (by decide) rfl 12 (by decide) (hts _ (List.mem_cons_of_mem _ t_591)) (fun _ h9 => h9) rfl rfl (okV_i (bd_sub b_690 (by decide))) rfl rfl (by decide) (Or.inr (Or.inl (by decide))) (fx' := [(2, 6, a0_, .int 1), (8, 6, q0_, .int 1201), (8, 8, q0_, .int x_444), (2, 0, a0_, .ref q0_), (2, 1, a0_, .ref q1_), (2, 2, a0_, .ref q2_), (2, 3, a0_, .ref q3_), (2, 4, a0_, .ref q4_), (2, 5, a0_, .ref q5_), (0, 0, q2_, .ref q0_), (0, 1, q2_, .ref q1_), (5, 0, q1_, .ref q8_), (5, 1, q1_, .ref q9_), (9, 8, q4_, .int y1_), (7, 3, q3_, .int y2_), (5, 2, q1_, .int y4_), (7, 1, q3_, .int y5_)]) rfl dX2_readMark_87 (fun f H locs hM_691 g => ?_)
          have hG_692 := eOK.frame hM_691 go_.2.2.2.1 mq2_ kq2_ (by decide) (by decide) hG_688
          refine lv_iload_n hx hb dX2_readMark_90 rfl (lv_at hl 1 rfl) ?_
          by_cases e_693 : r_1 = 16
          · refine lv_topi (fun z_694 ez_694 => ?_)
            obtain rfl : z_694 = 16 := ez_694.trans e_693
            have kb_16 : bd 16 16 (16 : Int32) := ⟨by decide, by decide⟩
            exact bd_no (eqX (eq_f e_693) b_650 kb_16 (lo := 21) (hi := 16) (by decide)) (by decide)
          by_cases e_695 : r_1 = 17
          · refine lv_topi (fun z_696 ez_696 => ?_)
            obtain rfl : z_696 = 17 := ez_696.trans e_695
            have kb_17 : bd 17 17 (17 : Int32) := ⟨by decide, by decide⟩
            exact bd_no (eqX (eq_f e_695) b_650 kb_17 (lo := 21) (hi := 17) (by decide)) (by decide)
          by_cases e_697 : r_1 = 18
          · refine lv_topi (fun z_698 ez_698 => ?_)
            obtain rfl : z_698 = 18 := ez_698.trans e_697
            have kb_18 : bd 18 18 (18 : Int32) := ⟨by decide, by decide⟩
            exact bd_no (eqX (eq_f e_697) b_650 kb_18 (lo := 21) (hi := 18) (by decide)) (by decide)
          by_cases e_699 : r_1 = 19
          · refine lv_topi (fun z_700 ez_700 => ?_)
            obtain rfl : z_700 = 19 := ez_700.trans e_699
            have kb_19 : bd 19 19 (19 : Int32) := ⟨by decide, by decide⟩
            exact bd_no (eqX (eq_f e_699) b_650 kb_19 (lo := 21) (hi := 19) (by decide)) (by decide)
          by_cases e_701 : r_1 = 20
          · refine lv_topi (fun z_702 ez_702 => ?_)
            obtain rfl : z_702 = 20 := ez_702.trans e_701
            exact bd_no (eqX (eq_f e_701) b_650 kb_20 (lo := 21) (hi := 20) (by decide)) (by decide)
          refine lv_tableOut (tgt := 208) hx hb dX2_readMark_91 (by have a0 : r_1.toInt ≠ 16 := fun h => e_693 (Int32.toInt_inj.mp (h.trans (by decide))); have a1 : r_1.toInt ≠ 17 := fun h => e_695 (Int32.toInt_inj.mp (h.trans (by decide))); have a2 : r_1.toInt ≠ 18 := fun h => e_697 (Int32.toInt_inj.mp (h.trans (by decide))); have a3 : r_1.toInt ≠ 19 := fun h => e_699 (Int32.toInt_inj.mp (h.trans (by decide))); have a4 : r_1.toInt ≠ 20 := fun h => e_701 (Int32.toInt_inj.mp (h.trans (by decide))); omega) (by decide) ?_
          refine lv_aload_n hx hb dX2_readMark_208 rfl (lv_at hl 2 rfl) ?_
          refine g_getk (C := RX2) (T := TX2) (N := 16) hx hb hts (mc_ inX2) hown hK g rfl 3 (by decide) rfl (hts _ (List.mem_cons_of_mem _ t_419)) (fun _ h9 => h9) 7 rfl dX2_readMark_209 ?_
          refine lv_bipush (v := 6) hx hb dX2_readMark_212 (by decide) ?_
          refine lv_aload_n hx hb dX2_readMark_214 rfl (lv_at hl 2 rfl) ?_
          refine g_getk (C := RX2) (T := TX2) (N := 16) hx hb hts (mc_ inX2) hown hK g rfl 1 (by decide) rfl (hts _ (List.mem_cons_of_mem _ t_417)) (fun _ h9 => h9) 5 rfl dX2_readMark_215 ?_
          refine g_getk (C := RX5) (T := TX5) (N := 9) hx hb hts (mc_ inX5) hown hK g rfl 2 (by decide) rfl (hts _ (List.mem_cons_of_mem _ t_333)) (fun _ h9 => h9) 16 rfl dX2_readMark_218 ?_
          refine lv_iload_n hx hb dX2_readMark_221 rfl (lv_at hl 0 rfl) ?_
          have go_ := g
          refine g_calli (va_runV (As := [.int 6, .int y4_, .int r_3]) (rest := []) ⟨hx, hb, hml, hown, hts⟩ (r_X7_addMark l dC dI L kd tys f H.size g.2.2.2.1 q3_ mq3_ kq3_ 6 y4_ r_3) (cwV 3 hts (gV_ t_1173 t_1174 t_1175 t_191 t_1176) rfl rfl rfl (by decide +kernel) ⟨(Nat.le_of_ble_eq_true rfl), (Nat.le_of_ble_eq_true rfl)⟩) (pre3V g hK mq3_ kq3_ (by decide) (q := (RX7, TX7, 19)) rfl) rfl rfl hl.1 rfl (lv_room (Nat.le_of_ble_eq_true rfl)) dX2_readMark_222 ⟨(Nat.le_of_ble_eq_true rfl), (Nat.le_of_ble_eq_true rfl)⟩) g hK (by decide) (by decide) (fx' := [(6, 12, q5_, .int y_689), (2, 6, a0_, .int 1), (8, 6, q0_, .int 1201), (8, 8, q0_, .int x_444), (2, 0, a0_, .ref q0_), (2, 1, a0_, .ref q1_), (2, 2, a0_, .ref q2_), (2, 3, a0_, .ref q3_), (2, 4, a0_, .ref q4_), (2, 5, a0_, .ref q5_), (0, 0, q2_, .ref q0_), (0, 1, q2_, .ref q1_), (5, 0, q1_, .ref q8_), (5, 1, q1_, .ref q9_), (9, 8, q4_, .int y1_), (7, 3, q3_, .int y2_), (5, 2, q1_, .int y4_), (7, 1, q3_, .int y5_)]) rfl (fun r_703 fr_703 H locs hp hMr_703 g => ?_)
          obtain ⟨h_704, x_705, h_706, hF_707⟩ := hp
          have hG_708 := eOK.frame hMr_703 go_.2.2.2.1 mq2_ kq2_ (by decide) (by decide) hG_692
          have g := g.more hF_707
          refine lv_pop hx hb dX2_readMark_225 rfl ?_
          refine lv_aload_n hx hb dX2_readMark_226 rfl (lv_at hl 2 rfl) ?_
          refine g_getk (C := RX2) (T := TX2) (N := 16) hx hb hts (mc_ inX2) hown hK g rfl 5 (by decide) rfl (hts _ (List.mem_cons_of_mem _ t_421)) (fun _ h9 => h9) 10 rfl dX2_readMark_227 ?_
          refine lv_iconst (v := 1) hx hb dX2_readMark_230 (by decide) ?_
          have go_ := g
          refine g_put (C := RX6) (T := TX6) (N := 13) hx hb hts (mc_ inX6) tyX6 tyX6_ok nmX6 hown hK g mq5_ kq5_ (by decide) rfl 6 (by decide) (hts _ (List.mem_cons_of_mem _ t_578)) (fun _ h9 => h9) rfl rfl (okV_i (bd_sub kb_1 (by decide))) rfl rfl (by decide) (Or.inr (Or.inl (by decide))) (fx' := [(7, 13, q3_, .int x_705), (6, 12, q5_, .int y_689), (2, 6, a0_, .int 1), (8, 6, q0_, .int 1201), (8, 8, q0_, .int x_444), (2, 0, a0_, .ref q0_), (2, 1, a0_, .ref q1_), (2, 2, a0_, .ref q2_), (2, 3, a0_, .ref q3_), (2, 4, a0_, .ref q4_), (2, 5, a0_, .ref q5_), (0, 0, q2_, .ref q0_), (0, 1, q2_, .ref q1_), (5, 0, q1_, .ref q8_), (5, 1, q1_, .ref q9_), (9, 8, q4_, .int y1_), (7, 3, q3_, .int y2_), (5, 2, q1_, .int y4_), (7, 1, q3_, .int y5_)]) rfl dX2_readMark_231 (fun f H locs hM_709 g => ?_)
          have hG_710 := eOK.frame hM_709 go_.2.2.2.1 mq2_ kq2_ (by decide) (by decide) hG_708
          refine lv_aload_n hx hb dX2_readMark_234 rfl (lv_at hl 2 rfl) ?_
          refine g_getk (C := RX2) (T := TX2) (N := 16) hx hb hts (mc_ inX2) hown hK g rfl 0 (by decide) rfl (hts _ (List.mem_cons_of_mem _ t_416)) (fun _ h9 => h9) 6 rfl dX2_readMark_235 ?_
          refine lv_bipush (v := 59) hx hb dX2_readMark_238 (by decide) ?_
          have go_ := g
          refine g_callv (va_runV (As := [.int 59]) (rest := []) ⟨hx, hb, hml, hown, hts⟩ (r_X8_take_2 l dC dI L kd tys f H.size g.2.2.2.1 q0_ mq0_ kq0_ 59 1201 kb_1201 x_444 h_445 (g.fcts [4, 5] rfl)) (cwV 1 hts (gV_ t_1098 t_1099 t_1100 t_184 t_1101) rfl rfl rfl (by decide +kernel) ⟨(Nat.le_of_ble_eq_true rfl), (Nat.le_of_ble_eq_true rfl)⟩) (pre3V g hK mq0_ kq0_ (by decide) (q := (RX8, TX8, 10)) rfl) rfl rfl hl.1 rfl (lv_room (Nat.le_of_ble_eq_true rfl)) dX2_readMark_240 ⟨(Nat.le_of_ble_eq_true rfl), (Nat.le_of_ble_eq_true rfl)⟩) g hK (by decide) (by decide) (fx' := [(6, 6, q5_, .int 1), (7, 13, q3_, .int x_705), (6, 12, q5_, .int y_689), (2, 6, a0_, .int 1), (8, 8, q0_, .int x_444), (2, 0, a0_, .ref q0_), (2, 1, a0_, .ref q1_), (2, 2, a0_, .ref q2_), (2, 3, a0_, .ref q3_), (2, 4, a0_, .ref q4_), (2, 5, a0_, .ref q5_), (0, 0, q2_, .ref q0_), (0, 1, q2_, .ref q1_), (5, 0, q1_, .ref q8_), (5, 1, q1_, .ref q9_), (9, 8, q4_, .int y1_), (7, 3, q3_, .int y2_), (5, 2, q1_, .int y4_), (7, 1, q3_, .int y5_)]) rfl (fun fr_711 H locs hp hMr_711 g => ?_)
          obtain ⟨x_712, h_713, hF_714⟩ := hp
          have hG_715 := eOK.frame hMr_711 go_.2.2.2.1 mq2_ kq2_ (by decide) (by decide) hG_710
          have g := g.more hF_714
          subst hQ
          exact W.vret hx hb hr (fun t ht hW => ⟨⟨_, rfl, Or.inr (⟨hG_715, x_712, h_713, x_444, h_445, x_705, h_706, y_689, (bd_sub b_690 (by decide)), (g.fcts [0, 5, 2, 3] rfl)⟩), q3_of g hK ht hW⟩, g.2.2.1.F ht⟩) g.2.2.1.2.2 dX2_readMark_243
