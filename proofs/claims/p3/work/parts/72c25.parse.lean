set_option maxHeartbeats 4000000 in
set_option maxRecDepth 100000 in
theorem r_X2_readMark_4 (l : Launch) (dC : Nat → ClassId) (dI : Nat → Nat → Nat) (L : List Nat) (kd : Nat → Nat) (tys : List (ClassId × FieldType)) (f0 : Nat → va_E) (sz : Nat) (hWT : WT L kd tys f0) (a0_ : Nat) (ma0_ : a0_ ∈ L) (ka0_ : kd a0_ = 2) (q0_ : Nat) (mq0_ : q0_ ∈ L) (kq0_ : kd q0_ = 8) (q1_ : Nat) (mq1_ : q1_ ∈ L) (kq1_ : kd q1_ = 5) (q2_ : Nat) (mq2_ : q2_ ∈ L) (kq2_ : kd q2_ = 0) (q3_ : Nat) (mq3_ : q3_ ∈ L) (kq3_ : kd q3_ = 7) (q4_ : Nat) (mq4_ : q4_ ∈ L) (kq4_ : kd q4_ = 9) (q5_ : Nat) (mq5_ : q5_ ∈ L) (kq5_ : kd q5_ = 6) (q9_ : Nat) (mq9_ : q9_ ∈ L) (kq9_ : kd q9_ = 9) (y0_ : Int32) (by0_ : bd 0 0 y0_) (y1_ : Int32) (by1_ : bd 1 12 y1_) (y2_ : Int32) (by2_ : bd 1 96 y2_) (y3_ : Int32) (by3_ : bd 0 8 y3_) (y4_ : Int32) (by4_ : bd 0 7 y4_) (y5_ : Int32) (by5_ : bd 0 7 y5_) (T_ : Nat) (J_ : Int32 → Prop) (hGcq3_ : cOK f0 q3_) (hGdq3_ : dOK L kd f0 q3_ T_) (hGsq3_ : jS f0 q3_ J_) (hGeq2_ : eOK f0 q2_) (hfx : Fs L kd f0 [(2, 0, a0_, .ref q0_), (2, 1, a0_, .ref q1_), (2, 2, a0_, .ref q2_), (2, 3, a0_, .ref q3_), (2, 4, a0_, .ref q4_), (2, 5, a0_, .ref q5_), (0, 0, q2_, .ref q0_), (0, 1, q2_, .ref q1_), (5, 0, q1_, .ref q3_), (5, 1, q1_, .ref q9_), (8, 8, q0_, .int y0_), (9, 8, q4_, .int y1_), (7, 3, q3_, .int y2_), (6, 12, q5_, .int y3_), (5, 2, q1_, .int y4_), (7, 1, q3_, .int y5_)]) : Met l yX2_readMark (.code yX2_readMark cX2_readMark 3 none :: lw_g) ({ frames := 5, cells := 0, slots := 0, locals := 118 }) (va_Pc [.ref a0_] (P3 (dC, dI) L tys f0 sz)) (va_Qv (fun (f : Nat → va_E) => (cOK f q3_ ∧ dOK L kd f q3_ T_ ∧ jS f q3_ J_ ∧ eOK f q2_ ∧ bd 0 7 y3_ ∧ ∃ z0_ : Int32, bd 1 1201 z0_ ∧ ∃ z2_ : Int32, bd 1 500 z2_ ∧ ∃ z3_ : Int32, bd 1 8 z3_ ∧ Fs L kd f [(8, 6, q0_, .int z0_), (8, 8, q0_, .int y0_), (7, 13, q3_, .int z2_), (6, 12, q5_, .int z3_)]) ∨ (dOK L kd f q3_ T_ ∧ eOK f q2_ ∧ ∃ z0_ : Int32, bd 1201 1201 z0_ ∧ ∃ z1_ : Int32, bd 1 7 z1_ ∧ ∃ z2_ : Int32, bd 1 500 z2_ ∧ ∃ z3_ : Int32, bd 1 9 z3_ ∧ Fs L kd f [(8, 6, q0_, .int z0_), (8, 8, q0_, .int z1_), (7, 13, q3_, .int z2_), (6, 12, q5_, .int z3_)])) (Q3 (dC, dI) L kd tys [(0, 2), (0, 8), (0, 10), (0, 11), (0, 12), (0, 13), (2, 6), (5, 7), (5, 8), (6, 6), (6, 12), (7, 6), (7, 13), (7, 18), (8, 6), (8, 8), (8, 9)] [110, 111, 112, 113, 114, 115, 138, 139, 140, 141, 142, 143, 144, 145] f0 sz) (pA L sz)) 0 0 (pA L sz) := by
  refine Met.ofW (cc := cX2_readMark) (maxL := 3) (ret := none) (by decide) rfl ?_
  intro p e s m args below meth c s₁ B hml hv
  obtain ⟨rfl, hsz, hP, hK, hD0⟩ := hv
  have hx := B.exec
  have hb := B.bytes
  have hr := B.returns
  have hts := atoms_spec (ws := (.code yX2_readMark cX2_readMark 3 none :: lw_g)) B.pre
  have hown : s.vm.findClass RX2 = some m.cls := findClass_of_methodNamed B.named
  have hlocks := B.notSynchronized
  subst hsz
  have g : G3 (dC, dI) L kd tys s f0 [(0, 2), (0, 8), (0, 10), (0, 11), (0, 12), (0, 13), (2, 6), (5, 7), (5, 8), (6, 6), (6, 12), (7, 6), (7, 13), (7, 18), (8, 6), (8, 8), (8, 9)] [110, 111, 112, 113, 114, 115, 138, 139, 140, 141, 142, 143, 144, 145] f0 s.heap [] [(2, 0, a0_, .ref q0_), (2, 1, a0_, .ref q1_), (2, 2, a0_, .ref q2_), (2, 3, a0_, .ref q3_), (2, 4, a0_, .ref q4_), (2, 5, a0_, .ref q5_), (0, 0, q2_, .ref q0_), (0, 1, q2_, .ref q1_), (5, 0, q1_, .ref q3_), (5, 1, q1_, .ref q9_), (8, 8, q0_, .int y0_), (9, 8, q4_, .int y1_), (7, 3, q3_, .int y2_), (6, 12, q5_, .int y3_), (5, 2, q1_, .int y4_), (7, 1, q3_, .int y5_)] := G3.start hP hD0 hWT hfx
  have hl := lv_entry ([.ref a0_]) (n := 3) (Nat.le_of_ble_eq_true rfl)
  rw [lg_entry_eq]
  generalize (lg_sl ([.ref a0_]) ++ List.replicate (3 - (lg_sl ([.ref a0_])).length) Slot.unset).toArray = ls at hl ⊢
  have hl : lv_has ls 3 [(0, .ref a0_)] := hl
  refine W_q (fun Q hQ => ?_)
  refine lv_aload_n hx hb dX2_readMark_0 rfl (lv_at hl 0 rfl) ?_
  refine g_getk (C := RX2) (T := TX2) (N := 16) hx hb hts (mc_ inX2) hown hK g rfl 0 (by decide) rfl (hts _ (List.mem_cons_of_mem _ t_416)) (fun _ h9 => h9) 0 rfl dX2_readMark_1 ?_
  have go_ := g
  refine g_calli (va_runV (As := []) (rest := []) ⟨hx, hb, hml, hown, hts⟩ (r_X8_kind l dC dI L kd tys f0 s.heap.size g.2.2.2.1 q0_ mq0_ kq0_) (cwV 0 hts (gV_ t_1118 t_1119 t_1120 t_184 t_1121) rfl rfl rfl (by decide +kernel) ⟨(Nat.le_of_ble_eq_true rfl), (Nat.le_of_ble_eq_true rfl)⟩) (pre3V g hK mq0_ kq0_ (by decide) (q := (RX8, TX8, 10)) rfl) rfl rfl hl.1 rfl (lv_room (Nat.le_of_ble_eq_true rfl)) dX2_readMark_4 ⟨(Nat.le_of_ble_eq_true rfl), (Nat.le_of_ble_eq_true rfl)⟩) g hK (by decide) (by decide) (fx' := [(2, 0, a0_, .ref q0_), (2, 1, a0_, .ref q1_), (2, 2, a0_, .ref q2_), (2, 3, a0_, .ref q3_), (2, 4, a0_, .ref q4_), (2, 5, a0_, .ref q5_), (0, 0, q2_, .ref q0_), (0, 1, q2_, .ref q1_), (5, 0, q1_, .ref q3_), (5, 1, q1_, .ref q9_), (8, 8, q0_, .int y0_), (9, 8, q4_, .int y1_), (7, 3, q3_, .int y2_), (6, 12, q5_, .int y3_), (5, 2, q1_, .int y4_), (7, 1, q3_, .int y5_)]) rfl (fun r_1 fr_1 H locs hp hMr_1 g => ?_)
  have hG_2 := cOK.frame hMr_1 go_.2.2.2.1 mq3_ kq3_ (by decide) (by decide) hGcq3_
  have hG_3 := dOK.frame hMr_1 go_.2.2.2.1 mq3_ kq3_ (by decide) (by decide) hGdq3_
  have hG_4 := jS.frame hMr_1 go_.2.2.2.1 mq3_ kq3_ (by decide) (by decide) hGsq3_
  have hG_5 := eOK.frame hMr_1 go_.2.2.2.1 mq2_ kq2_ (by decide) (by decide) hGeq2_
  refine lv_istore_n (lv' := [(1, .int r_1), (0, .ref a0_)]) hx hb dX2_readMark_7 rfl hl (by decide) rfl (fun ls hl => ?_)
  refine lv_aload_n hx hb dX2_readMark_8 rfl (lv_at hl 1 rfl) ?_
  refine g_getk (C := RX2) (T := TX2) (N := 16) hx hb hts (mc_ inX2) hown hK g rfl 0 (by decide) rfl (hts _ (List.mem_cons_of_mem _ t_416)) (fun _ h9 => h9) 0 rfl dX2_readMark_9 ?_
  have go_ := g
  refine g_calli (va_runV (As := []) (rest := []) ⟨hx, hb, hml, hown, hts⟩ (r_X8_place l dC dI L kd tys fr_1 H.size g.2.2.2.1 q0_ mq0_ kq0_) (cwV 0 hts (gV_ t_1110 t_1111 t_1112 t_184 t_1113) rfl rfl rfl (by decide +kernel) ⟨(Nat.le_of_ble_eq_true rfl), (Nat.le_of_ble_eq_true rfl)⟩) (pre3V g hK mq0_ kq0_ (by decide) (q := (RX8, TX8, 10)) rfl) rfl rfl hl.1 rfl (lv_room (Nat.le_of_ble_eq_true rfl)) dX2_readMark_12 ⟨(Nat.le_of_ble_eq_true rfl), (Nat.le_of_ble_eq_true rfl)⟩) g hK (by decide) (by decide) (fx' := [(2, 0, a0_, .ref q0_), (2, 1, a0_, .ref q1_), (2, 2, a0_, .ref q2_), (2, 3, a0_, .ref q3_), (2, 4, a0_, .ref q4_), (2, 5, a0_, .ref q5_), (0, 0, q2_, .ref q0_), (0, 1, q2_, .ref q1_), (5, 0, q1_, .ref q3_), (5, 1, q1_, .ref q9_), (8, 8, q0_, .int y0_), (9, 8, q4_, .int y1_), (7, 3, q3_, .int y2_), (6, 12, q5_, .int y3_), (5, 2, q1_, .int y4_), (7, 1, q3_, .int y5_)]) rfl (fun r_6 fr_6 H locs hp hMr_6 g => ?_)
  have hG_7 := cOK.frame hMr_6 go_.2.2.2.1 mq3_ kq3_ (by decide) (by decide) hG_2
  have hG_8 := dOK.frame hMr_6 go_.2.2.2.1 mq3_ kq3_ (by decide) (by decide) hG_3
  have hG_9 := jS.frame hMr_6 go_.2.2.2.1 mq3_ kq3_ (by decide) (by decide) hG_4
  have hG_10 := eOK.frame hMr_6 go_.2.2.2.1 mq2_ kq2_ (by decide) (by decide) hG_5
  refine lv_istore_n (lv' := [(2, .int r_6), (1, .int r_1), (0, .ref a0_)]) hx hb dX2_readMark_15 rfl hl (by decide) rfl (fun ls hl => ?_)
  refine lv_aload_n hx hb dX2_readMark_16 rfl (lv_at hl 2 rfl) ?_
  refine g_getk (C := RX2) (T := TX2) (N := 16) hx hb hts (mc_ inX2) hown hK g rfl 5 (by decide) rfl (hts _ (List.mem_cons_of_mem _ t_421)) (fun _ h9 => h9) 5 rfl dX2_readMark_17 ?_
  refine g_getk (C := RX6) (T := TX6) (N := 13) hx hb hts (mc_ inX6) hown hK g rfl 12 (by decide) rfl (hts _ (List.mem_cons_of_mem _ t_591)) (fun _ h9 => h9) 13 rfl dX2_readMark_20 ?_
  refine lv_bipush (v := 8) hx hb dX2_readMark_23 (by decide) ?_
  have kb_8 : bd 8 8 (8 : Int32) := ⟨by decide, by decide⟩
  refine lv_icmp_lt (tgt := 37) hx hb dX2_readMark_25 (by decide) (fun c_11 => ?_) (fun c_11 => ?_)
  · have fc_11 := lt_f c_11
    have b_12 : bd 0 7 y3_ := ltL fc_11 by3_ kb_8 (by decide)
    refine lv_aload_n hx hb dX2_readMark_37 rfl (lv_at hl 2 rfl) ?_
    refine g_getk (C := RX2) (T := TX2) (N := 16) hx hb hts (mc_ inX2) hown hK g rfl 0 (by decide) rfl (hts _ (List.mem_cons_of_mem _ t_416)) (fun _ h9 => h9) 0 rfl dX2_readMark_38 ?_
    have go_ := g
    refine g_callv (va_runV (As := []) (rest := []) ⟨hx, hb, hml, hown, hts⟩ (r_X8_next l dC dI L kd tys fr_6 H.size g.2.2.2.1 q0_ mq0_ kq0_) (cwV 0 hts (gV_ t_1131 t_1103 t_1104 t_184 t_1105) rfl rfl rfl (by decide +kernel) ⟨(Nat.le_of_ble_eq_true rfl), (Nat.le_of_ble_eq_true rfl)⟩) (pre3V g hK mq0_ kq0_ (by decide) (q := (RX8, TX8, 10)) rfl) rfl rfl hl.1 rfl (lv_room (Nat.le_of_ble_eq_true rfl)) dX2_readMark_41 ⟨(Nat.le_of_ble_eq_true rfl), (Nat.le_of_ble_eq_true rfl)⟩) g hK (by decide) (by decide) (fx' := [(2, 0, a0_, .ref q0_), (2, 1, a0_, .ref q1_), (2, 2, a0_, .ref q2_), (2, 3, a0_, .ref q3_), (2, 4, a0_, .ref q4_), (2, 5, a0_, .ref q5_), (0, 0, q2_, .ref q0_), (0, 1, q2_, .ref q1_), (5, 0, q1_, .ref q3_), (5, 1, q1_, .ref q9_), (8, 8, q0_, .int y0_), (9, 8, q4_, .int y1_), (7, 3, q3_, .int y2_), (6, 12, q5_, .int y3_), (5, 2, q1_, .int y4_), (7, 1, q3_, .int y5_)]) rfl (fun fr_13 H locs hp hMr_13 g => ?_)
    obtain ⟨x_14, h_15, hF_16⟩ := hp
    have hG_17 := cOK.frame hMr_13 go_.2.2.2.1 mq3_ kq3_ (by decide) (by decide) hG_7
    have hG_18 := dOK.frame hMr_13 go_.2.2.2.1 mq3_ kq3_ (by decide) (by decide) hG_8
    have hG_19 := jS.frame hMr_13 go_.2.2.2.1 mq3_ kq3_ (by decide) (by decide) hG_9
    have hG_20 := eOK.frame hMr_13 go_.2.2.2.1 mq2_ kq2_ (by decide) (by decide) hG_10
    have g := g.more hF_16
    refine lv_iload_n hx hb dX2_readMark_44 rfl (lv_at hl 1 rfl) ?_
    refine lv_bipush (v := 20) hx hb dX2_readMark_45 (by decide) ?_
    have kb_20 : bd 20 20 (20 : Int32) := ⟨by decide, by decide⟩
    refine lv_icmp_eq (tgt := 56) hx hb dX2_readMark_47 (by decide) (fun c_21 => ?_) (fun c_21 => ?_)
    · have fc_21 := eq_f c_21
      have b_22 : bd 20 20 r_1 := eqX fc_21 (bdT r_1) kb_20 (by decide)
      refine lv_aload_n hx hb dX2_readMark_56 rfl (lv_at hl 2 rfl) ?_
      refine g_geti (C := RX2) (T := TX2) (N := 16) hx hb hts (mc_ inX2) hown hK g ma0_ ka0_ (by decide) rfl 6 (by decide) rfl (hts _ (List.mem_cons_of_mem _ t_422)) (fun _ h9 => h9) rfl dX2_readMark_57 (fun x_23 bx_23 g => ?_)
      have kb_0 : bd 0 0 (0 : Int32) := ⟨by decide, by decide⟩
      refine lv_if_eq (tgt := 72) hx hb dX2_readMark_60 (by decide) (fun c_24 => ?_) (fun c_24 => ?_)
      · have fc_24 := eq_f c_24
        have b_25 : bd 0 0 x_23 := eqX fc_24 bx_23 kb_0 (by decide)
        refine lv_aload_n hx hb dX2_readMark_72 rfl (lv_at hl 2 rfl) ?_
        refine lv_iconst (v := 1) hx hb dX2_readMark_73 (by decide) ?_
        have kb_1 : bd 1 1 (1 : Int32) := ⟨by decide, by decide⟩
        have go_ := g
        refine g_put (C := RX2) (T := TX2) (N := 16) hx hb hts (mc_ inX2) tyX2 tyX2_ok nmX2 hown hK g ma0_ ka0_ (by decide) rfl 6 (by decide) (hts _ (List.mem_cons_of_mem _ t_422)) (fun _ h9 => h9) rfl rfl (okV_i (bd_sub kb_1 (by decide))) rfl rfl (by decide) (Or.inr (Or.inl (by decide))) (fx' := [(8, 6, q0_, .int x_14), (2, 0, a0_, .ref q0_), (2, 1, a0_, .ref q1_), (2, 2, a0_, .ref q2_), (2, 3, a0_, .ref q3_), (2, 4, a0_, .ref q4_), (2, 5, a0_, .ref q5_), (0, 0, q2_, .ref q0_), (0, 1, q2_, .ref q1_), (5, 0, q1_, .ref q3_), (5, 1, q1_, .ref q9_), (8, 8, q0_, .int y0_), (9, 8, q4_, .int y1_), (7, 3, q3_, .int y2_), (6, 12, q5_, .int y3_), (5, 2, q1_, .int y4_), (7, 1, q3_, .int y5_)]) rfl dX2_readMark_74 (fun f H locs hM_26 g => ?_)
        have hG_27 := cOK.frame hM_26 go_.2.2.2.1 mq3_ kq3_ (by decide) (by decide) hG_17
        have hG_28 := dOK.frame hM_26 go_.2.2.2.1 mq3_ kq3_ (by decide) (by decide) hG_18
        have hG_29 := jS.frame hM_26 go_.2.2.2.1 mq3_ kq3_ (by decide) (by decide) hG_19
        have hG_30 := eOK.frame hM_26 go_.2.2.2.1 mq2_ kq2_ (by decide) (by decide) hG_20
        refine lv_aload_n hx hb dX2_readMark_77 rfl (lv_at hl 2 rfl) ?_
        refine g_getk (C := RX2) (T := TX2) (N := 16) hx hb hts (mc_ inX2) hown hK g rfl 5 (by decide) rfl (hts _ (List.mem_cons_of_mem _ t_421)) (fun _ h9 => h9) 7 rfl dX2_readMark_78 ?_
        refine lv_dup hx hb dX2_readMark_81 rfl ?_
        refine g_getk (C := RX6) (T := TX6) (N := 13) hx hb hts (mc_ inX6) hown hK g rfl 12 (by decide) rfl (hts _ (List.mem_cons_of_mem _ t_591)) (fun _ h9 => h9) 15 rfl dX2_readMark_82 ?_
        refine lv_iconst (v := 1) hx hb dX2_readMark_85 (by decide) ?_
        refine lv_iadd hx hb dX2_readMark_86 ?_
        refine lv_topi (fun y_31 ey_31 => ?_)
        have ty_31 := add_bd ey_31 b_12 kb_1 (by decide)
        have b_32 : bd 1 8 y_31 := add_rg ty_31 b_12 kb_1 (by decide)
        have go_ := g
        refine g_put (C := RX6) (T := TX6) (N := 13) hx hb hts (mc_ inX6) tyX6 tyX6_ok nmX6 hown hK g mq5_ kq5_ (by decide) rfl 12 (by decide) (hts _ (List.mem_cons_of_mem _ t_591)) (fun _ h9 => h9) rfl rfl (okV_i (bd_sub b_32 (by decide))) rfl rfl (by decide) (Or.inr (Or.inl (by decide))) (fx' := [(2, 6, a0_, .int 1), (8, 6, q0_, .int x_14), (2, 0, a0_, .ref q0_), (2, 1, a0_, .ref q1_), (2, 2, a0_, .ref q2_), (2, 3, a0_, .ref q3_), (2, 4, a0_, .ref q4_), (2, 5, a0_, .ref q5_), (0, 0, q2_, .ref q0_), (0, 1, q2_, .ref q1_), (5, 0, q1_, .ref q3_), (5, 1, q1_, .ref q9_), (8, 8, q0_, .int y0_), (9, 8, q4_, .int y1_), (7, 3, q3_, .int y2_), (5, 2, q1_, .int y4_), (7, 1, q3_, .int y5_)]) rfl dX2_readMark_87 (fun f H locs hM_33 g => ?_)
        have hG_34 := cOK.frame hM_33 go_.2.2.2.1 mq3_ kq3_ (by decide) (by decide) hG_27
        have hG_35 := dOK.frame hM_33 go_.2.2.2.1 mq3_ kq3_ (by decide) (by decide) hG_28
        have hG_36 := jS.frame hM_33 go_.2.2.2.1 mq3_ kq3_ (by decide) (by decide) hG_29
        have hG_37 := eOK.frame hM_33 go_.2.2.2.1 mq2_ kq2_ (by decide) (by decide) hG_30
        refine lv_iload_n hx hb dX2_readMark_90 rfl (lv_at hl 1 rfl) ?_
        by_cases e_38 : r_1 = 16
        · refine lv_topi (fun z_39 ez_39 => ?_)
          obtain rfl : z_39 = 16 := ez_39.trans e_38
          have kb_16 : bd 16 16 (16 : Int32) := ⟨by decide, by decide⟩
          exact bd_no (eqX (eq_f e_38) b_22 kb_16 (lo := 20) (hi := 16) (by decide)) (by decide)
        by_cases e_40 : r_1 = 17
        · refine lv_topi (fun z_41 ez_41 => ?_)
          obtain rfl : z_41 = 17 := ez_41.trans e_40
          have kb_17 : bd 17 17 (17 : Int32) := ⟨by decide, by decide⟩
          exact bd_no (eqX (eq_f e_40) b_22 kb_17 (lo := 20) (hi := 17) (by decide)) (by decide)
        by_cases e_42 : r_1 = 18
        · refine lv_topi (fun z_43 ez_43 => ?_)
          obtain rfl : z_43 = 18 := ez_43.trans e_42
          have kb_18 : bd 18 18 (18 : Int32) := ⟨by decide, by decide⟩
          exact bd_no (eqX (eq_f e_42) b_22 kb_18 (lo := 20) (hi := 18) (by decide)) (by decide)
        by_cases e_44 : r_1 = 19
        · refine lv_topi (fun z_45 ez_45 => ?_)
          obtain rfl : z_45 = 19 := ez_45.trans e_44
          have kb_19 : bd 19 19 (19 : Int32) := ⟨by decide, by decide⟩
          exact bd_no (eqX (eq_f e_44) b_22 kb_19 (lo := 20) (hi := 19) (by decide)) (by decide)
        by_cases e_46 : r_1 = 20
        · refine lv_topi (fun z_47 ez_47 => ?_)
          obtain rfl : z_47 = 20 := ez_47.trans e_46
          have b_48 : bd 20 20 r_1 := eqX (eq_f e_46) b_22 kb_20 (by decide)
          refine lv_tableIn (off := 110) (tgt := 201) hx hb dX2_readMark_91 (by decide) (by decide) rfl (by decide) ?_
          refine lv_aload_n hx hb dX2_readMark_201 rfl (lv_at hl 2 rfl) ?_
          have go_ := g
          refine g_callv (va_runV (As := []) (rest := []) ⟨hx, hb, hml, hown, hts⟩ (r_X2_readOnly l dC dI L kd tys f H.size g.2.2.2.1 a0_ ma0_ ka0_ q0_ mq0_ kq0_ q3_ mq3_ kq3_ q4_ mq4_ kq4_ y0_ by0_ (g.fcts [3, 6, 7, 13] rfl)) (cwV 0 hts (gV_ t_1330 t_1332 t_38 t_183 t_1333) rfl rfl rfl (by decide +kernel) ⟨(Nat.le_of_ble_eq_true rfl), (Nat.le_of_ble_eq_true rfl)⟩) (pre3V g hK ma0_ ka0_ (by decide) (q := (RX2, TX2, 16)) rfl) rfl rfl hl.1 rfl (lv_room (Nat.le_of_ble_eq_true rfl)) dX2_readMark_202 ⟨(Nat.le_of_ble_eq_true rfl), (Nat.le_of_ble_eq_true rfl)⟩) g hK (by decide) (by decide) (fx' := [(6, 12, q5_, .int y_31), (2, 6, a0_, .int 1), (2, 0, a0_, .ref q0_), (2, 1, a0_, .ref q1_), (2, 2, a0_, .ref q2_), (2, 3, a0_, .ref q3_), (2, 4, a0_, .ref q4_), (2, 5, a0_, .ref q5_), (0, 0, q2_, .ref q0_), (0, 1, q2_, .ref q1_), (5, 0, q1_, .ref q3_), (5, 1, q1_, .ref q9_), (9, 8, q4_, .int y1_), (7, 3, q3_, .int y2_), (5, 2, q1_, .int y4_), (7, 1, q3_, .int y5_)]) rfl (fun fr_49 H locs hp hMr_49 g => ?_)
          rcases hp with ⟨x_50, h_51, hF_52⟩ | ⟨x_53, h_54, x_55, h_56, hF_57⟩
          · have hG_58 := cOK.frame hMr_49 go_.2.2.2.1 mq3_ kq3_ (by decide) (by decide) hG_34
            have hG_59 := dOK.frame hMr_49 go_.2.2.2.1 mq3_ kq3_ (by decide) (by decide) hG_35
            have hG_60 := jS.frame hMr_49 go_.2.2.2.1 mq3_ kq3_ (by decide) (by decide) hG_36
            have hG_61 := eOK.frame hMr_49 go_.2.2.2.1 mq2_ kq2_ (by decide) (by decide) hG_37
            have g := g.more hF_52
            refine lv_goto (tgt := 234) hx hb dX2_readMark_205 (by decide) ?_
            refine lv_aload_n hx hb dX2_readMark_234 rfl (lv_at hl 2 rfl) ?_
            refine g_getk (C := RX2) (T := TX2) (N := 16) hx hb hts (mc_ inX2) hown hK g rfl 0 (by decide) rfl (hts _ (List.mem_cons_of_mem _ t_416)) (fun _ h9 => h9) 4 rfl dX2_readMark_235 ?_
            refine lv_bipush (v := 59) hx hb dX2_readMark_238 (by decide) ?_
            have go_ := g
            refine g_callv (va_runV (As := [.int 59]) (rest := []) ⟨hx, hb, hml, hown, hts⟩ (r_X8_take l dC dI L kd tys fr_49 H.size g.2.2.2.1 q0_ mq0_ kq0_ 59 y0_ by0_ (g.fcts [1] rfl)) (cwV 1 hts (gV_ t_1098 t_1099 t_1100 t_184 t_1101) rfl rfl rfl (by decide +kernel) ⟨(Nat.le_of_ble_eq_true rfl), (Nat.le_of_ble_eq_true rfl)⟩) (pre3V g hK mq0_ kq0_ (by decide) (q := (RX8, TX8, 10)) rfl) rfl rfl hl.1 rfl (lv_room (Nat.le_of_ble_eq_true rfl)) dX2_readMark_240 ⟨(Nat.le_of_ble_eq_true rfl), (Nat.le_of_ble_eq_true rfl)⟩) g hK (by decide) (by decide) (fx' := [(7, 13, q3_, .int x_50), (6, 12, q5_, .int y_31), (2, 6, a0_, .int 1), (2, 0, a0_, .ref q0_), (2, 1, a0_, .ref q1_), (2, 2, a0_, .ref q2_), (2, 3, a0_, .ref q3_), (2, 4, a0_, .ref q4_), (2, 5, a0_, .ref q5_), (0, 0, q2_, .ref q0_), (0, 1, q2_, .ref q1_), (5, 0, q1_, .ref q3_), (5, 1, q1_, .ref q9_), (9, 8, q4_, .int y1_), (7, 3, q3_, .int y2_), (5, 2, q1_, .int y4_), (7, 1, q3_, .int y5_)]) rfl (fun fr_62 H locs hp hMr_62 g => ?_)
            rcases hp with ⟨x_63, h_64, hF_65⟩ | ⟨x_66, h_67, hF_68⟩
            · have hG_69 := cOK.frame hMr_62 go_.2.2.2.1 mq3_ kq3_ (by decide) (by decide) hG_58
              have hG_70 := dOK.frame hMr_62 go_.2.2.2.1 mq3_ kq3_ (by decide) (by decide) hG_59
              have hG_71 := jS.frame hMr_62 go_.2.2.2.1 mq3_ kq3_ (by decide) (by decide) hG_60
              have hG_72 := eOK.frame hMr_62 go_.2.2.2.1 mq2_ kq2_ (by decide) (by decide) hG_61
              have g := g.more hF_65
              subst hQ
              exact W.vret hx hb hr (fun t ht hW => ⟨⟨_, rfl, Or.inl ⟨hG_69, hG_70, hG_71, hG_72, b_12, x_63, h_64, x_50, h_51, y_31, b_32, (g.fcts [0, 1, 2, 3] rfl)⟩, q3_of g hK ht hW⟩, g.2.2.1.F ht⟩) g.2.2.1.2.2 dX2_readMark_243
            · have hG_73 := cOK.frame hMr_62 go_.2.2.2.1 mq3_ kq3_ (by decide) (by decide) hG_58
              have hG_74 := dOK.frame hMr_62 go_.2.2.2.1 mq3_ kq3_ (by decide) (by decide) hG_59
              have hG_75 := jS.frame hMr_62 go_.2.2.2.1 mq3_ kq3_ (by decide) (by decide) hG_60
              have hG_76 := eOK.frame hMr_62 go_.2.2.2.1 mq2_ kq2_ (by decide) (by decide) hG_61
              have g := g.more hF_68
              have kb_1201 : bd 1201 1201 (1201 : Int32) := ⟨by decide, by decide⟩
              subst hQ
              exact W.vret hx hb hr (fun t ht hW => ⟨⟨_, rfl, Or.inr (⟨hG_74, hG_76, 1201, kb_1201, x_66, h_67, x_50, h_51, y_31, (bd_sub b_32 (by decide)), (g.fcts [0, 1, 2, 3] rfl)⟩), q3_of g hK ht hW⟩, g.2.2.1.F ht⟩) g.2.2.1.2.2 dX2_readMark_243
          · have hG_77 := cOK.frame hMr_49 go_.2.2.2.1 mq3_ kq3_ (by decide) (by decide) hG_34
            have hG_78 := dOK.frame hMr_49 go_.2.2.2.1 mq3_ kq3_ (by decide) (by decide) hG_35
            have hG_79 := jS.frame hMr_49 go_.2.2.2.1 mq3_ kq3_ (by decide) (by decide) hG_36
            have hG_80 := eOK.frame hMr_49 go_.2.2.2.1 mq2_ kq2_ (by decide) (by decide) hG_37
            have g := g.more hF_57
            refine lv_goto (tgt := 234) hx hb dX2_readMark_205 (by decide) ?_
            refine lv_aload_n hx hb dX2_readMark_234 rfl (lv_at hl 2 rfl) ?_
            refine g_getk (C := RX2) (T := TX2) (N := 16) hx hb hts (mc_ inX2) hown hK g rfl 0 (by decide) rfl (hts _ (List.mem_cons_of_mem _ t_416)) (fun _ h9 => h9) 5 rfl dX2_readMark_235 ?_
            refine lv_bipush (v := 59) hx hb dX2_readMark_238 (by decide) ?_
            have kb_1201 : bd 1201 1201 (1201 : Int32) := ⟨by decide, by decide⟩
            have go_ := g
            refine g_callv (va_runV (As := [.int 59]) (rest := []) ⟨hx, hb, hml, hown, hts⟩ (r_X8_take_2 l dC dI L kd tys fr_49 H.size g.2.2.2.1 q0_ mq0_ kq0_ 59 1201 kb_1201 x_53 h_54 (g.fcts [0, 1] rfl)) (cwV 1 hts (gV_ t_1098 t_1099 t_1100 t_184 t_1101) rfl rfl rfl (by decide +kernel) ⟨(Nat.le_of_ble_eq_true rfl), (Nat.le_of_ble_eq_true rfl)⟩) (pre3V g hK mq0_ kq0_ (by decide) (q := (RX8, TX8, 10)) rfl) rfl rfl hl.1 rfl (lv_room (Nat.le_of_ble_eq_true rfl)) dX2_readMark_240 ⟨(Nat.le_of_ble_eq_true rfl), (Nat.le_of_ble_eq_true rfl)⟩) g hK (by decide) (by decide) (fx' := [(8, 8, q0_, .int x_53), (7, 13, q3_, .int x_55), (6, 12, q5_, .int y_31), (2, 6, a0_, .int 1), (2, 0, a0_, .ref q0_), (2, 1, a0_, .ref q1_), (2, 2, a0_, .ref q2_), (2, 3, a0_, .ref q3_), (2, 4, a0_, .ref q4_), (2, 5, a0_, .ref q5_), (0, 0, q2_, .ref q0_), (0, 1, q2_, .ref q1_), (5, 0, q1_, .ref q3_), (5, 1, q1_, .ref q9_), (9, 8, q4_, .int y1_), (7, 3, q3_, .int y2_), (5, 2, q1_, .int y4_), (7, 1, q3_, .int y5_)]) rfl (fun fr_81 H locs hp hMr_81 g => ?_)
            obtain ⟨x_82, h_83, hF_84⟩ := hp
            have hG_85 := cOK.frame hMr_81 go_.2.2.2.1 mq3_ kq3_ (by decide) (by decide) hG_77
            have hG_86 := dOK.frame hMr_81 go_.2.2.2.1 mq3_ kq3_ (by decide) (by decide) hG_78
            have hG_87 := jS.frame hMr_81 go_.2.2.2.1 mq3_ kq3_ (by decide) (by decide) hG_79
            have hG_88 := eOK.frame hMr_81 go_.2.2.2.1 mq2_ kq2_ (by decide) (by decide) hG_80
            have g := g.more hF_84
            subst hQ
            exact W.vret hx hb hr (fun t ht hW => ⟨⟨_, rfl, Or.inr (⟨hG_86, hG_88, x_82, h_83, x_53, h_54, x_55, h_56, y_31, (bd_sub b_32 (by decide)), (g.fcts [0, 1, 2, 3] rfl)⟩), q3_of g hK ht hW⟩, g.2.2.1.F ht⟩) g.2.2.1.2.2 dX2_readMark_243
        refine lv_tableOut (tgt := 208) hx hb dX2_readMark_91 (by have a0 : r_1.toInt ≠ 16 := fun h => e_38 (Int32.toInt_inj.mp (h.trans (by decide))); have a1 : r_1.toInt ≠ 17 := fun h => e_40 (Int32.toInt_inj.mp (h.trans (by decide))); have a2 : r_1.toInt ≠ 18 := fun h => e_42 (Int32.toInt_inj.mp (h.trans (by decide))); have a3 : r_1.toInt ≠ 19 := fun h => e_44 (Int32.toInt_inj.mp (h.trans (by decide))); have a4 : r_1.toInt ≠ 20 := fun h => e_46 (Int32.toInt_inj.mp (h.trans (by decide))); omega) (by decide) ?_
        refine lv_aload_n hx hb dX2_readMark_208 rfl (lv_at hl 2 rfl) ?_
        refine g_getk (C := RX2) (T := TX2) (N := 16) hx hb hts (mc_ inX2) hown hK g rfl 3 (by decide) rfl (hts _ (List.mem_cons_of_mem _ t_419)) (fun _ h9 => h9) 6 rfl dX2_readMark_209 ?_
        refine lv_bipush (v := 6) hx hb dX2_readMark_212 (by decide) ?_
        refine lv_aload_n hx hb dX2_readMark_214 rfl (lv_at hl 2 rfl) ?_
        refine g_getk (C := RX2) (T := TX2) (N := 16) hx hb hts (mc_ inX2) hown hK g rfl 1 (by decide) rfl (hts _ (List.mem_cons_of_mem _ t_417)) (fun _ h9 => h9) 4 rfl dX2_readMark_215 ?_
        refine g_getk (C := RX5) (T := TX5) (N := 9) hx hb hts (mc_ inX5) hown hK g rfl 2 (by decide) rfl (hts _ (List.mem_cons_of_mem _ t_333)) (fun _ h9 => h9) 16 rfl dX2_readMark_218 ?_
        refine lv_iload_n hx hb dX2_readMark_221 rfl (lv_at hl 0 rfl) ?_
        have go_ := g
        refine g_calli (va_runV (As := [.int 6, .int y4_, .int r_6]) (rest := []) ⟨hx, hb, hml, hown, hts⟩ (r_X7_addMark l dC dI L kd tys f H.size g.2.2.2.1 q3_ mq3_ kq3_ 6 y4_ r_6) (cwV 3 hts (gV_ t_1173 t_1174 t_1175 t_191 t_1176) rfl rfl rfl (by decide +kernel) ⟨(Nat.le_of_ble_eq_true rfl), (Nat.le_of_ble_eq_true rfl)⟩) (pre3V g hK mq3_ kq3_ (by decide) (q := (RX7, TX7, 19)) rfl) rfl rfl hl.1 rfl (lv_room (Nat.le_of_ble_eq_true rfl)) dX2_readMark_222 ⟨(Nat.le_of_ble_eq_true rfl), (Nat.le_of_ble_eq_true rfl)⟩) g hK (by decide) (by decide) (fx' := [(6, 12, q5_, .int y_31), (2, 6, a0_, .int 1), (8, 6, q0_, .int x_14), (2, 0, a0_, .ref q0_), (2, 1, a0_, .ref q1_), (2, 2, a0_, .ref q2_), (2, 3, a0_, .ref q3_), (2, 4, a0_, .ref q4_), (2, 5, a0_, .ref q5_), (0, 0, q2_, .ref q0_), (0, 1, q2_, .ref q1_), (5, 0, q1_, .ref q3_), (5, 1, q1_, .ref q9_), (8, 8, q0_, .int y0_), (9, 8, q4_, .int y1_), (7, 3, q3_, .int y2_), (5, 2, q1_, .int y4_), (7, 1, q3_, .int y5_)]) rfl (fun r_89 fr_89 H locs hp hMr_89 g => ?_)
        obtain ⟨h_90, x_91, h_92, hF_93⟩ := hp
        have hG_94 := cOK.frame hMr_89 go_.2.2.2.1 mq3_ kq3_ (by decide) (by decide) hG_34
        have hG_95 := dOK.frame hMr_89 go_.2.2.2.1 mq3_ kq3_ (by decide) (by decide) hG_35
        have hG_96 := jS.frame hMr_89 go_.2.2.2.1 mq3_ kq3_ (by decide) (by decide) hG_36
        have hG_97 := eOK.frame hMr_89 go_.2.2.2.1 mq2_ kq2_ (by decide) (by decide) hG_37
        have g := g.more hF_93
        refine lv_pop hx hb dX2_readMark_225 rfl ?_
        refine lv_aload_n hx hb dX2_readMark_226 rfl (lv_at hl 2 rfl) ?_
        refine g_getk (C := RX2) (T := TX2) (N := 16) hx hb hts (mc_ inX2) hown hK g rfl 5 (by decide) rfl (hts _ (List.mem_cons_of_mem _ t_421)) (fun _ h9 => h9) 9 rfl dX2_readMark_227 ?_
        refine lv_iconst (v := 1) hx hb dX2_readMark_230 (by decide) ?_
        have go_ := g
        refine g_put (C := RX6) (T := TX6) (N := 13) hx hb hts (mc_ inX6) tyX6 tyX6_ok nmX6 hown hK g mq5_ kq5_ (by decide) rfl 6 (by decide) (hts _ (List.mem_cons_of_mem _ t_578)) (fun _ h9 => h9) rfl rfl (okV_i (bd_sub kb_1 (by decide))) rfl rfl (by decide) (Or.inr (Or.inl (by decide))) (fx' := [(7, 13, q3_, .int x_91), (6, 12, q5_, .int y_31), (2, 6, a0_, .int 1), (8, 6, q0_, .int x_14), (2, 0, a0_, .ref q0_), (2, 1, a0_, .ref q1_), (2, 2, a0_, .ref q2_), (2, 3, a0_, .ref q3_), (2, 4, a0_, .ref q4_), (2, 5, a0_, .ref q5_), (0, 0, q2_, .ref q0_), (0, 1, q2_, .ref q1_), (5, 0, q1_, .ref q3_), (5, 1, q1_, .ref q9_), (8, 8, q0_, .int y0_), (9, 8, q4_, .int y1_), (7, 3, q3_, .int y2_), (5, 2, q1_, .int y4_), (7, 1, q3_, .int y5_)]) rfl dX2_readMark_231 (fun f H locs hM_98 g => ?_)
        have hG_99 := cOK.frame hM_98 go_.2.2.2.1 mq3_ kq3_ (by decide) (by decide) hG_94
        have hG_100 := dOK.frame hM_98 go_.2.2.2.1 mq3_ kq3_ (by decide) (by decide) hG_95
        have hG_101 := jS.frame hM_98 go_.2.2.2.1 mq3_ kq3_ (by decide) (by decide) hG_96
        have hG_102 := eOK.frame hM_98 go_.2.2.2.1 mq2_ kq2_ (by decide) (by decide) hG_97
        refine lv_aload_n hx hb dX2_readMark_234 rfl (lv_at hl 2 rfl) ?_
        refine g_getk (C := RX2) (T := TX2) (N := 16) hx hb hts (mc_ inX2) hown hK g rfl 0 (by decide) rfl (hts _ (List.mem_cons_of_mem _ t_416)) (fun _ h9 => h9) 5 rfl dX2_readMark_235 ?_
        refine lv_bipush (v := 59) hx hb dX2_readMark_238 (by decide) ?_
        have go_ := g
        refine g_callv (va_runV (As := [.int 59]) (rest := []) ⟨hx, hb, hml, hown, hts⟩ (r_X8_take l dC dI L kd tys f H.size g.2.2.2.1 q0_ mq0_ kq0_ 59 y0_ by0_ (g.fcts [15] rfl)) (cwV 1 hts (gV_ t_1098 t_1099 t_1100 t_184 t_1101) rfl rfl rfl (by decide +kernel) ⟨(Nat.le_of_ble_eq_true rfl), (Nat.le_of_ble_eq_true rfl)⟩) (pre3V g hK mq0_ kq0_ (by decide) (q := (RX8, TX8, 10)) rfl) rfl rfl hl.1 rfl (lv_room (Nat.le_of_ble_eq_true rfl)) dX2_readMark_240 ⟨(Nat.le_of_ble_eq_true rfl), (Nat.le_of_ble_eq_true rfl)⟩) g hK (by decide) (by decide) (fx' := [(6, 6, q5_, .int 1), (7, 13, q3_, .int x_91), (6, 12, q5_, .int y_31), (2, 6, a0_, .int 1), (2, 0, a0_, .ref q0_), (2, 1, a0_, .ref q1_), (2, 2, a0_, .ref q2_), (2, 3, a0_, .ref q3_), (2, 4, a0_, .ref q4_), (2, 5, a0_, .ref q5_), (0, 0, q2_, .ref q0_), (0, 1, q2_, .ref q1_), (5, 0, q1_, .ref q3_), (5, 1, q1_, .ref q9_), (9, 8, q4_, .int y1_), (7, 3, q3_, .int y2_), (5, 2, q1_, .int y4_), (7, 1, q3_, .int y5_)]) rfl (fun fr_103 H locs hp hMr_103 g => ?_)
        rcases hp with ⟨x_104, h_105, hF_106⟩ | ⟨x_107, h_108, hF_109⟩
        · have hG_110 := cOK.frame hMr_103 go_.2.2.2.1 mq3_ kq3_ (by decide) (by decide) hG_99
          have hG_111 := dOK.frame hMr_103 go_.2.2.2.1 mq3_ kq3_ (by decide) (by decide) hG_100
          have hG_112 := jS.frame hMr_103 go_.2.2.2.1 mq3_ kq3_ (by decide) (by decide) hG_101
          have hG_113 := eOK.frame hMr_103 go_.2.2.2.1 mq2_ kq2_ (by decide) (by decide) hG_102
          have g := g.more hF_106
          subst hQ
          exact W.vret hx hb hr (fun t ht hW => ⟨⟨_, rfl, Or.inl ⟨hG_110, hG_111, hG_112, hG_113, b_12, x_104, h_105, x_91, h_92, y_31, b_32, (g.fcts [0, 1, 3, 4] rfl)⟩, q3_of g hK ht hW⟩, g.2.2.1.F ht⟩) g.2.2.1.2.2 dX2_readMark_243
        · have hG_114 := cOK.frame hMr_103 go_.2.2.2.1 mq3_ kq3_ (by decide) (by decide) hG_99
          have hG_115 := dOK.frame hMr_103 go_.2.2.2.1 mq3_ kq3_ (by decide) (by decide) hG_100
          have hG_116 := jS.frame hMr_103 go_.2.2.2.1 mq3_ kq3_ (by decide) (by decide) hG_101
          have hG_117 := eOK.frame hMr_103 go_.2.2.2.1 mq2_ kq2_ (by decide) (by decide) hG_102
          have g := g.more hF_109
          have kb_1201 : bd 1201 1201 (1201 : Int32) := ⟨by decide, by decide⟩
          subst hQ
          exact W.vret hx hb hr (fun t ht hW => ⟨⟨_, rfl, Or.inr (⟨hG_115, hG_117, 1201, kb_1201, x_107, h_108, x_91, h_92, y_31, (bd_sub b_32 (by decide)), (g.fcts [0, 1, 3, 4] rfl)⟩), q3_of g hK ht hW⟩, g.2.2.1.F ht⟩) g.2.2.1.2.2 dX2_readMark_243
      · have fc_24 := neq_f c_24
        have b_118 : bd 1 1 x_23 := neX fc_24 bx_23 kb_0 (by decide)
        refine lv_aload_n hx hb dX2_readMark_63 rfl (lv_at hl 2 rfl) ?_
        refine g_getk (C := RX2) (T := TX2) (N := 16) hx hb hts (mc_ inX2) hown hK g rfl 0 (by decide) rfl (hts _ (List.mem_cons_of_mem _ t_416)) (fun _ h9 => h9) 2 rfl dX2_readMark_64 ?_
        refine lv_iconst (v := 5) hx hb dX2_readMark_67 (by decide) ?_
        refine lv_iload_n hx hb dX2_readMark_68 rfl (lv_at hl 0 rfl) ?_
        have kb_5 : bd 5 5 (5 : Int32) := ⟨by decide, by decide⟩
        have go_ := g
        refine g_callv (va_runV (As := [.int 5, .int r_6]) (rest := []) ⟨hx, hb, hml, hown, hts⟩ (r_X8_fail l dC dI L kd tys fr_13 H.size g.2.2.2.1 q0_ mq0_ kq0_ 5 (bd_sub kb_5 (by decide)) r_6 y0_ by0_ (g.fcts [12] rfl)) (cwV 2 hts (gV_ t_1122 t_1107 t_1108 t_184 t_1109) rfl rfl rfl (by decide +kernel) ⟨(Nat.le_of_ble_eq_true rfl), (Nat.le_of_ble_eq_true rfl)⟩) (pre3V g hK mq0_ kq0_ (by decide) (q := (RX8, TX8, 10)) rfl) rfl rfl hl.1 rfl (lv_room (Nat.le_of_ble_eq_true rfl)) dX2_readMark_69 ⟨(Nat.le_of_ble_eq_true rfl), (Nat.le_of_ble_eq_true rfl)⟩) g hK (by decide) (by decide) (fx' := [(2, 6, a0_, .int x_23), (2, 0, a0_, .ref q0_), (2, 1, a0_, .ref q1_), (2, 2, a0_, .ref q2_), (2, 3, a0_, .ref q3_), (2, 4, a0_, .ref q4_), (2, 5, a0_, .ref q5_), (0, 0, q2_, .ref q0_), (0, 1, q2_, .ref q1_), (5, 0, q1_, .ref q3_), (5, 1, q1_, .ref q9_), (9, 8, q4_, .int y1_), (7, 3, q3_, .int y2_), (6, 12, q5_, .int y3_), (5, 2, q1_, .int y4_), (7, 1, q3_, .int y5_)]) rfl (fun fr_119 H locs hp hMr_119 g => ?_)
        obtain ⟨x_120, h_121, hF_122⟩ := hp
        have hG_123 := cOK.frame hMr_119 go_.2.2.2.1 mq3_ kq3_ (by decide) (by decide) hG_17
        have hG_124 := dOK.frame hMr_119 go_.2.2.2.1 mq3_ kq3_ (by decide) (by decide) hG_18
        have hG_125 := jS.frame hMr_119 go_.2.2.2.1 mq3_ kq3_ (by decide) (by decide) hG_19
        have hG_126 := eOK.frame hMr_119 go_.2.2.2.1 mq2_ kq2_ (by decide) (by decide) hG_20
        have g := g.more hF_122
        refine lv_aload_n hx hb dX2_readMark_72 rfl (lv_at hl 2 rfl) ?_
        refine lv_iconst (v := 1) hx hb dX2_readMark_73 (by decide) ?_
        have kb_1 : bd 1 1 (1 : Int32) := ⟨by decide, by decide⟩
        have go_ := g
        refine g_put (C := RX2) (T := TX2) (N := 16) hx hb hts (mc_ inX2) tyX2 tyX2_ok nmX2 hown hK g ma0_ ka0_ (by decide) rfl 6 (by decide) (hts _ (List.mem_cons_of_mem _ t_422)) (fun _ h9 => h9) rfl rfl (okV_i (bd_sub kb_1 (by decide))) rfl rfl (by decide) (Or.inr (Or.inl (by decide))) (fx' := [(8, 6, q0_, .int 1201), (8, 8, q0_, .int x_120), (2, 0, a0_, .ref q0_), (2, 1, a0_, .ref q1_), (2, 2, a0_, .ref q2_), (2, 3, a0_, .ref q3_), (2, 4, a0_, .ref q4_), (2, 5, a0_, .ref q5_), (0, 0, q2_, .ref q0_), (0, 1, q2_, .ref q1_), (5, 0, q1_, .ref q3_), (5, 1, q1_, .ref q9_), (9, 8, q4_, .int y1_), (7, 3, q3_, .int y2_), (6, 12, q5_, .int y3_), (5, 2, q1_, .int y4_), (7, 1, q3_, .int y5_)]) rfl dX2_readMark_74 (fun f H locs hM_127 g => ?_)
        have hG_128 := cOK.frame hM_127 go_.2.2.2.1 mq3_ kq3_ (by decide) (by decide) hG_123
        have hG_129 := dOK.frame hM_127 go_.2.2.2.1 mq3_ kq3_ (by decide) (by decide) hG_124
        have hG_130 := jS.frame hM_127 go_.2.2.2.1 mq3_ kq3_ (by decide) (by decide) hG_125
        have hG_131 := eOK.frame hM_127 go_.2.2.2.1 mq2_ kq2_ (by decide) (by decide) hG_126
        refine lv_aload_n hx hb dX2_readMark_77 rfl (lv_at hl 2 rfl) ?_
        refine g_getk (C := RX2) (T := TX2) (N := 16) hx hb hts (mc_ inX2) hown hK g rfl 5 (by decide) rfl (hts _ (List.mem_cons_of_mem _ t_421)) (fun _ h9 => h9) 8 rfl dX2_readMark_78 ?_
        refine lv_dup hx hb dX2_readMark_81 rfl ?_
        refine g_getk (C := RX6) (T := TX6) (N := 13) hx hb hts (mc_ inX6) hown hK g rfl 12 (by decide) rfl (hts _ (List.mem_cons_of_mem _ t_591)) (fun _ h9 => h9) 15 rfl dX2_readMark_82 ?_
        refine lv_iconst (v := 1) hx hb dX2_readMark_85 (by decide) ?_
        refine lv_iadd hx hb dX2_readMark_86 ?_
        refine lv_topi (fun y_132 ey_132 => ?_)
        have ty_132 := add_bd ey_132 b_12 kb_1 (by decide)
        have b_133 : bd 1 8 y_132 := add_rg ty_132 b_12 kb_1 (by decide)
        have go_ := g
        refine g_put (C := RX6) (T := TX6) (N := 13) hx hb hts (mc_ inX6) tyX6 tyX6_ok nmX6 hown hK g mq5_ kq5_ (by decide) rfl 12 (by decide) (hts _ (List.mem_cons_of_mem _ t_591)) (fun _ h9 => h9) rfl rfl (okV_i (bd_sub b_133 (by decide))) rfl rfl (by decide) (Or.inr (Or.inl (by decide))) (fx' := [(2, 6, a0_, .int 1), (8, 6, q0_, .int 1201), (8, 8, q0_, .int x_120), (2, 0, a0_, .ref q0_), (2, 1, a0_, .ref q1_), (2, 2, a0_, .ref q2_), (2, 3, a0_, .ref q3_), (2, 4, a0_, .ref q4_), (2, 5, a0_, .ref q5_), (0, 0, q2_, .ref q0_), (0, 1, q2_, .ref q1_), (5, 0, q1_, .ref q3_), (5, 1, q1_, .ref q9_), (9, 8, q4_, .int y1_), (7, 3, q3_, .int y2_), (5, 2, q1_, .int y4_), (7, 1, q3_, .int y5_)]) rfl dX2_readMark_87 (fun f H locs hM_134 g => ?_)
        have hG_135 := cOK.frame hM_134 go_.2.2.2.1 mq3_ kq3_ (by decide) (by decide) hG_128
        have hG_136 := dOK.frame hM_134 go_.2.2.2.1 mq3_ kq3_ (by decide) (by decide) hG_129
        have hG_137 := jS.frame hM_134 go_.2.2.2.1 mq3_ kq3_ (by decide) (by decide) hG_130
        have hG_138 := eOK.frame hM_134 go_.2.2.2.1 mq2_ kq2_ (by decide) (by decide) hG_131
        refine lv_iload_n hx hb dX2_readMark_90 rfl (lv_at hl 1 rfl) ?_
        by_cases e_139 : r_1 = 16
        · refine lv_topi (fun z_140 ez_140 => ?_)
          obtain rfl : z_140 = 16 := ez_140.trans e_139
          have kb_16 : bd 16 16 (16 : Int32) := ⟨by decide, by decide⟩
          exact bd_no (eqX (eq_f e_139) b_22 kb_16 (lo := 20) (hi := 16) (by decide)) (by decide)
        by_cases e_141 : r_1 = 17
        · refine lv_topi (fun z_142 ez_142 => ?_)
          obtain rfl : z_142 = 17 := ez_142.trans e_141
          have kb_17 : bd 17 17 (17 : Int32) := ⟨by decide, by decide⟩
          exact bd_no (eqX (eq_f e_141) b_22 kb_17 (lo := 20) (hi := 17) (by decide)) (by decide)
        by_cases e_143 : r_1 = 18
        · refine lv_topi (fun z_144 ez_144 => ?_)
          obtain rfl : z_144 = 18 := ez_144.trans e_143
          have kb_18 : bd 18 18 (18 : Int32) := ⟨by decide, by decide⟩
          exact bd_no (eqX (eq_f e_143) b_22 kb_18 (lo := 20) (hi := 18) (by decide)) (by decide)
        by_cases e_145 : r_1 = 19
        · refine lv_topi (fun z_146 ez_146 => ?_)
          obtain rfl : z_146 = 19 := ez_146.trans e_145
          have kb_19 : bd 19 19 (19 : Int32) := ⟨by decide, by decide⟩
          exact bd_no (eqX (eq_f e_145) b_22 kb_19 (lo := 20) (hi := 19) (by decide)) (by decide)
        by_cases e_147 : r_1 = 20
        · refine lv_topi (fun z_148 ez_148 => ?_)
          obtain rfl : z_148 = 20 := ez_148.trans e_147
          have b_149 : bd 20 20 r_1 := eqX (eq_f e_147) b_22 kb_20 (by decide)
          refine lv_tableIn (off := 110) (tgt := 201) hx hb dX2_readMark_91 (by decide) (by decide) rfl (by decide) ?_
          refine lv_aload_n hx hb dX2_readMark_201 rfl (lv_at hl 2 rfl) ?_
          have kb_1201 : bd 1201 1201 (1201 : Int32) := ⟨by decide, by decide⟩
          have go_ := g
          refine g_callv (va_runV (As := []) (rest := []) ⟨hx, hb, hml, hown, hts⟩ (r_X2_readOnly_2 l dC dI L kd tys f H.size g.2.2.2.1 a0_ ma0_ ka0_ q0_ mq0_ kq0_ q3_ mq3_ kq3_ q4_ mq4_ kq4_ 1201 kb_1201 x_120 h_121 (g.fcts [4, 7, 8, 2, 3] rfl)) (cwV 0 hts (gV_ t_1330 t_1332 t_38 t_183 t_1333) rfl rfl rfl (by decide +kernel) ⟨(Nat.le_of_ble_eq_true rfl), (Nat.le_of_ble_eq_true rfl)⟩) (pre3V g hK ma0_ ka0_ (by decide) (q := (RX2, TX2, 16)) rfl) rfl rfl hl.1 rfl (lv_room (Nat.le_of_ble_eq_true rfl)) dX2_readMark_202 ⟨(Nat.le_of_ble_eq_true rfl), (Nat.le_of_ble_eq_true rfl)⟩) g hK (by decide) (by decide) (fx' := [(6, 12, q5_, .int y_132), (2, 6, a0_, .int 1), (8, 8, q0_, .int x_120), (2, 0, a0_, .ref q0_), (2, 1, a0_, .ref q1_), (2, 2, a0_, .ref q2_), (2, 3, a0_, .ref q3_), (2, 4, a0_, .ref q4_), (2, 5, a0_, .ref q5_), (0, 0, q2_, .ref q0_), (0, 1, q2_, .ref q1_), (5, 0, q1_, .ref q3_), (5, 1, q1_, .ref q9_), (9, 8, q4_, .int y1_), (7, 3, q3_, .int y2_), (5, 2, q1_, .int y4_), (7, 1, q3_, .int y5_)]) rfl (fun fr_150 H locs hp hMr_150 g => ?_)
          obtain ⟨x_151, h_152, x_153, h_154, hF_155⟩ := hp
          have hG_156 := cOK.frame hMr_150 go_.2.2.2.1 mq3_ kq3_ (by decide) (by decide) hG_135
          have hG_157 := dOK.frame hMr_150 go_.2.2.2.1 mq3_ kq3_ (by decide) (by decide) hG_136
          have hG_158 := jS.frame hMr_150 go_.2.2.2.1 mq3_ kq3_ (by decide) (by decide) hG_137
          have hG_159 := eOK.frame hMr_150 go_.2.2.2.1 mq2_ kq2_ (by decide) (by decide) hG_138
          have g := g.more hF_155
          refine lv_goto (tgt := 234) hx hb dX2_readMark_205 (by decide) ?_
          refine lv_aload_n hx hb dX2_readMark_234 rfl (lv_at hl 2 rfl) ?_
          refine g_getk (C := RX2) (T := TX2) (N := 16) hx hb hts (mc_ inX2) hown hK g rfl 0 (by decide) rfl (hts _ (List.mem_cons_of_mem _ t_416)) (fun _ h9 => h9) 5 rfl dX2_readMark_235 ?_
          refine lv_bipush (v := 59) hx hb dX2_readMark_238 (by decide) ?_
          have go_ := g
          refine g_callv (va_runV (As := [.int 59]) (rest := []) ⟨hx, hb, hml, hown, hts⟩ (r_X8_take_2 l dC dI L kd tys fr_150 H.size g.2.2.2.1 q0_ mq0_ kq0_ 59 x_153 h_154 x_120 h_121 (g.fcts [1, 4] rfl)) (cwV 1 hts (gV_ t_1098 t_1099 t_1100 t_184 t_1101) rfl rfl rfl (by decide +kernel) ⟨(Nat.le_of_ble_eq_true rfl), (Nat.le_of_ble_eq_true rfl)⟩) (pre3V g hK mq0_ kq0_ (by decide) (q := (RX8, TX8, 10)) rfl) rfl rfl hl.1 rfl (lv_room (Nat.le_of_ble_eq_true rfl)) dX2_readMark_240 ⟨(Nat.le_of_ble_eq_true rfl), (Nat.le_of_ble_eq_true rfl)⟩) g hK (by decide) (by decide) (fx' := [(7, 13, q3_, .int x_151), (6, 12, q5_, .int y_132), (2, 6, a0_, .int 1), (8, 8, q0_, .int x_120), (2, 0, a0_, .ref q0_), (2, 1, a0_, .ref q1_), (2, 2, a0_, .ref q2_), (2, 3, a0_, .ref q3_), (2, 4, a0_, .ref q4_), (2, 5, a0_, .ref q5_), (0, 0, q2_, .ref q0_), (0, 1, q2_, .ref q1_), (5, 0, q1_, .ref q3_), (5, 1, q1_, .ref q9_), (9, 8, q4_, .int y1_), (7, 3, q3_, .int y2_), (5, 2, q1_, .int y4_), (7, 1, q3_, .int y5_)]) rfl (fun fr_160 H locs hp hMr_160 g => ?_)
          obtain ⟨x_161, h_162, hF_163⟩ := hp
          have hG_164 := cOK.frame hMr_160 go_.2.2.2.1 mq3_ kq3_ (by decide) (by decide) hG_156
          have hG_165 := dOK.frame hMr_160 go_.2.2.2.1 mq3_ kq3_ (by decide) (by decide) hG_157
          have hG_166 := jS.frame hMr_160 go_.2.2.2.1 mq3_ kq3_ (by decide) (by decide) hG_158
          have hG_167 := eOK.frame hMr_160 go_.2.2.2.1 mq2_ kq2_ (by decide) (by decide) hG_159
          have g := g.more hF_163
          subst hQ
          exact W.vret hx hb hr (fun t ht hW => ⟨⟨_, rfl, Or.inr (⟨hG_165, hG_167, x_161, h_162, x_120, h_121, x_151, h_152, y_132, (bd_sub b_133 (by decide)), (g.fcts [0, 4, 1, 2] rfl)⟩), q3_of g hK ht hW⟩, g.2.2.1.F ht⟩) g.2.2.1.2.2 dX2_readMark_243
        refine lv_tableOut (tgt := 208) hx hb dX2_readMark_91 (by have a0 : r_1.toInt ≠ 16 := fun h => e_139 (Int32.toInt_inj.mp (h.trans (by decide))); have a1 : r_1.toInt ≠ 17 := fun h => e_141 (Int32.toInt_inj.mp (h.trans (by decide))); have a2 : r_1.toInt ≠ 18 := fun h => e_143 (Int32.toInt_inj.mp (h.trans (by decide))); have a3 : r_1.toInt ≠ 19 := fun h => e_145 (Int32.toInt_inj.mp (h.trans (by decide))); have a4 : r_1.toInt ≠ 20 := fun h => e_147 (Int32.toInt_inj.mp (h.trans (by decide))); omega) (by decide) ?_
        refine lv_aload_n hx hb dX2_readMark_208 rfl (lv_at hl 2 rfl) ?_
        refine g_getk (C := RX2) (T := TX2) (N := 16) hx hb hts (mc_ inX2) hown hK g rfl 3 (by decide) rfl (hts _ (List.mem_cons_of_mem _ t_419)) (fun _ h9 => h9) 7 rfl dX2_readMark_209 ?_
        refine lv_bipush (v := 6) hx hb dX2_readMark_212 (by decide) ?_
        refine lv_aload_n hx hb dX2_readMark_214 rfl (lv_at hl 2 rfl) ?_
        refine g_getk (C := RX2) (T := TX2) (N := 16) hx hb hts (mc_ inX2) hown hK g rfl 1 (by decide) rfl (hts _ (List.mem_cons_of_mem _ t_417)) (fun _ h9 => h9) 5 rfl dX2_readMark_215 ?_
        refine g_getk (C := RX5) (T := TX5) (N := 9) hx hb hts (mc_ inX5) hown hK g rfl 2 (by decide) rfl (hts _ (List.mem_cons_of_mem _ t_333)) (fun _ h9 => h9) 16 rfl dX2_readMark_218 ?_
        refine lv_iload_n hx hb dX2_readMark_221 rfl (lv_at hl 0 rfl) ?_
        have go_ := g
        refine g_calli (va_runV (As := [.int 6, .int y4_, .int r_6]) (rest := []) ⟨hx, hb, hml, hown, hts⟩ (r_X7_addMark l dC dI L kd tys f H.size g.2.2.2.1 q3_ mq3_ kq3_ 6 y4_ r_6) (cwV 3 hts (gV_ t_1173 t_1174 t_1175 t_191 t_1176) rfl rfl rfl (by decide +kernel) ⟨(Nat.le_of_ble_eq_true rfl), (Nat.le_of_ble_eq_true rfl)⟩) (pre3V g hK mq3_ kq3_ (by decide) (q := (RX7, TX7, 19)) rfl) rfl rfl hl.1 rfl (lv_room (Nat.le_of_ble_eq_true rfl)) dX2_readMark_222 ⟨(Nat.le_of_ble_eq_true rfl), (Nat.le_of_ble_eq_true rfl)⟩) g hK (by decide) (by decide) (fx' := [(6, 12, q5_, .int y_132), (2, 6, a0_, .int 1), (8, 6, q0_, .int 1201), (8, 8, q0_, .int x_120), (2, 0, a0_, .ref q0_), (2, 1, a0_, .ref q1_), (2, 2, a0_, .ref q2_), (2, 3, a0_, .ref q3_), (2, 4, a0_, .ref q4_), (2, 5, a0_, .ref q5_), (0, 0, q2_, .ref q0_), (0, 1, q2_, .ref q1_), (5, 0, q1_, .ref q3_), (5, 1, q1_, .ref q9_), (9, 8, q4_, .int y1_), (7, 3, q3_, .int y2_), (5, 2, q1_, .int y4_), (7, 1, q3_, .int y5_)]) rfl (fun r_168 fr_168 H locs hp hMr_168 g => ?_)
        obtain ⟨h_169, x_170, h_171, hF_172⟩ := hp
        have hG_173 := cOK.frame hMr_168 go_.2.2.2.1 mq3_ kq3_ (by decide) (by decide) hG_135
        have hG_174 := dOK.frame hMr_168 go_.2.2.2.1 mq3_ kq3_ (by decide) (by decide) hG_136
        have hG_175 := jS.frame hMr_168 go_.2.2.2.1 mq3_ kq3_ (by decide) (by decide) hG_137
        have hG_176 := eOK.frame hMr_168 go_.2.2.2.1 mq2_ kq2_ (by decide) (by decide) hG_138
        have g := g.more hF_172
        refine lv_pop hx hb dX2_readMark_225 rfl ?_
        refine lv_aload_n hx hb dX2_readMark_226 rfl (lv_at hl 2 rfl) ?_
        refine g_getk (C := RX2) (T := TX2) (N := 16) hx hb hts (mc_ inX2) hown hK g rfl 5 (by decide) rfl (hts _ (List.mem_cons_of_mem _ t_421)) (fun _ h9 => h9) 10 rfl dX2_readMark_227 ?_
        refine lv_iconst (v := 1) hx hb dX2_readMark_230 (by decide) ?_
        have go_ := g
        refine g_put (C := RX6) (T := TX6) (N := 13) hx hb hts (mc_ inX6) tyX6 tyX6_ok nmX6 hown hK g mq5_ kq5_ (by decide) rfl 6 (by decide) (hts _ (List.mem_cons_of_mem _ t_578)) (fun _ h9 => h9) rfl rfl (okV_i (bd_sub kb_1 (by decide))) rfl rfl (by decide) (Or.inr (Or.inl (by decide))) (fx' := [(7, 13, q3_, .int x_170), (6, 12, q5_, .int y_132), (2, 6, a0_, .int 1), (8, 6, q0_, .int 1201), (8, 8, q0_, .int x_120), (2, 0, a0_, .ref q0_), (2, 1, a0_, .ref q1_), (2, 2, a0_, .ref q2_), (2, 3, a0_, .ref q3_), (2, 4, a0_, .ref q4_), (2, 5, a0_, .ref q5_), (0, 0, q2_, .ref q0_), (0, 1, q2_, .ref q1_), (5, 0, q1_, .ref q3_), (5, 1, q1_, .ref q9_), (9, 8, q4_, .int y1_), (7, 3, q3_, .int y2_), (5, 2, q1_, .int y4_), (7, 1, q3_, .int y5_)]) rfl dX2_readMark_231 (fun f H locs hM_177 g => ?_)
        have hG_178 := cOK.frame hM_177 go_.2.2.2.1 mq3_ kq3_ (by decide) (by decide) hG_173
        have hG_179 := dOK.frame hM_177 go_.2.2.2.1 mq3_ kq3_ (by decide) (by decide) hG_174
        have hG_180 := jS.frame hM_177 go_.2.2.2.1 mq3_ kq3_ (by decide) (by decide) hG_175
        have hG_181 := eOK.frame hM_177 go_.2.2.2.1 mq2_ kq2_ (by decide) (by decide) hG_176
        refine lv_aload_n hx hb dX2_readMark_234 rfl (lv_at hl 2 rfl) ?_
        refine g_getk (C := RX2) (T := TX2) (N := 16) hx hb hts (mc_ inX2) hown hK g rfl 0 (by decide) rfl (hts _ (List.mem_cons_of_mem _ t_416)) (fun _ h9 => h9) 6 rfl dX2_readMark_235 ?_
        refine lv_bipush (v := 59) hx hb dX2_readMark_238 (by decide) ?_
        have kb_1201 : bd 1201 1201 (1201 : Int32) := ⟨by decide, by decide⟩
        have go_ := g
        refine g_callv (va_runV (As := [.int 59]) (rest := []) ⟨hx, hb, hml, hown, hts⟩ (r_X8_take_2 l dC dI L kd tys f H.size g.2.2.2.1 q0_ mq0_ kq0_ 59 1201 kb_1201 x_120 h_121 (g.fcts [4, 5] rfl)) (cwV 1 hts (gV_ t_1098 t_1099 t_1100 t_184 t_1101) rfl rfl rfl (by decide +kernel) ⟨(Nat.le_of_ble_eq_true rfl), (Nat.le_of_ble_eq_true rfl)⟩) (pre3V g hK mq0_ kq0_ (by decide) (q := (RX8, TX8, 10)) rfl) rfl rfl hl.1 rfl (lv_room (Nat.le_of_ble_eq_true rfl)) dX2_readMark_240 ⟨(Nat.le_of_ble_eq_true rfl), (Nat.le_of_ble_eq_true rfl)⟩) g hK (by decide) (by decide) (fx' := [(6, 6, q5_, .int 1), (7, 13, q3_, .int x_170), (6, 12, q5_, .int y_132), (2, 6, a0_, .int 1), (8, 8, q0_, .int x_120), (2, 0, a0_, .ref q0_), (2, 1, a0_, .ref q1_), (2, 2, a0_, .ref q2_), (2, 3, a0_, .ref q3_), (2, 4, a0_, .ref q4_), (2, 5, a0_, .ref q5_), (0, 0, q2_, .ref q0_), (0, 1, q2_, .ref q1_), (5, 0, q1_, .ref q3_), (5, 1, q1_, .ref q9_), (9, 8, q4_, .int y1_), (7, 3, q3_, .int y2_), (5, 2, q1_, .int y4_), (7, 1, q3_, .int y5_)]) rfl (fun fr_182 H locs hp hMr_182 g => ?_)
        obtain ⟨x_183, h_184, hF_185⟩ := hp
        have hG_186 := cOK.frame hMr_182 go_.2.2.2.1 mq3_ kq3_ (by decide) (by decide) hG_178
        have hG_187 := dOK.frame hMr_182 go_.2.2.2.1 mq3_ kq3_ (by decide) (by decide) hG_179
        have hG_188 := jS.frame hMr_182 go_.2.2.2.1 mq3_ kq3_ (by decide) (by decide) hG_180
        have hG_189 := eOK.frame hMr_182 go_.2.2.2.1 mq2_ kq2_ (by decide) (by decide) hG_181
        have g := g.more hF_185
        subst hQ
        exact W.vret hx hb hr (fun t ht hW => ⟨⟨_, rfl, Or.inr (⟨hG_187, hG_189, x_183, h_184, x_120, h_121, x_170, h_171, y_132, (bd_sub b_133 (by decide)), (g.fcts [0, 5, 2, 3] rfl)⟩), q3_of g hK ht hW⟩, g.2.2.1.F ht⟩) g.2.2.1.2.2 dX2_readMark_243
    · have fc_21 := neq_f c_21
      refine lv_iload_n hx hb dX2_readMark_50 rfl (lv_at hl 1 rfl) ?_
      refine lv_bipush (v := 21) hx hb dX2_readMark_51 (by decide) ?_
      have kb_21 : bd 21 21 (21 : Int32) := ⟨by decide, by decide⟩
      refine lv_icmp_ne (tgt := 77) hx hb dX2_readMark_53 (by decide) (fun c_190 => ?_) (fun c_190 => ?_)
      · have fc_190 := neq_f c_190
        refine lv_aload_n hx hb dX2_readMark_77 rfl (lv_at hl 2 rfl) ?_
        refine g_getk (C := RX2) (T := TX2) (N := 16) hx hb hts (mc_ inX2) hown hK g rfl 5 (by decide) rfl (hts _ (List.mem_cons_of_mem _ t_421)) (fun _ h9 => h9) 6 rfl dX2_readMark_78 ?_
        refine lv_dup hx hb dX2_readMark_81 rfl ?_
        refine g_getk (C := RX6) (T := TX6) (N := 13) hx hb hts (mc_ inX6) hown hK g rfl 12 (by decide) rfl (hts _ (List.mem_cons_of_mem _ t_591)) (fun _ h9 => h9) 14 rfl dX2_readMark_82 ?_
        refine lv_iconst (v := 1) hx hb dX2_readMark_85 (by decide) ?_
        have kb_1 : bd 1 1 (1 : Int32) := ⟨by decide, by decide⟩
        refine lv_iadd hx hb dX2_readMark_86 ?_
        refine lv_topi (fun y_191 ey_191 => ?_)
        have ty_191 := add_bd ey_191 b_12 kb_1 (by decide)
        have b_192 : bd 1 8 y_191 := add_rg ty_191 b_12 kb_1 (by decide)
        have go_ := g
        refine g_put (C := RX6) (T := TX6) (N := 13) hx hb hts (mc_ inX6) tyX6 tyX6_ok nmX6 hown hK g mq5_ kq5_ (by decide) rfl 12 (by decide) (hts _ (List.mem_cons_of_mem _ t_591)) (fun _ h9 => h9) rfl rfl (okV_i (bd_sub b_192 (by decide))) rfl rfl (by decide) (Or.inr (Or.inl (by decide))) (fx' := [(8, 6, q0_, .int x_14), (2, 0, a0_, .ref q0_), (2, 1, a0_, .ref q1_), (2, 2, a0_, .ref q2_), (2, 3, a0_, .ref q3_), (2, 4, a0_, .ref q4_), (2, 5, a0_, .ref q5_), (0, 0, q2_, .ref q0_), (0, 1, q2_, .ref q1_), (5, 0, q1_, .ref q3_), (5, 1, q1_, .ref q9_), (8, 8, q0_, .int y0_), (9, 8, q4_, .int y1_), (7, 3, q3_, .int y2_), (5, 2, q1_, .int y4_), (7, 1, q3_, .int y5_)]) rfl dX2_readMark_87 (fun f H locs hM_193 g => ?_)
        have hG_194 := cOK.frame hM_193 go_.2.2.2.1 mq3_ kq3_ (by decide) (by decide) hG_17
        have hG_195 := dOK.frame hM_193 go_.2.2.2.1 mq3_ kq3_ (by decide) (by decide) hG_18
        have hG_196 := jS.frame hM_193 go_.2.2.2.1 mq3_ kq3_ (by decide) (by decide) hG_19
        have hG_197 := eOK.frame hM_193 go_.2.2.2.1 mq2_ kq2_ (by decide) (by decide) hG_20
        refine lv_iload_n hx hb dX2_readMark_90 rfl (lv_at hl 1 rfl) ?_
        by_cases e_198 : r_1 = 16
        · refine lv_topi (fun z_199 ez_199 => ?_)
          obtain rfl : z_199 = 16 := ez_199.trans e_198
          have kb_16 : bd 16 16 (16 : Int32) := ⟨by decide, by decide⟩
          have b_200 : bd 16 16 r_1 := eqX (eq_f e_198) (bdT r_1) kb_16 (by decide)
          refine lv_tableIn (off := 33) (tgt := 124) hx hb dX2_readMark_91 (by decide) (by decide) rfl (by decide) ?_
          refine lv_aload_n hx hb dX2_readMark_124 rfl (lv_at hl 2 rfl) ?_
          refine g_getk (C := RX2) (T := TX2) (N := 16) hx hb hts (mc_ inX2) hown hK g rfl 3 (by decide) rfl (hts _ (List.mem_cons_of_mem _ t_419)) (fun _ h9 => h9) 5 rfl dX2_readMark_125 ?_
          refine lv_iconst (v := 1) hx hb dX2_readMark_128 (by decide) ?_
          refine lv_aload_n hx hb dX2_readMark_129 rfl (lv_at hl 2 rfl) ?_
          refine g_getk (C := RX2) (T := TX2) (N := 16) hx hb hts (mc_ inX2) hown hK g rfl 1 (by decide) rfl (hts _ (List.mem_cons_of_mem _ t_417)) (fun _ h9 => h9) 3 rfl dX2_readMark_130 ?_
          refine g_getk (C := RX5) (T := TX5) (N := 9) hx hb hts (mc_ inX5) hown hK g rfl 2 (by decide) rfl (hts _ (List.mem_cons_of_mem _ t_333)) (fun _ h9 => h9) 15 rfl dX2_readMark_133 ?_
          refine lv_aload_n hx hb dX2_readMark_136 rfl (lv_at hl 2 rfl) ?_
          refine g_getk (C := RX2) (T := TX2) (N := 16) hx hb hts (mc_ inX2) hown hK g rfl 0 (by decide) rfl (hts _ (List.mem_cons_of_mem _ t_416)) (fun _ h9 => h9) 2 rfl dX2_readMark_137 ?_
          have go_ := g
          refine g_calli (va_runV (As := []) (rest := [.int y4_, .int 1, .ref q3_]) ⟨hx, hb, hml, hown, hts⟩ (r_X8_place l dC dI L kd tys f H.size g.2.2.2.1 q0_ mq0_ kq0_) (cwV 0 hts (gV_ t_1110 t_1111 t_1112 t_184 t_1113) rfl rfl rfl (by decide +kernel) ⟨(Nat.le_of_ble_eq_true rfl), (Nat.le_of_ble_eq_true rfl)⟩) (pre3V g hK mq0_ kq0_ (by decide) (q := (RX8, TX8, 10)) rfl) rfl rfl hl.1 rfl (lv_room (Nat.le_of_ble_eq_true rfl)) dX2_readMark_140 ⟨(Nat.le_of_ble_eq_true rfl), (Nat.le_of_ble_eq_true rfl)⟩) g hK (by decide) (by decide) (fx' := [(6, 12, q5_, .int y_191), (8, 6, q0_, .int x_14), (2, 0, a0_, .ref q0_), (2, 1, a0_, .ref q1_), (2, 2, a0_, .ref q2_), (2, 3, a0_, .ref q3_), (2, 4, a0_, .ref q4_), (2, 5, a0_, .ref q5_), (0, 0, q2_, .ref q0_), (0, 1, q2_, .ref q1_), (5, 0, q1_, .ref q3_), (5, 1, q1_, .ref q9_), (8, 8, q0_, .int y0_), (9, 8, q4_, .int y1_), (7, 3, q3_, .int y2_), (5, 2, q1_, .int y4_), (7, 1, q3_, .int y5_)]) rfl (fun r_201 fr_201 H locs hp hMr_201 g => ?_)
          have hG_202 := cOK.frame hMr_201 go_.2.2.2.1 mq3_ kq3_ (by decide) (by decide) hG_194
          have hG_203 := dOK.frame hMr_201 go_.2.2.2.1 mq3_ kq3_ (by decide) (by decide) hG_195
          have hG_204 := jS.frame hMr_201 go_.2.2.2.1 mq3_ kq3_ (by decide) (by decide) hG_196
          have hG_205 := eOK.frame hMr_201 go_.2.2.2.1 mq2_ kq2_ (by decide) (by decide) hG_197
          have go_ := g
          refine g_calli (va_runV (As := [.int 1, .int y4_, .int r_201]) (rest := []) ⟨hx, hb, hml, hown, hts⟩ (r_X7_addMark l dC dI L kd tys fr_201 H.size g.2.2.2.1 q3_ mq3_ kq3_ 1 y4_ r_201) (cwV 3 hts (gV_ t_1173 t_1174 t_1175 t_191 t_1176) rfl rfl rfl (by decide +kernel) ⟨(Nat.le_of_ble_eq_true rfl), (Nat.le_of_ble_eq_true rfl)⟩) (pre3V g hK mq3_ kq3_ (by decide) (q := (RX7, TX7, 19)) rfl) rfl rfl hl.1 rfl (lv_room (Nat.le_of_ble_eq_true rfl)) dX2_readMark_143 ⟨(Nat.le_of_ble_eq_true rfl), (Nat.le_of_ble_eq_true rfl)⟩) g hK (by decide) (by decide) (fx' := [(6, 12, q5_, .int y_191), (8, 6, q0_, .int x_14), (2, 0, a0_, .ref q0_), (2, 1, a0_, .ref q1_), (2, 2, a0_, .ref q2_), (2, 3, a0_, .ref q3_), (2, 4, a0_, .ref q4_), (2, 5, a0_, .ref q5_), (0, 0, q2_, .ref q0_), (0, 1, q2_, .ref q1_), (5, 0, q1_, .ref q3_), (5, 1, q1_, .ref q9_), (8, 8, q0_, .int y0_), (9, 8, q4_, .int y1_), (7, 3, q3_, .int y2_), (5, 2, q1_, .int y4_), (7, 1, q3_, .int y5_)]) rfl (fun r_206 fr_206 H locs hp hMr_206 g => ?_)
          obtain ⟨h_207, x_208, h_209, hF_210⟩ := hp
          have hG_211 := cOK.frame hMr_206 go_.2.2.2.1 mq3_ kq3_ (by decide) (by decide) hG_202
          have hG_212 := dOK.frame hMr_206 go_.2.2.2.1 mq3_ kq3_ (by decide) (by decide) hG_203
          have hG_213 := jS.frame hMr_206 go_.2.2.2.1 mq3_ kq3_ (by decide) (by decide) hG_204
          have hG_214 := eOK.frame hMr_206 go_.2.2.2.1 mq2_ kq2_ (by decide) (by decide) hG_205
          have g := g.more hF_210
          refine lv_pop hx hb dX2_readMark_146 rfl ?_
          refine lv_aload_n hx hb dX2_readMark_147 rfl (lv_at hl 2 rfl) ?_
          refine lv_iconst (v := 0) hx hb dX2_readMark_148 (by decide) ?_
          have kb_0 : bd 0 0 (0 : Int32) := ⟨by decide, by decide⟩
          have go_ := g
          refine g_callv (va_runV (As := [.int 0]) (rest := []) ⟨hx, hb, hml, hown, hts⟩ (r_X2_readAsked_8 l dC dI L kd tys fr_206 H.size g.2.2.2.1 a0_ ma0_ ka0_ 0 kb_0 q0_ mq0_ kq0_ q1_ mq1_ kq1_ q2_ mq2_ kq2_ q3_ mq3_ kq3_ q9_ mq9_ kq9_ x_208 h_209 y0_ by0_ y2_ by2_ y4_ by4_ y5_ by5_ T_ (fun j9 => jOK fr_206 q3_ j9) hG_214 hG_211 hG_212 (fun _ h9 => h9) (g.fcts [3, 4, 5, 6, 9, 10, 11, 12, 0, 13, 15, 16, 17] rfl)) (cwV 1 hts (gV_ t_1178 t_1180 t_13 t_183 t_1181) rfl rfl rfl (by decide +kernel) ⟨(Nat.le_of_ble_eq_true rfl), (Nat.le_of_ble_eq_true rfl)⟩) (pre3V g hK ma0_ ka0_ (by decide) (q := (RX2, TX2, 16)) rfl) rfl rfl hl.1 rfl (lv_room (Nat.le_of_ble_eq_true rfl)) dX2_readMark_149 ⟨(Nat.le_of_ble_eq_true rfl), (Nat.le_of_ble_eq_true rfl)⟩) g hK (by decide) (by decide) (fx' := [(7, 13, q3_, .int x_208), (6, 12, q5_, .int y_191), (2, 0, a0_, .ref q0_), (2, 1, a0_, .ref q1_), (2, 2, a0_, .ref q2_), (2, 3, a0_, .ref q3_), (2, 4, a0_, .ref q4_), (2, 5, a0_, .ref q5_), (0, 0, q2_, .ref q0_), (0, 1, q2_, .ref q1_), (5, 0, q1_, .ref q3_), (5, 1, q1_, .ref q9_), (9, 8, q4_, .int y1_), (7, 3, q3_, .int y2_), (5, 2, q1_, .int y4_), (7, 1, q3_, .int y5_)]) rfl (fun fr_215 H locs hp hMr_215 g => ?_)
          rcases hp with ⟨hG_216, hG_217, hG_218, hG_219, hF_220⟩ | ⟨hG_221, hG_222, x_223, h_224, x_225, h_226, hF_227⟩
          · have g := g.more hF_220
            have hs_228 := jS.mv hG_213 hG_219
            refine lv_goto (tgt := 234) hx hb dX2_readMark_152 (by decide) ?_
            refine lv_aload_n hx hb dX2_readMark_234 rfl (lv_at hl 2 rfl) ?_
            refine g_getk (C := RX2) (T := TX2) (N := 16) hx hb hts (mc_ inX2) hown hK g rfl 0 (by decide) rfl (hts _ (List.mem_cons_of_mem _ t_416)) (fun _ h9 => h9) 6 rfl dX2_readMark_235 ?_
            refine lv_bipush (v := 59) hx hb dX2_readMark_238 (by decide) ?_
            have go_ := g
            refine g_callv (va_runV (As := [.int 59]) (rest := []) ⟨hx, hb, hml, hown, hts⟩ (r_X8_take l dC dI L kd tys fr_215 H.size g.2.2.2.1 q0_ mq0_ kq0_ 59 y0_ by0_ (g.fcts [3] rfl)) (cwV 1 hts (gV_ t_1098 t_1099 t_1100 t_184 t_1101) rfl rfl rfl (by decide +kernel) ⟨(Nat.le_of_ble_eq_true rfl), (Nat.le_of_ble_eq_true rfl)⟩) (pre3V g hK mq0_ kq0_ (by decide) (q := (RX8, TX8, 10)) rfl) rfl rfl hl.1 rfl (lv_room (Nat.le_of_ble_eq_true rfl)) dX2_readMark_240 ⟨(Nat.le_of_ble_eq_true rfl), (Nat.le_of_ble_eq_true rfl)⟩) g hK (by decide) (by decide) (fx' := [(5, 8, q1_, .int 0), (5, 7, q1_, .int 0), (0, 2, q2_, .ref q3_), (7, 13, q3_, .int x_208), (6, 12, q5_, .int y_191), (2, 0, a0_, .ref q0_), (2, 1, a0_, .ref q1_), (2, 2, a0_, .ref q2_), (2, 3, a0_, .ref q3_), (2, 4, a0_, .ref q4_), (2, 5, a0_, .ref q5_), (0, 0, q2_, .ref q0_), (0, 1, q2_, .ref q1_), (5, 0, q1_, .ref q3_), (5, 1, q1_, .ref q9_), (9, 8, q4_, .int y1_), (7, 3, q3_, .int y2_), (5, 2, q1_, .int y4_), (7, 1, q3_, .int y5_)]) rfl (fun fr_229 H locs hp hMr_229 g => ?_)
            rcases hp with ⟨x_230, h_231, hF_232⟩ | ⟨x_233, h_234, hF_235⟩
            · have hG_236 := cOK.frame hMr_229 go_.2.2.2.1 mq3_ kq3_ (by decide) (by decide) hG_217
              have hG_237 := dOK.frame hMr_229 go_.2.2.2.1 mq3_ kq3_ (by decide) (by decide) hG_218
              have hG_238 := jS.frame hMr_229 go_.2.2.2.1 mq3_ kq3_ (by decide) (by decide) hs_228
              have hG_239 := eOK.frame hMr_229 go_.2.2.2.1 mq2_ kq2_ (by decide) (by decide) hG_216
              have g := g.more hF_232
              subst hQ
              exact W.vret hx hb hr (fun t ht hW => ⟨⟨_, rfl, Or.inl ⟨hG_236, hG_237, hG_238, hG_239, b_12, x_230, h_231, x_208, h_209, y_191, b_192, (g.fcts [0, 1, 5, 6] rfl)⟩, q3_of g hK ht hW⟩, g.2.2.1.F ht⟩) g.2.2.1.2.2 dX2_readMark_243
            · have hG_240 := cOK.frame hMr_229 go_.2.2.2.1 mq3_ kq3_ (by decide) (by decide) hG_217
              have hG_241 := dOK.frame hMr_229 go_.2.2.2.1 mq3_ kq3_ (by decide) (by decide) hG_218
              have hG_242 := jS.frame hMr_229 go_.2.2.2.1 mq3_ kq3_ (by decide) (by decide) hs_228
              have hG_243 := eOK.frame hMr_229 go_.2.2.2.1 mq2_ kq2_ (by decide) (by decide) hG_216
              have g := g.more hF_235
              have kb_1201 : bd 1201 1201 (1201 : Int32) := ⟨by decide, by decide⟩
              subst hQ
              exact W.vret hx hb hr (fun t ht hW => ⟨⟨_, rfl, Or.inr (⟨hG_241, hG_243, 1201, kb_1201, x_233, h_234, x_208, h_209, y_191, (bd_sub b_192 (by decide)), (g.fcts [0, 1, 5, 6] rfl)⟩), q3_of g hK ht hW⟩, g.2.2.1.F ht⟩) g.2.2.1.2.2 dX2_readMark_243
          · have g := g.more hF_227
            refine lv_goto (tgt := 234) hx hb dX2_readMark_152 (by decide) ?_
            refine lv_aload_n hx hb dX2_readMark_234 rfl (lv_at hl 2 rfl) ?_
            refine g_getk (C := RX2) (T := TX2) (N := 16) hx hb hts (mc_ inX2) hown hK g rfl 0 (by decide) rfl (hts _ (List.mem_cons_of_mem _ t_416)) (fun _ h9 => h9) 7 rfl dX2_readMark_235 ?_
            refine lv_bipush (v := 59) hx hb dX2_readMark_238 (by decide) ?_
            have go_ := g
            refine g_callv (va_runV (As := [.int 59]) (rest := []) ⟨hx, hb, hml, hown, hts⟩ (r_X8_take_2 l dC dI L kd tys fr_215 H.size g.2.2.2.1 q0_ mq0_ kq0_ 59 x_223 h_224 x_225 h_226 (g.fcts [2, 3] rfl)) (cwV 1 hts (gV_ t_1098 t_1099 t_1100 t_184 t_1101) rfl rfl rfl (by decide +kernel) ⟨(Nat.le_of_ble_eq_true rfl), (Nat.le_of_ble_eq_true rfl)⟩) (pre3V g hK mq0_ kq0_ (by decide) (q := (RX8, TX8, 10)) rfl) rfl rfl hl.1 rfl (lv_room (Nat.le_of_ble_eq_true rfl)) dX2_readMark_240 ⟨(Nat.le_of_ble_eq_true rfl), (Nat.le_of_ble_eq_true rfl)⟩) g hK (by decide) (by decide) (fx' := [(5, 8, q1_, .int 0), (5, 7, q1_, .int 0), (8, 8, q0_, .int x_225), (0, 2, q2_, .ref q3_), (7, 13, q3_, .int x_208), (6, 12, q5_, .int y_191), (2, 0, a0_, .ref q0_), (2, 1, a0_, .ref q1_), (2, 2, a0_, .ref q2_), (2, 3, a0_, .ref q3_), (2, 4, a0_, .ref q4_), (2, 5, a0_, .ref q5_), (0, 0, q2_, .ref q0_), (0, 1, q2_, .ref q1_), (5, 0, q1_, .ref q3_), (5, 1, q1_, .ref q9_), (9, 8, q4_, .int y1_), (7, 3, q3_, .int y2_), (5, 2, q1_, .int y4_), (7, 1, q3_, .int y5_)]) rfl (fun fr_244 H locs hp hMr_244 g => ?_)
            obtain ⟨x_245, h_246, hF_247⟩ := hp
            have hG_248 := dOK.frame hMr_244 go_.2.2.2.1 mq3_ kq3_ (by decide) (by decide) hG_222
            have hG_249 := eOK.frame hMr_244 go_.2.2.2.1 mq2_ kq2_ (by decide) (by decide) hG_221
            have g := g.more hF_247
            subst hQ
            exact W.vret hx hb hr (fun t ht hW => ⟨⟨_, rfl, Or.inr (⟨hG_248, hG_249, x_245, h_246, x_225, h_226, x_208, h_209, y_191, (bd_sub b_192 (by decide)), (g.fcts [0, 3, 5, 6] rfl)⟩), q3_of g hK ht hW⟩, g.2.2.1.F ht⟩) g.2.2.1.2.2 dX2_readMark_243
        by_cases e_250 : r_1 = 17
        · refine lv_topi (fun z_251 ez_251 => ?_)
          obtain rfl : z_251 = 17 := ez_251.trans e_250
          have kb_17 : bd 17 17 (17 : Int32) := ⟨by decide, by decide⟩
          have b_252 : bd 17 17 r_1 := eqX (eq_f e_250) (bdT r_1) kb_17 (by decide)
          refine lv_tableIn (off := 64) (tgt := 155) hx hb dX2_readMark_91 (by decide) (by decide) rfl (by decide) ?_
          refine lv_aload_n hx hb dX2_readMark_155 rfl (lv_at hl 2 rfl) ?_
          refine g_getk (C := RX2) (T := TX2) (N := 16) hx hb hts (mc_ inX2) hown hK g rfl 3 (by decide) rfl (hts _ (List.mem_cons_of_mem _ t_419)) (fun _ h9 => h9) 5 rfl dX2_readMark_156 ?_
          refine lv_iconst (v := 2) hx hb dX2_readMark_159 (by decide) ?_
          refine lv_aload_n hx hb dX2_readMark_160 rfl (lv_at hl 2 rfl) ?_
          refine g_getk (C := RX2) (T := TX2) (N := 16) hx hb hts (mc_ inX2) hown hK g rfl 1 (by decide) rfl (hts _ (List.mem_cons_of_mem _ t_417)) (fun _ h9 => h9) 3 rfl dX2_readMark_161 ?_
          refine g_getk (C := RX5) (T := TX5) (N := 9) hx hb hts (mc_ inX5) hown hK g rfl 2 (by decide) rfl (hts _ (List.mem_cons_of_mem _ t_333)) (fun _ h9 => h9) 15 rfl dX2_readMark_164 ?_
          refine lv_aload_n hx hb dX2_readMark_167 rfl (lv_at hl 2 rfl) ?_
          refine g_getk (C := RX2) (T := TX2) (N := 16) hx hb hts (mc_ inX2) hown hK g rfl 0 (by decide) rfl (hts _ (List.mem_cons_of_mem _ t_416)) (fun _ h9 => h9) 2 rfl dX2_readMark_168 ?_
          have go_ := g
          refine g_calli (va_runV (As := []) (rest := [.int y4_, .int 2, .ref q3_]) ⟨hx, hb, hml, hown, hts⟩ (r_X8_place l dC dI L kd tys f H.size g.2.2.2.1 q0_ mq0_ kq0_) (cwV 0 hts (gV_ t_1110 t_1111 t_1112 t_184 t_1113) rfl rfl rfl (by decide +kernel) ⟨(Nat.le_of_ble_eq_true rfl), (Nat.le_of_ble_eq_true rfl)⟩) (pre3V g hK mq0_ kq0_ (by decide) (q := (RX8, TX8, 10)) rfl) rfl rfl hl.1 rfl (lv_room (Nat.le_of_ble_eq_true rfl)) dX2_readMark_171 ⟨(Nat.le_of_ble_eq_true rfl), (Nat.le_of_ble_eq_true rfl)⟩) g hK (by decide) (by decide) (fx' := [(6, 12, q5_, .int y_191), (8, 6, q0_, .int x_14), (2, 0, a0_, .ref q0_), (2, 1, a0_, .ref q1_), (2, 2, a0_, .ref q2_), (2, 3, a0_, .ref q3_), (2, 4, a0_, .ref q4_), (2, 5, a0_, .ref q5_), (0, 0, q2_, .ref q0_), (0, 1, q2_, .ref q1_), (5, 0, q1_, .ref q3_), (5, 1, q1_, .ref q9_), (8, 8, q0_, .int y0_), (9, 8, q4_, .int y1_), (7, 3, q3_, .int y2_), (5, 2, q1_, .int y4_), (7, 1, q3_, .int y5_)]) rfl (fun r_253 fr_253 H locs hp hMr_253 g => ?_)
          have hG_254 := cOK.frame hMr_253 go_.2.2.2.1 mq3_ kq3_ (by decide) (by decide) hG_194
          have hG_255 := dOK.frame hMr_253 go_.2.2.2.1 mq3_ kq3_ (by decide) (by decide) hG_195
          have hG_256 := jS.frame hMr_253 go_.2.2.2.1 mq3_ kq3_ (by decide) (by decide) hG_196
          have hG_257 := eOK.frame hMr_253 go_.2.2.2.1 mq2_ kq2_ (by decide) (by decide) hG_197
          have go_ := g
          refine g_calli (va_runV (As := [.int 2, .int y4_, .int r_253]) (rest := []) ⟨hx, hb, hml, hown, hts⟩ (r_X7_addMark l dC dI L kd tys fr_253 H.size g.2.2.2.1 q3_ mq3_ kq3_ 2 y4_ r_253) (cwV 3 hts (gV_ t_1173 t_1174 t_1175 t_191 t_1176) rfl rfl rfl (by decide +kernel) ⟨(Nat.le_of_ble_eq_true rfl), (Nat.le_of_ble_eq_true rfl)⟩) (pre3V g hK mq3_ kq3_ (by decide) (q := (RX7, TX7, 19)) rfl) rfl rfl hl.1 rfl (lv_room (Nat.le_of_ble_eq_true rfl)) dX2_readMark_174 ⟨(Nat.le_of_ble_eq_true rfl), (Nat.le_of_ble_eq_true rfl)⟩) g hK (by decide) (by decide) (fx' := [(6, 12, q5_, .int y_191), (8, 6, q0_, .int x_14), (2, 0, a0_, .ref q0_), (2, 1, a0_, .ref q1_), (2, 2, a0_, .ref q2_), (2, 3, a0_, .ref q3_), (2, 4, a0_, .ref q4_), (2, 5, a0_, .ref q5_), (0, 0, q2_, .ref q0_), (0, 1, q2_, .ref q1_), (5, 0, q1_, .ref q3_), (5, 1, q1_, .ref q9_), (8, 8, q0_, .int y0_), (9, 8, q4_, .int y1_), (7, 3, q3_, .int y2_), (5, 2, q1_, .int y4_), (7, 1, q3_, .int y5_)]) rfl (fun r_258 fr_258 H locs hp hMr_258 g => ?_)
          obtain ⟨h_259, x_260, h_261, hF_262⟩ := hp
          have hG_263 := cOK.frame hMr_258 go_.2.2.2.1 mq3_ kq3_ (by decide) (by decide) hG_254
          have hG_264 := dOK.frame hMr_258 go_.2.2.2.1 mq3_ kq3_ (by decide) (by decide) hG_255
          have hG_265 := jS.frame hMr_258 go_.2.2.2.1 mq3_ kq3_ (by decide) (by decide) hG_256
          have hG_266 := eOK.frame hMr_258 go_.2.2.2.1 mq2_ kq2_ (by decide) (by decide) hG_257
          have g := g.more hF_262
          refine lv_pop hx hb dX2_readMark_177 rfl ?_
          refine lv_aload_n hx hb dX2_readMark_178 rfl (lv_at hl 2 rfl) ?_
          refine lv_iconst (v := 1) hx hb dX2_readMark_179 (by decide) ?_
          have go_ := g
          refine g_callv (va_runV (As := [.int 1]) (rest := []) ⟨hx, hb, hml, hown, hts⟩ (r_X2_readAsked_9 l dC dI L kd tys fr_258 H.size g.2.2.2.1 a0_ ma0_ ka0_ 1 kb_1 q0_ mq0_ kq0_ q1_ mq1_ kq1_ q2_ mq2_ kq2_ q3_ mq3_ kq3_ q9_ mq9_ kq9_ x_260 h_261 y0_ by0_ y2_ by2_ y4_ by4_ y5_ by5_ T_ (fun j9 => jOK fr_258 q3_ j9) hG_266 hG_263 hG_264 (fun _ h9 => h9) (g.fcts [3, 4, 5, 6, 9, 10, 11, 12, 0, 13, 15, 16, 17] rfl)) (cwV 1 hts (gV_ t_1178 t_1180 t_13 t_183 t_1181) rfl rfl rfl (by decide +kernel) ⟨(Nat.le_of_ble_eq_true rfl), (Nat.le_of_ble_eq_true rfl)⟩) (pre3V g hK ma0_ ka0_ (by decide) (q := (RX2, TX2, 16)) rfl) rfl rfl hl.1 rfl (lv_room (Nat.le_of_ble_eq_true rfl)) dX2_readMark_180 ⟨(Nat.le_of_ble_eq_true rfl), (Nat.le_of_ble_eq_true rfl)⟩) g hK (by decide) (by decide) (fx' := [(7, 13, q3_, .int x_260), (6, 12, q5_, .int y_191), (2, 0, a0_, .ref q0_), (2, 1, a0_, .ref q1_), (2, 2, a0_, .ref q2_), (2, 3, a0_, .ref q3_), (2, 4, a0_, .ref q4_), (2, 5, a0_, .ref q5_), (0, 0, q2_, .ref q0_), (0, 1, q2_, .ref q1_), (5, 0, q1_, .ref q3_), (5, 1, q1_, .ref q9_), (9, 8, q4_, .int y1_), (7, 3, q3_, .int y2_), (5, 2, q1_, .int y4_), (7, 1, q3_, .int y5_)]) rfl (fun fr_267 H locs hp hMr_267 g => ?_)
          rcases hp with ⟨hG_268, hG_269, hG_270, hG_271, hF_272⟩ | ⟨hG_273, hG_274, x_275, h_276, x_277, h_278, hF_279⟩
          · have g := g.more hF_272
            have hs_280 := jS.mv hG_265 hG_271
            refine lv_goto (tgt := 234) hx hb dX2_readMark_183 (by decide) ?_
            refine lv_aload_n hx hb dX2_readMark_234 rfl (lv_at hl 2 rfl) ?_
            refine g_getk (C := RX2) (T := TX2) (N := 16) hx hb hts (mc_ inX2) hown hK g rfl 0 (by decide) rfl (hts _ (List.mem_cons_of_mem _ t_416)) (fun _ h9 => h9) 6 rfl dX2_readMark_235 ?_
            refine lv_bipush (v := 59) hx hb dX2_readMark_238 (by decide) ?_
            have go_ := g
            refine g_callv (va_runV (As := [.int 59]) (rest := []) ⟨hx, hb, hml, hown, hts⟩ (r_X8_take l dC dI L kd tys fr_267 H.size g.2.2.2.1 q0_ mq0_ kq0_ 59 y0_ by0_ (g.fcts [3] rfl)) (cwV 1 hts (gV_ t_1098 t_1099 t_1100 t_184 t_1101) rfl rfl rfl (by decide +kernel) ⟨(Nat.le_of_ble_eq_true rfl), (Nat.le_of_ble_eq_true rfl)⟩) (pre3V g hK mq0_ kq0_ (by decide) (q := (RX8, TX8, 10)) rfl) rfl rfl hl.1 rfl (lv_room (Nat.le_of_ble_eq_true rfl)) dX2_readMark_240 ⟨(Nat.le_of_ble_eq_true rfl), (Nat.le_of_ble_eq_true rfl)⟩) g hK (by decide) (by decide) (fx' := [(5, 8, q1_, .int 0), (5, 7, q1_, .int 0), (0, 2, q2_, .ref q3_), (7, 13, q3_, .int x_260), (6, 12, q5_, .int y_191), (2, 0, a0_, .ref q0_), (2, 1, a0_, .ref q1_), (2, 2, a0_, .ref q2_), (2, 3, a0_, .ref q3_), (2, 4, a0_, .ref q4_), (2, 5, a0_, .ref q5_), (0, 0, q2_, .ref q0_), (0, 1, q2_, .ref q1_), (5, 0, q1_, .ref q3_), (5, 1, q1_, .ref q9_), (9, 8, q4_, .int y1_), (7, 3, q3_, .int y2_), (5, 2, q1_, .int y4_), (7, 1, q3_, .int y5_)]) rfl (fun fr_281 H locs hp hMr_281 g => ?_)
            rcases hp with ⟨x_282, h_283, hF_284⟩ | ⟨x_285, h_286, hF_287⟩
            · have hG_288 := cOK.frame hMr_281 go_.2.2.2.1 mq3_ kq3_ (by decide) (by decide) hG_269
              have hG_289 := dOK.frame hMr_281 go_.2.2.2.1 mq3_ kq3_ (by decide) (by decide) hG_270
              have hG_290 := jS.frame hMr_281 go_.2.2.2.1 mq3_ kq3_ (by decide) (by decide) hs_280
              have hG_291 := eOK.frame hMr_281 go_.2.2.2.1 mq2_ kq2_ (by decide) (by decide) hG_268
              have g := g.more hF_284
              subst hQ
              exact W.vret hx hb hr (fun t ht hW => ⟨⟨_, rfl, Or.inl ⟨hG_288, hG_289, hG_290, hG_291, b_12, x_282, h_283, x_260, h_261, y_191, b_192, (g.fcts [0, 1, 5, 6] rfl)⟩, q3_of g hK ht hW⟩, g.2.2.1.F ht⟩) g.2.2.1.2.2 dX2_readMark_243
            · have hG_292 := cOK.frame hMr_281 go_.2.2.2.1 mq3_ kq3_ (by decide) (by decide) hG_269
              have hG_293 := dOK.frame hMr_281 go_.2.2.2.1 mq3_ kq3_ (by decide) (by decide) hG_270
              have hG_294 := jS.frame hMr_281 go_.2.2.2.1 mq3_ kq3_ (by decide) (by decide) hs_280
              have hG_295 := eOK.frame hMr_281 go_.2.2.2.1 mq2_ kq2_ (by decide) (by decide) hG_268
              have g := g.more hF_287
              have kb_1201 : bd 1201 1201 (1201 : Int32) := ⟨by decide, by decide⟩
              subst hQ
              exact W.vret hx hb hr (fun t ht hW => ⟨⟨_, rfl, Or.inr (⟨hG_293, hG_295, 1201, kb_1201, x_285, h_286, x_260, h_261, y_191, (bd_sub b_192 (by decide)), (g.fcts [0, 1, 5, 6] rfl)⟩), q3_of g hK ht hW⟩, g.2.2.1.F ht⟩) g.2.2.1.2.2 dX2_readMark_243
          · have g := g.more hF_279
            refine lv_goto (tgt := 234) hx hb dX2_readMark_183 (by decide) ?_
            refine lv_aload_n hx hb dX2_readMark_234 rfl (lv_at hl 2 rfl) ?_
            refine g_getk (C := RX2) (T := TX2) (N := 16) hx hb hts (mc_ inX2) hown hK g rfl 0 (by decide) rfl (hts _ (List.mem_cons_of_mem _ t_416)) (fun _ h9 => h9) 7 rfl dX2_readMark_235 ?_
            refine lv_bipush (v := 59) hx hb dX2_readMark_238 (by decide) ?_
            have go_ := g
            refine g_callv (va_runV (As := [.int 59]) (rest := []) ⟨hx, hb, hml, hown, hts⟩ (r_X8_take_2 l dC dI L kd tys fr_267 H.size g.2.2.2.1 q0_ mq0_ kq0_ 59 x_275 h_276 x_277 h_278 (g.fcts [2, 3] rfl)) (cwV 1 hts (gV_ t_1098 t_1099 t_1100 t_184 t_1101) rfl rfl rfl (by decide +kernel) ⟨(Nat.le_of_ble_eq_true rfl), (Nat.le_of_ble_eq_true rfl)⟩) (pre3V g hK mq0_ kq0_ (by decide) (q := (RX8, TX8, 10)) rfl) rfl rfl hl.1 rfl (lv_room (Nat.le_of_ble_eq_true rfl)) dX2_readMark_240 ⟨(Nat.le_of_ble_eq_true rfl), (Nat.le_of_ble_eq_true rfl)⟩) g hK (by decide) (by decide) (fx' := [(5, 8, q1_, .int 0), (5, 7, q1_, .int 0), (8, 8, q0_, .int x_277), (0, 2, q2_, .ref q3_), (7, 13, q3_, .int x_260), (6, 12, q5_, .int y_191), (2, 0, a0_, .ref q0_), (2, 1, a0_, .ref q1_), (2, 2, a0_, .ref q2_), (2, 3, a0_, .ref q3_), (2, 4, a0_, .ref q4_), (2, 5, a0_, .ref q5_), (0, 0, q2_, .ref q0_), (0, 1, q2_, .ref q1_), (5, 0, q1_, .ref q3_), (5, 1, q1_, .ref q9_), (9, 8, q4_, .int y1_), (7, 3, q3_, .int y2_), (5, 2, q1_, .int y4_), (7, 1, q3_, .int y5_)]) rfl (fun fr_296 H locs hp hMr_296 g => ?_)
            obtain ⟨x_297, h_298, hF_299⟩ := hp
            have hG_300 := dOK.frame hMr_296 go_.2.2.2.1 mq3_ kq3_ (by decide) (by decide) hG_274
            have hG_301 := eOK.frame hMr_296 go_.2.2.2.1 mq2_ kq2_ (by decide) (by decide) hG_273
            have g := g.more hF_299
            subst hQ
            exact W.vret hx hb hr (fun t ht hW => ⟨⟨_, rfl, Or.inr (⟨hG_300, hG_301, x_297, h_298, x_277, h_278, x_260, h_261, y_191, (bd_sub b_192 (by decide)), (g.fcts [0, 3, 5, 6] rfl)⟩), q3_of g hK ht hW⟩, g.2.2.1.F ht⟩) g.2.2.1.2.2 dX2_readMark_243
        by_cases e_302 : r_1 = 18
        · refine lv_topi (fun z_303 ez_303 => ?_)
          obtain rfl : z_303 = 18 := ez_303.trans e_302
          have kb_18 : bd 18 18 (18 : Int32) := ⟨by decide, by decide⟩
          have b_304 : bd 18 18 r_1 := eqX (eq_f e_302) (bdT r_1) kb_18 (by decide)
          refine lv_tableIn (off := 95) (tgt := 186) hx hb dX2_readMark_91 (by decide) (by decide) rfl (by decide) ?_
          refine lv_aload_n hx hb dX2_readMark_186 rfl (lv_at hl 2 rfl) ?_
          have go_ := g
          refine g_calli (va_runV (As := []) (rest := []) ⟨hx, hb, hml, hown, hts⟩ (r_X2_readThrownWord l dC dI L kd tys f H.size g.2.2.2.1 a0_ ma0_ ka0_ q0_ mq0_ kq0_ q3_ mq3_ kq3_ y0_ by0_ (g.fcts [2, 5, 12] rfl)) (cwV 0 hts (gV_ t_1326 t_1328 t_37 t_183 t_1329) rfl rfl rfl (by decide +kernel) ⟨(Nat.le_of_ble_eq_true rfl), (Nat.le_of_ble_eq_true rfl)⟩) (pre3V g hK ma0_ ka0_ (by decide) (q := (RX2, TX2, 16)) rfl) rfl rfl hl.1 rfl (lv_room (Nat.le_of_ble_eq_true rfl)) dX2_readMark_187 ⟨(Nat.le_of_ble_eq_true rfl), (Nat.le_of_ble_eq_true rfl)⟩) g hK (by decide) (by decide) (fx' := [(6, 12, q5_, .int y_191), (2, 0, a0_, .ref q0_), (2, 1, a0_, .ref q1_), (2, 2, a0_, .ref q2_), (2, 3, a0_, .ref q3_), (2, 4, a0_, .ref q4_), (2, 5, a0_, .ref q5_), (0, 0, q2_, .ref q0_), (0, 1, q2_, .ref q1_), (5, 0, q1_, .ref q3_), (5, 1, q1_, .ref q9_), (9, 8, q4_, .int y1_), (7, 3, q3_, .int y2_), (5, 2, q1_, .int y4_), (7, 1, q3_, .int y5_)]) rfl (fun r_305 fr_305 H locs hp hMr_305 g => ?_)
          rcases hp with ⟨h_306, x_307, h_308, x_309, h_310, hF_311⟩ | ⟨h_312, x_313, h_314, x_315, h_316, hF_317⟩ | ⟨h_318, x_319, h_320, x_321, h_322, hF_323⟩
          · have hG_324 := cOK.frame hMr_305 go_.2.2.2.1 mq3_ kq3_ (by decide) (by decide) hG_194
            have hG_325 := dOK.frame hMr_305 go_.2.2.2.1 mq3_ kq3_ (by decide) (by decide) hG_195
            have hG_326 := jS.frame hMr_305 go_.2.2.2.1 mq3_ kq3_ (by decide) (by decide) hG_196
            have hG_327 := eOK.frame hMr_305 go_.2.2.2.1 mq2_ kq2_ (by decide) (by decide) hG_197
            obtain rfl : r_305 = 0 := h_306
            have g := g.more hF_311
            refine lv_if_eq (tgt := 234) hx hb dX2_readMark_190 (by decide) (fun c_ => ?_) (fun c_ => absurd (by decide) c_)
            refine lv_aload_n hx hb dX2_readMark_234 rfl (lv_at hl 2 rfl) ?_
            refine g_getk (C := RX2) (T := TX2) (N := 16) hx hb hts (mc_ inX2) hown hK g rfl 0 (by decide) rfl (hts _ (List.mem_cons_of_mem _ t_416)) (fun _ h9 => h9) 4 rfl dX2_readMark_235 ?_
            refine lv_bipush (v := 59) hx hb dX2_readMark_238 (by decide) ?_
            have go_ := g
            refine g_callv (va_runV (As := [.int 59]) (rest := []) ⟨hx, hb, hml, hown, hts⟩ (r_X8_take l dC dI L kd tys fr_305 H.size g.2.2.2.1 q0_ mq0_ kq0_ 59 y0_ by0_ (g.fcts [1] rfl)) (cwV 1 hts (gV_ t_1098 t_1099 t_1100 t_184 t_1101) rfl rfl rfl (by decide +kernel) ⟨(Nat.le_of_ble_eq_true rfl), (Nat.le_of_ble_eq_true rfl)⟩) (pre3V g hK mq0_ kq0_ (by decide) (q := (RX8, TX8, 10)) rfl) rfl rfl hl.1 rfl (lv_room (Nat.le_of_ble_eq_true rfl)) dX2_readMark_240 ⟨(Nat.le_of_ble_eq_true rfl), (Nat.le_of_ble_eq_true rfl)⟩) g hK (by decide) (by decide) (fx' := [(7, 13, q3_, .int x_309), (6, 12, q5_, .int y_191), (2, 0, a0_, .ref q0_), (2, 1, a0_, .ref q1_), (2, 2, a0_, .ref q2_), (2, 3, a0_, .ref q3_), (2, 4, a0_, .ref q4_), (2, 5, a0_, .ref q5_), (0, 0, q2_, .ref q0_), (0, 1, q2_, .ref q1_), (5, 0, q1_, .ref q3_), (5, 1, q1_, .ref q9_), (9, 8, q4_, .int y1_), (7, 3, q3_, .int y2_), (5, 2, q1_, .int y4_), (7, 1, q3_, .int y5_)]) rfl (fun fr_328 H locs hp hMr_328 g => ?_)
            rcases hp with ⟨x_329, h_330, hF_331⟩ | ⟨x_332, h_333, hF_334⟩
            · have hG_335 := cOK.frame hMr_328 go_.2.2.2.1 mq3_ kq3_ (by decide) (by decide) hG_324
              have hG_336 := dOK.frame hMr_328 go_.2.2.2.1 mq3_ kq3_ (by decide) (by decide) hG_325
              have hG_337 := jS.frame hMr_328 go_.2.2.2.1 mq3_ kq3_ (by decide) (by decide) hG_326
              have hG_338 := eOK.frame hMr_328 go_.2.2.2.1 mq2_ kq2_ (by decide) (by decide) hG_327
              have g := g.more hF_331
              subst hQ
              exact W.vret hx hb hr (fun t ht hW => ⟨⟨_, rfl, Or.inl ⟨hG_335, hG_336, hG_337, hG_338, b_12, x_329, h_330, x_309, h_310, y_191, b_192, (g.fcts [0, 1, 2, 3] rfl)⟩, q3_of g hK ht hW⟩, g.2.2.1.F ht⟩) g.2.2.1.2.2 dX2_readMark_243
            · have hG_339 := cOK.frame hMr_328 go_.2.2.2.1 mq3_ kq3_ (by decide) (by decide) hG_324
              have hG_340 := dOK.frame hMr_328 go_.2.2.2.1 mq3_ kq3_ (by decide) (by decide) hG_325
              have hG_341 := jS.frame hMr_328 go_.2.2.2.1 mq3_ kq3_ (by decide) (by decide) hG_326
              have hG_342 := eOK.frame hMr_328 go_.2.2.2.1 mq2_ kq2_ (by decide) (by decide) hG_327
              have g := g.more hF_334
              have kb_1201 : bd 1201 1201 (1201 : Int32) := ⟨by decide, by decide⟩
              subst hQ
              exact W.vret hx hb hr (fun t ht hW => ⟨⟨_, rfl, Or.inr (⟨hG_340, hG_342, 1201, kb_1201, x_332, h_333, x_309, h_310, y_191, (bd_sub b_192 (by decide)), (g.fcts [0, 1, 2, 3] rfl)⟩), q3_of g hK ht hW⟩, g.2.2.1.F ht⟩) g.2.2.1.2.2 dX2_readMark_243
          · have hG_343 := cOK.frame hMr_305 go_.2.2.2.1 mq3_ kq3_ (by decide) (by decide) hG_194
            have hG_344 := dOK.frame hMr_305 go_.2.2.2.1 mq3_ kq3_ (by decide) (by decide) hG_195
            have hG_345 := jS.frame hMr_305 go_.2.2.2.1 mq3_ kq3_ (by decide) (by decide) hG_196
            have hG_346 := eOK.frame hMr_305 go_.2.2.2.1 mq2_ kq2_ (by decide) (by decide) hG_197
            obtain rfl : r_305 = 0 := h_312
            have g := g.more hF_317
            refine lv_if_eq (tgt := 234) hx hb dX2_readMark_190 (by decide) (fun c_ => ?_) (fun c_ => absurd (by decide) c_)
            refine lv_aload_n hx hb dX2_readMark_234 rfl (lv_at hl 2 rfl) ?_
            refine g_getk (C := RX2) (T := TX2) (N := 16) hx hb hts (mc_ inX2) hown hK g rfl 0 (by decide) rfl (hts _ (List.mem_cons_of_mem _ t_416)) (fun _ h9 => h9) 4 rfl dX2_readMark_235 ?_
            refine lv_bipush (v := 59) hx hb dX2_readMark_238 (by decide) ?_
            have kb_1201 : bd 1201 1201 (1201 : Int32) := ⟨by decide, by decide⟩
            have go_ := g
            refine g_callv (va_runV (As := [.int 59]) (rest := []) ⟨hx, hb, hml, hown, hts⟩ (r_X8_take_2 l dC dI L kd tys fr_305 H.size g.2.2.2.1 q0_ mq0_ kq0_ 59 1201 kb_1201 x_313 h_314 (g.fcts [0, 1] rfl)) (cwV 1 hts (gV_ t_1098 t_1099 t_1100 t_184 t_1101) rfl rfl rfl (by decide +kernel) ⟨(Nat.le_of_ble_eq_true rfl), (Nat.le_of_ble_eq_true rfl)⟩) (pre3V g hK mq0_ kq0_ (by decide) (q := (RX8, TX8, 10)) rfl) rfl rfl hl.1 rfl (lv_room (Nat.le_of_ble_eq_true rfl)) dX2_readMark_240 ⟨(Nat.le_of_ble_eq_true rfl), (Nat.le_of_ble_eq_true rfl)⟩) g hK (by decide) (by decide) (fx' := [(8, 8, q0_, .int x_313), (7, 13, q3_, .int x_315), (6, 12, q5_, .int y_191), (2, 0, a0_, .ref q0_), (2, 1, a0_, .ref q1_), (2, 2, a0_, .ref q2_), (2, 3, a0_, .ref q3_), (2, 4, a0_, .ref q4_), (2, 5, a0_, .ref q5_), (0, 0, q2_, .ref q0_), (0, 1, q2_, .ref q1_), (5, 0, q1_, .ref q3_), (5, 1, q1_, .ref q9_), (9, 8, q4_, .int y1_), (7, 3, q3_, .int y2_), (5, 2, q1_, .int y4_), (7, 1, q3_, .int y5_)]) rfl (fun fr_347 H locs hp hMr_347 g => ?_)
            obtain ⟨x_348, h_349, hF_350⟩ := hp
            have hG_351 := cOK.frame hMr_347 go_.2.2.2.1 mq3_ kq3_ (by decide) (by decide) hG_343
            have hG_352 := dOK.frame hMr_347 go_.2.2.2.1 mq3_ kq3_ (by decide) (by decide) hG_344
            have hG_353 := jS.frame hMr_347 go_.2.2.2.1 mq3_ kq3_ (by decide) (by decide) hG_345
            have hG_354 := eOK.frame hMr_347 go_.2.2.2.1 mq2_ kq2_ (by decide) (by decide) hG_346
            have g := g.more hF_350
            subst hQ
            exact W.vret hx hb hr (fun t ht hW => ⟨⟨_, rfl, Or.inr (⟨hG_352, hG_354, x_348, h_349, x_313, h_314, x_315, h_316, y_191, (bd_sub b_192 (by decide)), (g.fcts [0, 1, 2, 3] rfl)⟩), q3_of g hK ht hW⟩, g.2.2.1.F ht⟩) g.2.2.1.2.2 dX2_readMark_243
          · have hG_355 := cOK.frame hMr_305 go_.2.2.2.1 mq3_ kq3_ (by decide) (by decide) hG_194
            have hG_356 := dOK.frame hMr_305 go_.2.2.2.1 mq3_ kq3_ (by decide) (by decide) hG_195
            have hG_357 := jS.frame hMr_305 go_.2.2.2.1 mq3_ kq3_ (by decide) (by decide) hG_196
            have hG_358 := eOK.frame hMr_305 go_.2.2.2.1 mq2_ kq2_ (by decide) (by decide) hG_197
            obtain rfl : r_305 = 1 := h_318
            have g := g.more hF_323
            refine lv_if_eq (tgt := 234) hx hb dX2_readMark_190 (by decide) (fun c_ => absurd c_ (by decide)) (fun c_ => ?_)
            refine lv_aload_n hx hb dX2_readMark_193 rfl (lv_at hl 2 rfl) ?_
            refine lv_iconst (v := 0) hx hb dX2_readMark_194 (by decide) ?_
            have kb_0 : bd 0 0 (0 : Int32) := ⟨by decide, by decide⟩
            have go_ := g
            refine g_callv (va_runV (As := [.int 0]) (rest := []) ⟨hx, hb, hml, hown, hts⟩ (r_X2_readAsked_10 l dC dI L kd tys fr_305 H.size g.2.2.2.1 a0_ ma0_ ka0_ 0 kb_0 q0_ mq0_ kq0_ q1_ mq1_ kq1_ q2_ mq2_ kq2_ q3_ mq3_ kq3_ q9_ mq9_ kq9_ y0_ by0_ x_321 h_322 y2_ by2_ y4_ by4_ y5_ by5_ T_ (fun j9 => jOK fr_305 q3_ j9) hG_358 hG_355 hG_356 (fun _ h9 => h9) (g.fcts [4, 5, 6, 7, 10, 11, 12, 13, 1, 2, 15, 16, 17] rfl)) (cwV 1 hts (gV_ t_1178 t_1180 t_13 t_183 t_1181) rfl rfl rfl (by decide +kernel) ⟨(Nat.le_of_ble_eq_true rfl), (Nat.le_of_ble_eq_true rfl)⟩) (pre3V g hK ma0_ ka0_ (by decide) (q := (RX2, TX2, 16)) rfl) rfl rfl hl.1 rfl (lv_room (Nat.le_of_ble_eq_true rfl)) dX2_readMark_195 ⟨(Nat.le_of_ble_eq_true rfl), (Nat.le_of_ble_eq_true rfl)⟩) g hK (by decide) (by decide) (fx' := [(7, 13, q3_, .int x_321), (6, 12, q5_, .int y_191), (2, 0, a0_, .ref q0_), (2, 1, a0_, .ref q1_), (2, 2, a0_, .ref q2_), (2, 3, a0_, .ref q3_), (2, 4, a0_, .ref q4_), (2, 5, a0_, .ref q5_), (0, 0, q2_, .ref q0_), (0, 1, q2_, .ref q1_), (5, 0, q1_, .ref q3_), (5, 1, q1_, .ref q9_), (9, 8, q4_, .int y1_), (7, 3, q3_, .int y2_), (5, 2, q1_, .int y4_), (7, 1, q3_, .int y5_)]) rfl (fun fr_359 H locs hp hMr_359 g => ?_)
            rcases hp with ⟨hG_360, hG_361, hG_362, hG_363, hF_364⟩ | ⟨hG_365, hG_366, x_367, h_368, x_369, h_370, hF_371⟩
            · have g := g.more hF_364
              have hs_372 := jS.mv hG_357 hG_363
              refine lv_goto (tgt := 234) hx hb dX2_readMark_198 (by decide) ?_
              refine lv_aload_n hx hb dX2_readMark_234 rfl (lv_at hl 2 rfl) ?_
              refine g_getk (C := RX2) (T := TX2) (N := 16) hx hb hts (mc_ inX2) hown hK g rfl 0 (by decide) rfl (hts _ (List.mem_cons_of_mem _ t_416)) (fun _ h9 => h9) 6 rfl dX2_readMark_235 ?_
              refine lv_bipush (v := 59) hx hb dX2_readMark_238 (by decide) ?_
              have go_ := g
              refine g_callv (va_runV (As := [.int 59]) (rest := []) ⟨hx, hb, hml, hown, hts⟩ (r_X8_take l dC dI L kd tys fr_359 H.size g.2.2.2.1 q0_ mq0_ kq0_ 59 y0_ by0_ (g.fcts [3] rfl)) (cwV 1 hts (gV_ t_1098 t_1099 t_1100 t_184 t_1101) rfl rfl rfl (by decide +kernel) ⟨(Nat.le_of_ble_eq_true rfl), (Nat.le_of_ble_eq_true rfl)⟩) (pre3V g hK mq0_ kq0_ (by decide) (q := (RX8, TX8, 10)) rfl) rfl rfl hl.1 rfl (lv_room (Nat.le_of_ble_eq_true rfl)) dX2_readMark_240 ⟨(Nat.le_of_ble_eq_true rfl), (Nat.le_of_ble_eq_true rfl)⟩) g hK (by decide) (by decide) (fx' := [(5, 8, q1_, .int 0), (5, 7, q1_, .int 0), (0, 2, q2_, .ref q3_), (7, 13, q3_, .int x_321), (6, 12, q5_, .int y_191), (2, 0, a0_, .ref q0_), (2, 1, a0_, .ref q1_), (2, 2, a0_, .ref q2_), (2, 3, a0_, .ref q3_), (2, 4, a0_, .ref q4_), (2, 5, a0_, .ref q5_), (0, 0, q2_, .ref q0_), (0, 1, q2_, .ref q1_), (5, 0, q1_, .ref q3_), (5, 1, q1_, .ref q9_), (9, 8, q4_, .int y1_), (7, 3, q3_, .int y2_), (5, 2, q1_, .int y4_), (7, 1, q3_, .int y5_)]) rfl (fun fr_373 H locs hp hMr_373 g => ?_)
              rcases hp with ⟨x_374, h_375, hF_376⟩ | ⟨x_377, h_378, hF_379⟩
              · have hG_380 := cOK.frame hMr_373 go_.2.2.2.1 mq3_ kq3_ (by decide) (by decide) hG_361
                have hG_381 := dOK.frame hMr_373 go_.2.2.2.1 mq3_ kq3_ (by decide) (by decide) hG_362
                have hG_382 := jS.frame hMr_373 go_.2.2.2.1 mq3_ kq3_ (by decide) (by decide) hs_372
                have hG_383 := eOK.frame hMr_373 go_.2.2.2.1 mq2_ kq2_ (by decide) (by decide) hG_360
                have g := g.more hF_376
                subst hQ
                exact W.vret hx hb hr (fun t ht hW => ⟨⟨_, rfl, Or.inl ⟨hG_380, hG_381, hG_382, hG_383, b_12, x_374, h_375, x_321, h_322, y_191, b_192, (g.fcts [0, 1, 5, 6] rfl)⟩, q3_of g hK ht hW⟩, g.2.2.1.F ht⟩) g.2.2.1.2.2 dX2_readMark_243
              · have hG_384 := cOK.frame hMr_373 go_.2.2.2.1 mq3_ kq3_ (by decide) (by decide) hG_361
                have hG_385 := dOK.frame hMr_373 go_.2.2.2.1 mq3_ kq3_ (by decide) (by decide) hG_362
                have hG_386 := jS.frame hMr_373 go_.2.2.2.1 mq3_ kq3_ (by decide) (by decide) hs_372
                have hG_387 := eOK.frame hMr_373 go_.2.2.2.1 mq2_ kq2_ (by decide) (by decide) hG_360
                have g := g.more hF_379
                have kb_1201 : bd 1201 1201 (1201 : Int32) := ⟨by decide, by decide⟩
                subst hQ
                exact W.vret hx hb hr (fun t ht hW => ⟨⟨_, rfl, Or.inr (⟨hG_385, hG_387, 1201, kb_1201, x_377, h_378, x_321, h_322, y_191, (bd_sub b_192 (by decide)), (g.fcts [0, 1, 5, 6] rfl)⟩), q3_of g hK ht hW⟩, g.2.2.1.F ht⟩) g.2.2.1.2.2 dX2_readMark_243
            · have g := g.more hF_371
              refine lv_goto (tgt := 234) hx hb dX2_readMark_198 (by decide) ?_
              refine lv_aload_n hx hb dX2_readMark_234 rfl (lv_at hl 2 rfl) ?_
              refine g_getk (C := RX2) (T := TX2) (N := 16) hx hb hts (mc_ inX2) hown hK g rfl 0 (by decide) rfl (hts _ (List.mem_cons_of_mem _ t_416)) (fun _ h9 => h9) 7 rfl dX2_readMark_235 ?_
              refine lv_bipush (v := 59) hx hb dX2_readMark_238 (by decide) ?_
              have go_ := g
              refine g_callv (va_runV (As := [.int 59]) (rest := []) ⟨hx, hb, hml, hown, hts⟩ (r_X8_take_2 l dC dI L kd tys fr_359 H.size g.2.2.2.1 q0_ mq0_ kq0_ 59 x_367 h_368 x_369 h_370 (g.fcts [2, 3] rfl)) (cwV 1 hts (gV_ t_1098 t_1099 t_1100 t_184 t_1101) rfl rfl rfl (by decide +kernel) ⟨(Nat.le_of_ble_eq_true rfl), (Nat.le_of_ble_eq_true rfl)⟩) (pre3V g hK mq0_ kq0_ (by decide) (q := (RX8, TX8, 10)) rfl) rfl rfl hl.1 rfl (lv_room (Nat.le_of_ble_eq_true rfl)) dX2_readMark_240 ⟨(Nat.le_of_ble_eq_true rfl), (Nat.le_of_ble_eq_true rfl)⟩) g hK (by decide) (by decide) (fx' := [(5, 8, q1_, .int 0), (5, 7, q1_, .int 0), (8, 8, q0_, .int x_369), (0, 2, q2_, .ref q3_), (7, 13, q3_, .int x_321), (6, 12, q5_, .int y_191), (2, 0, a0_, .ref q0_), (2, 1, a0_, .ref q1_), (2, 2, a0_, .ref q2_), (2, 3, a0_, .ref q3_), (2, 4, a0_, .ref q4_), (2, 5, a0_, .ref q5_), (0, 0, q2_, .ref q0_), (0, 1, q2_, .ref q1_), (5, 0, q1_, .ref q3_), (5, 1, q1_, .ref q9_), (9, 8, q4_, .int y1_), (7, 3, q3_, .int y2_), (5, 2, q1_, .int y4_), (7, 1, q3_, .int y5_)]) rfl (fun fr_388 H locs hp hMr_388 g => ?_)
              obtain ⟨x_389, h_390, hF_391⟩ := hp
              have hG_392 := dOK.frame hMr_388 go_.2.2.2.1 mq3_ kq3_ (by decide) (by decide) hG_366
              have hG_393 := eOK.frame hMr_388 go_.2.2.2.1 mq2_ kq2_ (by decide) (by decide) hG_365
              have g := g.more hF_391
              subst hQ
              exact W.vret hx hb hr (fun t ht hW => ⟨⟨_, rfl, Or.inr (⟨hG_392, hG_393, x_389, h_390, x_369, h_370, x_321, h_322, y_191, (bd_sub b_192 (by decide)), (g.fcts [0, 3, 5, 6] rfl)⟩), q3_of g hK ht hW⟩, g.2.2.1.F ht⟩) g.2.2.1.2.2 dX2_readMark_243
        by_cases e_394 : r_1 = 19
        · refine lv_topi (fun z_395 ez_395 => ?_)
          obtain rfl : z_395 = 19 := ez_395.trans e_394
          have kb_19 : bd 19 19 (19 : Int32) := ⟨by decide, by decide⟩
          have b_396 : bd 19 19 r_1 := eqX (eq_f e_394) (bdT r_1) kb_19 (by decide)
          refine lv_tableIn (off := 117) (tgt := 208) hx hb dX2_readMark_91 (by decide) (by decide) rfl (by decide) ?_
          refine lv_aload_n hx hb dX2_readMark_208 rfl (lv_at hl 2 rfl) ?_
          refine g_getk (C := RX2) (T := TX2) (N := 16) hx hb hts (mc_ inX2) hown hK g rfl 3 (by decide) rfl (hts _ (List.mem_cons_of_mem _ t_419)) (fun _ h9 => h9) 5 rfl dX2_readMark_209 ?_
          refine lv_bipush (v := 6) hx hb dX2_readMark_212 (by decide) ?_
          refine lv_aload_n hx hb dX2_readMark_214 rfl (lv_at hl 2 rfl) ?_
          refine g_getk (C := RX2) (T := TX2) (N := 16) hx hb hts (mc_ inX2) hown hK g rfl 1 (by decide) rfl (hts _ (List.mem_cons_of_mem _ t_417)) (fun _ h9 => h9) 3 rfl dX2_readMark_215 ?_
          refine g_getk (C := RX5) (T := TX5) (N := 9) hx hb hts (mc_ inX5) hown hK g rfl 2 (by decide) rfl (hts _ (List.mem_cons_of_mem _ t_333)) (fun _ h9 => h9) 15 rfl dX2_readMark_218 ?_
          refine lv_iload_n hx hb dX2_readMark_221 rfl (lv_at hl 0 rfl) ?_
          have go_ := g
          refine g_calli (va_runV (As := [.int 6, .int y4_, .int r_6]) (rest := []) ⟨hx, hb, hml, hown, hts⟩ (r_X7_addMark l dC dI L kd tys f H.size g.2.2.2.1 q3_ mq3_ kq3_ 6 y4_ r_6) (cwV 3 hts (gV_ t_1173 t_1174 t_1175 t_191 t_1176) rfl rfl rfl (by decide +kernel) ⟨(Nat.le_of_ble_eq_true rfl), (Nat.le_of_ble_eq_true rfl)⟩) (pre3V g hK mq3_ kq3_ (by decide) (q := (RX7, TX7, 19)) rfl) rfl rfl hl.1 rfl (lv_room (Nat.le_of_ble_eq_true rfl)) dX2_readMark_222 ⟨(Nat.le_of_ble_eq_true rfl), (Nat.le_of_ble_eq_true rfl)⟩) g hK (by decide) (by decide) (fx' := [(6, 12, q5_, .int y_191), (8, 6, q0_, .int x_14), (2, 0, a0_, .ref q0_), (2, 1, a0_, .ref q1_), (2, 2, a0_, .ref q2_), (2, 3, a0_, .ref q3_), (2, 4, a0_, .ref q4_), (2, 5, a0_, .ref q5_), (0, 0, q2_, .ref q0_), (0, 1, q2_, .ref q1_), (5, 0, q1_, .ref q3_), (5, 1, q1_, .ref q9_), (8, 8, q0_, .int y0_), (9, 8, q4_, .int y1_), (7, 3, q3_, .int y2_), (5, 2, q1_, .int y4_), (7, 1, q3_, .int y5_)]) rfl (fun r_397 fr_397 H locs hp hMr_397 g => ?_)
          obtain ⟨h_398, x_399, h_400, hF_401⟩ := hp
          have hG_402 := cOK.frame hMr_397 go_.2.2.2.1 mq3_ kq3_ (by decide) (by decide) hG_194
          have hG_403 := dOK.frame hMr_397 go_.2.2.2.1 mq3_ kq3_ (by decide) (by decide) hG_195
          have hG_404 := jS.frame hMr_397 go_.2.2.2.1 mq3_ kq3_ (by decide) (by decide) hG_196
          have hG_405 := eOK.frame hMr_397 go_.2.2.2.1 mq2_ kq2_ (by decide) (by decide) hG_197
          have g := g.more hF_401
          refine lv_pop hx hb dX2_readMark_225 rfl ?_
          refine lv_aload_n hx hb dX2_readMark_226 rfl (lv_at hl 2 rfl) ?_
          refine g_getk (C := RX2) (T := TX2) (N := 16) hx hb hts (mc_ inX2) hown hK g rfl 5 (by decide) rfl (hts _ (List.mem_cons_of_mem _ t_421)) (fun _ h9 => h9) 8 rfl dX2_readMark_227 ?_
          refine lv_iconst (v := 1) hx hb dX2_readMark_230 (by decide) ?_
          have go_ := g
          refine g_put (C := RX6) (T := TX6) (N := 13) hx hb hts (mc_ inX6) tyX6 tyX6_ok nmX6 hown hK g mq5_ kq5_ (by decide) rfl 6 (by decide) (hts _ (List.mem_cons_of_mem _ t_578)) (fun _ h9 => h9) rfl rfl (okV_i (bd_sub kb_1 (by decide))) rfl rfl (by decide) (Or.inr (Or.inl (by decide))) (fx' := [(7, 13, q3_, .int x_399), (6, 12, q5_, .int y_191), (8, 6, q0_, .int x_14), (2, 0, a0_, .ref q0_), (2, 1, a0_, .ref q1_), (2, 2, a0_, .ref q2_), (2, 3, a0_, .ref q3_), (2, 4, a0_, .ref q4_), (2, 5, a0_, .ref q5_), (0, 0, q2_, .ref q0_), (0, 1, q2_, .ref q1_), (5, 0, q1_, .ref q3_), (5, 1, q1_, .ref q9_), (8, 8, q0_, .int y0_), (9, 8, q4_, .int y1_), (7, 3, q3_, .int y2_), (5, 2, q1_, .int y4_), (7, 1, q3_, .int y5_)]) rfl dX2_readMark_231 (fun f H locs hM_406 g => ?_)
          have hG_407 := cOK.frame hM_406 go_.2.2.2.1 mq3_ kq3_ (by decide) (by decide) hG_402
          have hG_408 := dOK.frame hM_406 go_.2.2.2.1 mq3_ kq3_ (by decide) (by decide) hG_403
          have hG_409 := jS.frame hM_406 go_.2.2.2.1 mq3_ kq3_ (by decide) (by decide) hG_404
          have hG_410 := eOK.frame hM_406 go_.2.2.2.1 mq2_ kq2_ (by decide) (by decide) hG_405
          refine lv_aload_n hx hb dX2_readMark_234 rfl (lv_at hl 2 rfl) ?_
          refine g_getk (C := RX2) (T := TX2) (N := 16) hx hb hts (mc_ inX2) hown hK g rfl 0 (by decide) rfl (hts _ (List.mem_cons_of_mem _ t_416)) (fun _ h9 => h9) 4 rfl dX2_readMark_235 ?_
          refine lv_bipush (v := 59) hx hb dX2_readMark_238 (by decide) ?_
          have go_ := g
          refine g_callv (va_runV (As := [.int 59]) (rest := []) ⟨hx, hb, hml, hown, hts⟩ (r_X8_take l dC dI L kd tys f H.size g.2.2.2.1 q0_ mq0_ kq0_ 59 y0_ by0_ (g.fcts [14] rfl)) (cwV 1 hts (gV_ t_1098 t_1099 t_1100 t_184 t_1101) rfl rfl rfl (by decide +kernel) ⟨(Nat.le_of_ble_eq_true rfl), (Nat.le_of_ble_eq_true rfl)⟩) (pre3V g hK mq0_ kq0_ (by decide) (q := (RX8, TX8, 10)) rfl) rfl rfl hl.1 rfl (lv_room (Nat.le_of_ble_eq_true rfl)) dX2_readMark_240 ⟨(Nat.le_of_ble_eq_true rfl), (Nat.le_of_ble_eq_true rfl)⟩) g hK (by decide) (by decide) (fx' := [(6, 6, q5_, .int 1), (7, 13, q3_, .int x_399), (6, 12, q5_, .int y_191), (2, 0, a0_, .ref q0_), (2, 1, a0_, .ref q1_), (2, 2, a0_, .ref q2_), (2, 3, a0_, .ref q3_), (2, 4, a0_, .ref q4_), (2, 5, a0_, .ref q5_), (0, 0, q2_, .ref q0_), (0, 1, q2_, .ref q1_), (5, 0, q1_, .ref q3_), (5, 1, q1_, .ref q9_), (9, 8, q4_, .int y1_), (7, 3, q3_, .int y2_), (5, 2, q1_, .int y4_), (7, 1, q3_, .int y5_)]) rfl (fun fr_411 H locs hp hMr_411 g => ?_)
          rcases hp with ⟨x_412, h_413, hF_414⟩ | ⟨x_415, h_416, hF_417⟩
          · have hG_418 := cOK.frame hMr_411 go_.2.2.2.1 mq3_ kq3_ (by decide) (by decide) hG_407
            have hG_419 := dOK.frame hMr_411 go_.2.2.2.1 mq3_ kq3_ (by decide) (by decide) hG_408
            have hG_420 := jS.frame hMr_411 go_.2.2.2.1 mq3_ kq3_ (by decide) (by decide) hG_409
            have hG_421 := eOK.frame hMr_411 go_.2.2.2.1 mq2_ kq2_ (by decide) (by decide) hG_410
            have g := g.more hF_414
            subst hQ
            exact W.vret hx hb hr (fun t ht hW => ⟨⟨_, rfl, Or.inl ⟨hG_418, hG_419, hG_420, hG_421, b_12, x_412, h_413, x_399, h_400, y_191, b_192, (g.fcts [0, 1, 3, 4] rfl)⟩, q3_of g hK ht hW⟩, g.2.2.1.F ht⟩) g.2.2.1.2.2 dX2_readMark_243
          · have hG_422 := cOK.frame hMr_411 go_.2.2.2.1 mq3_ kq3_ (by decide) (by decide) hG_407
            have hG_423 := dOK.frame hMr_411 go_.2.2.2.1 mq3_ kq3_ (by decide) (by decide) hG_408
            have hG_424 := jS.frame hMr_411 go_.2.2.2.1 mq3_ kq3_ (by decide) (by decide) hG_409
            have hG_425 := eOK.frame hMr_411 go_.2.2.2.1 mq2_ kq2_ (by decide) (by decide) hG_410
            have g := g.more hF_417
            have kb_1201 : bd 1201 1201 (1201 : Int32) := ⟨by decide, by decide⟩
            subst hQ
            exact W.vret hx hb hr (fun t ht hW => ⟨⟨_, rfl, Or.inr (⟨hG_423, hG_425, 1201, kb_1201, x_415, h_416, x_399, h_400, y_191, (bd_sub b_192 (by decide)), (g.fcts [0, 1, 3, 4] rfl)⟩), q3_of g hK ht hW⟩, g.2.2.1.F ht⟩) g.2.2.1.2.2 dX2_readMark_243
        by_cases e_426 : r_1 = 20
        · refine lv_topi (fun z_427 ez_427 => ?_)
          obtain rfl : z_427 = 20 := ez_427.trans e_426
          have b_428 : bd 20 20 r_1 := eqX (eq_f e_426) (bdT r_1) kb_20 (by decide)
          refine lv_tableIn (off := 110) (tgt := 201) hx hb dX2_readMark_91 (by decide) (by decide) rfl (by decide) ?_
          refine lv_aload_n hx hb dX2_readMark_201 rfl (lv_at hl 2 rfl) ?_
          have go_ := g
          refine g_callv (va_runV (As := []) (rest := []) ⟨hx, hb, hml, hown, hts⟩ (r_X2_readOnly l dC dI L kd tys f H.size g.2.2.2.1 a0_ ma0_ ka0_ q0_ mq0_ kq0_ q3_ mq3_ kq3_ q4_ mq4_ kq4_ y0_ by0_ (g.fcts [2, 5, 6, 12] rfl)) (cwV 0 hts (gV_ t_1330 t_1332 t_38 t_183 t_1333) rfl rfl rfl (by decide +kernel) ⟨(Nat.le_of_ble_eq_true rfl), (Nat.le_of_ble_eq_true rfl)⟩) (pre3V g hK ma0_ ka0_ (by decide) (q := (RX2, TX2, 16)) rfl) rfl rfl hl.1 rfl (lv_room (Nat.le_of_ble_eq_true rfl)) dX2_readMark_202 ⟨(Nat.le_of_ble_eq_true rfl), (Nat.le_of_ble_eq_true rfl)⟩) g hK (by decide) (by decide) (fx' := [(6, 12, q5_, .int y_191), (2, 0, a0_, .ref q0_), (2, 1, a0_, .ref q1_), (2, 2, a0_, .ref q2_), (2, 3, a0_, .ref q3_), (2, 4, a0_, .ref q4_), (2, 5, a0_, .ref q5_), (0, 0, q2_, .ref q0_), (0, 1, q2_, .ref q1_), (5, 0, q1_, .ref q3_), (5, 1, q1_, .ref q9_), (9, 8, q4_, .int y1_), (7, 3, q3_, .int y2_), (5, 2, q1_, .int y4_), (7, 1, q3_, .int y5_)]) rfl (fun fr_429 H locs hp hMr_429 g => ?_)
          rcases hp with ⟨x_430, h_431, hF_432⟩ | ⟨x_433, h_434, x_435, h_436, hF_437⟩
          · have hG_438 := cOK.frame hMr_429 go_.2.2.2.1 mq3_ kq3_ (by decide) (by decide) hG_194
            have hG_439 := dOK.frame hMr_429 go_.2.2.2.1 mq3_ kq3_ (by decide) (by decide) hG_195
            have hG_440 := jS.frame hMr_429 go_.2.2.2.1 mq3_ kq3_ (by decide) (by decide) hG_196
            have hG_441 := eOK.frame hMr_429 go_.2.2.2.1 mq2_ kq2_ (by decide) (by decide) hG_197
            have g := g.more hF_432
            refine lv_goto (tgt := 234) hx hb dX2_readMark_205 (by decide) ?_
            refine lv_aload_n hx hb dX2_readMark_234 rfl (lv_at hl 2 rfl) ?_
            refine g_getk (C := RX2) (T := TX2) (N := 16) hx hb hts (mc_ inX2) hown hK g rfl 0 (by decide) rfl (hts _ (List.mem_cons_of_mem _ t_416)) (fun _ h9 => h9) 3 rfl dX2_readMark_235 ?_
            refine lv_bipush (v := 59) hx hb dX2_readMark_238 (by decide) ?_
            have go_ := g
            refine g_callv (va_runV (As := [.int 59]) (rest := []) ⟨hx, hb, hml, hown, hts⟩ (r_X8_take l dC dI L kd tys fr_429 H.size g.2.2.2.1 q0_ mq0_ kq0_ 59 y0_ by0_ (g.fcts [1] rfl)) (cwV 1 hts (gV_ t_1098 t_1099 t_1100 t_184 t_1101) rfl rfl rfl (by decide +kernel) ⟨(Nat.le_of_ble_eq_true rfl), (Nat.le_of_ble_eq_true rfl)⟩) (pre3V g hK mq0_ kq0_ (by decide) (q := (RX8, TX8, 10)) rfl) rfl rfl hl.1 rfl (lv_room (Nat.le_of_ble_eq_true rfl)) dX2_readMark_240 ⟨(Nat.le_of_ble_eq_true rfl), (Nat.le_of_ble_eq_true rfl)⟩) g hK (by decide) (by decide) (fx' := [(7, 13, q3_, .int x_430), (6, 12, q5_, .int y_191), (2, 0, a0_, .ref q0_), (2, 1, a0_, .ref q1_), (2, 2, a0_, .ref q2_), (2, 3, a0_, .ref q3_), (2, 4, a0_, .ref q4_), (2, 5, a0_, .ref q5_), (0, 0, q2_, .ref q0_), (0, 1, q2_, .ref q1_), (5, 0, q1_, .ref q3_), (5, 1, q1_, .ref q9_), (9, 8, q4_, .int y1_), (7, 3, q3_, .int y2_), (5, 2, q1_, .int y4_), (7, 1, q3_, .int y5_)]) rfl (fun fr_442 H locs hp hMr_442 g => ?_)
            rcases hp with ⟨x_443, h_444, hF_445⟩ | ⟨x_446, h_447, hF_448⟩
            · have hG_449 := cOK.frame hMr_442 go_.2.2.2.1 mq3_ kq3_ (by decide) (by decide) hG_438
              have hG_450 := dOK.frame hMr_442 go_.2.2.2.1 mq3_ kq3_ (by decide) (by decide) hG_439
              have hG_451 := jS.frame hMr_442 go_.2.2.2.1 mq3_ kq3_ (by decide) (by decide) hG_440
              have hG_452 := eOK.frame hMr_442 go_.2.2.2.1 mq2_ kq2_ (by decide) (by decide) hG_441
              have g := g.more hF_445
              subst hQ
              exact W.vret hx hb hr (fun t ht hW => ⟨⟨_, rfl, Or.inl ⟨hG_449, hG_450, hG_451, hG_452, b_12, x_443, h_444, x_430, h_431, y_191, b_192, (g.fcts [0, 1, 2, 3] rfl)⟩, q3_of g hK ht hW⟩, g.2.2.1.F ht⟩) g.2.2.1.2.2 dX2_readMark_243
            · have hG_453 := cOK.frame hMr_442 go_.2.2.2.1 mq3_ kq3_ (by decide) (by decide) hG_438
              have hG_454 := dOK.frame hMr_442 go_.2.2.2.1 mq3_ kq3_ (by decide) (by decide) hG_439
              have hG_455 := jS.frame hMr_442 go_.2.2.2.1 mq3_ kq3_ (by decide) (by decide) hG_440
              have hG_456 := eOK.frame hMr_442 go_.2.2.2.1 mq2_ kq2_ (by decide) (by decide) hG_441
              have g := g.more hF_448
              have kb_1201 : bd 1201 1201 (1201 : Int32) := ⟨by decide, by decide⟩
              subst hQ
              exact W.vret hx hb hr (fun t ht hW => ⟨⟨_, rfl, Or.inr (⟨hG_454, hG_456, 1201, kb_1201, x_446, h_447, x_430, h_431, y_191, (bd_sub b_192 (by decide)), (g.fcts [0, 1, 2, 3] rfl)⟩), q3_of g hK ht hW⟩, g.2.2.1.F ht⟩) g.2.2.1.2.2 dX2_readMark_243
          · have hG_457 := cOK.frame hMr_429 go_.2.2.2.1 mq3_ kq3_ (by decide) (by decide) hG_194
            have hG_458 := dOK.frame hMr_429 go_.2.2.2.1 mq3_ kq3_ (by decide) (by decide) hG_195
            have hG_459 := jS.frame hMr_429 go_.2.2.2.1 mq3_ kq3_ (by decide) (by decide) hG_196
            have hG_460 := eOK.frame hMr_429 go_.2.2.2.1 mq2_ kq2_ (by decide) (by decide) hG_197
            have g := g.more hF_437
            refine lv_goto (tgt := 234) hx hb dX2_readMark_205 (by decide) ?_
            refine lv_aload_n hx hb dX2_readMark_234 rfl (lv_at hl 2 rfl) ?_
            refine g_getk (C := RX2) (T := TX2) (N := 16) hx hb hts (mc_ inX2) hown hK g rfl 0 (by decide) rfl (hts _ (List.mem_cons_of_mem _ t_416)) (fun _ h9 => h9) 4 rfl dX2_readMark_235 ?_
            refine lv_bipush (v := 59) hx hb dX2_readMark_238 (by decide) ?_
            have kb_1201 : bd 1201 1201 (1201 : Int32) := ⟨by decide, by decide⟩
            have go_ := g
            refine g_callv (va_runV (As := [.int 59]) (rest := []) ⟨hx, hb, hml, hown, hts⟩ (r_X8_take_2 l dC dI L kd tys fr_429 H.size g.2.2.2.1 q0_ mq0_ kq0_ 59 1201 kb_1201 x_433 h_434 (g.fcts [0, 1] rfl)) (cwV 1 hts (gV_ t_1098 t_1099 t_1100 t_184 t_1101) rfl rfl rfl (by decide +kernel) ⟨(Nat.le_of_ble_eq_true rfl), (Nat.le_of_ble_eq_true rfl)⟩) (pre3V g hK mq0_ kq0_ (by decide) (q := (RX8, TX8, 10)) rfl) rfl rfl hl.1 rfl (lv_room (Nat.le_of_ble_eq_true rfl)) dX2_readMark_240 ⟨(Nat.le_of_ble_eq_true rfl), (Nat.le_of_ble_eq_true rfl)⟩) g hK (by decide) (by decide) (fx' := [(8, 8, q0_, .int x_433), (7, 13, q3_, .int x_435), (6, 12, q5_, .int y_191), (2, 0, a0_, .ref q0_), (2, 1, a0_, .ref q1_), (2, 2, a0_, .ref q2_), (2, 3, a0_, .ref q3_), (2, 4, a0_, .ref q4_), (2, 5, a0_, .ref q5_), (0, 0, q2_, .ref q0_), (0, 1, q2_, .ref q1_), (5, 0, q1_, .ref q3_), (5, 1, q1_, .ref q9_), (9, 8, q4_, .int y1_), (7, 3, q3_, .int y2_), (5, 2, q1_, .int y4_), (7, 1, q3_, .int y5_)]) rfl (fun fr_461 H locs hp hMr_461 g => ?_)
            obtain ⟨x_462, h_463, hF_464⟩ := hp
            have hG_465 := cOK.frame hMr_461 go_.2.2.2.1 mq3_ kq3_ (by decide) (by decide) hG_457
            have hG_466 := dOK.frame hMr_461 go_.2.2.2.1 mq3_ kq3_ (by decide) (by decide) hG_458
            have hG_467 := jS.frame hMr_461 go_.2.2.2.1 mq3_ kq3_ (by decide) (by decide) hG_459
            have hG_468 := eOK.frame hMr_461 go_.2.2.2.1 mq2_ kq2_ (by decide) (by decide) hG_460
            have g := g.more hF_464
            subst hQ
            exact W.vret hx hb hr (fun t ht hW => ⟨⟨_, rfl, Or.inr (⟨hG_466, hG_468, x_462, h_463, x_433, h_434, x_435, h_436, y_191, (bd_sub b_192 (by decide)), (g.fcts [0, 1, 2, 3] rfl)⟩), q3_of g hK ht hW⟩, g.2.2.1.F ht⟩) g.2.2.1.2.2 dX2_readMark_243
        refine lv_tableOut (tgt := 208) hx hb dX2_readMark_91 (by have a0 : r_1.toInt ≠ 16 := fun h => e_198 (Int32.toInt_inj.mp (h.trans (by decide))); have a1 : r_1.toInt ≠ 17 := fun h => e_250 (Int32.toInt_inj.mp (h.trans (by decide))); have a2 : r_1.toInt ≠ 18 := fun h => e_302 (Int32.toInt_inj.mp (h.trans (by decide))); have a3 : r_1.toInt ≠ 19 := fun h => e_394 (Int32.toInt_inj.mp (h.trans (by decide))); have a4 : r_1.toInt ≠ 20 := fun h => e_426 (Int32.toInt_inj.mp (h.trans (by decide))); omega) (by decide) ?_
        refine lv_aload_n hx hb dX2_readMark_208 rfl (lv_at hl 2 rfl) ?_
        refine g_getk (C := RX2) (T := TX2) (N := 16) hx hb hts (mc_ inX2) hown hK g rfl 3 (by decide) rfl (hts _ (List.mem_cons_of_mem _ t_419)) (fun _ h9 => h9) 5 rfl dX2_readMark_209 ?_
        refine lv_bipush (v := 6) hx hb dX2_readMark_212 (by decide) ?_
        refine lv_aload_n hx hb dX2_readMark_214 rfl (lv_at hl 2 rfl) ?_
        refine g_getk (C := RX2) (T := TX2) (N := 16) hx hb hts (mc_ inX2) hown hK g rfl 1 (by decide) rfl (hts _ (List.mem_cons_of_mem _ t_417)) (fun _ h9 => h9) 3 rfl dX2_readMark_215 ?_
        refine g_getk (C := RX5) (T := TX5) (N := 9) hx hb hts (mc_ inX5) hown hK g rfl 2 (by decide) rfl (hts _ (List.mem_cons_of_mem _ t_333)) (fun _ h9 => h9) 15 rfl dX2_readMark_218 ?_
        refine lv_iload_n hx hb dX2_readMark_221 rfl (lv_at hl 0 rfl) ?_
        have go_ := g
        refine g_calli (va_runV (As := [.int 6, .int y4_, .int r_6]) (rest := []) ⟨hx, hb, hml, hown, hts⟩ (r_X7_addMark l dC dI L kd tys f H.size g.2.2.2.1 q3_ mq3_ kq3_ 6 y4_ r_6) (cwV 3 hts (gV_ t_1173 t_1174 t_1175 t_191 t_1176) rfl rfl rfl (by decide +kernel) ⟨(Nat.le_of_ble_eq_true rfl), (Nat.le_of_ble_eq_true rfl)⟩) (pre3V g hK mq3_ kq3_ (by decide) (q := (RX7, TX7, 19)) rfl) rfl rfl hl.1 rfl (lv_room (Nat.le_of_ble_eq_true rfl)) dX2_readMark_222 ⟨(Nat.le_of_ble_eq_true rfl), (Nat.le_of_ble_eq_true rfl)⟩) g hK (by decide) (by decide) (fx' := [(6, 12, q5_, .int y_191), (8, 6, q0_, .int x_14), (2, 0, a0_, .ref q0_), (2, 1, a0_, .ref q1_), (2, 2, a0_, .ref q2_), (2, 3, a0_, .ref q3_), (2, 4, a0_, .ref q4_), (2, 5, a0_, .ref q5_), (0, 0, q2_, .ref q0_), (0, 1, q2_, .ref q1_), (5, 0, q1_, .ref q3_), (5, 1, q1_, .ref q9_), (8, 8, q0_, .int y0_), (9, 8, q4_, .int y1_), (7, 3, q3_, .int y2_), (5, 2, q1_, .int y4_), (7, 1, q3_, .int y5_)]) rfl (fun r_469 fr_469 H locs hp hMr_469 g => ?_)
        obtain ⟨h_470, x_471, h_472, hF_473⟩ := hp
        have hG_474 := cOK.frame hMr_469 go_.2.2.2.1 mq3_ kq3_ (by decide) (by decide) hG_194
        have hG_475 := dOK.frame hMr_469 go_.2.2.2.1 mq3_ kq3_ (by decide) (by decide) hG_195
        have hG_476 := jS.frame hMr_469 go_.2.2.2.1 mq3_ kq3_ (by decide) (by decide) hG_196
        have hG_477 := eOK.frame hMr_469 go_.2.2.2.1 mq2_ kq2_ (by decide) (by decide) hG_197
        have g := g.more hF_473
        refine lv_pop hx hb dX2_readMark_225 rfl ?_
        refine lv_aload_n hx hb dX2_readMark_226 rfl (lv_at hl 2 rfl) ?_
        refine g_getk (C := RX2) (T := TX2) (N := 16) hx hb hts (mc_ inX2) hown hK g rfl 5 (by decide) rfl (hts _ (List.mem_cons_of_mem _ t_421)) (fun _ h9 => h9) 8 rfl dX2_readMark_227 ?_
        refine lv_iconst (v := 1) hx hb dX2_readMark_230 (by decide) ?_
        have go_ := g
        refine g_put (C := RX6) (T := TX6) (N := 13) hx hb hts (mc_ inX6) tyX6 tyX6_ok nmX6 hown hK g mq5_ kq5_ (by decide) rfl 6 (by decide) (hts _ (List.mem_cons_of_mem _ t_578)) (fun _ h9 => h9) rfl rfl (okV_i (bd_sub kb_1 (by decide))) rfl rfl (by decide) (Or.inr (Or.inl (by decide))) (fx' := [(7, 13, q3_, .int x_471), (6, 12, q5_, .int y_191), (8, 6, q0_, .int x_14), (2, 0, a0_, .ref q0_), (2, 1, a0_, .ref q1_), (2, 2, a0_, .ref q2_), (2, 3, a0_, .ref q3_), (2, 4, a0_, .ref q4_), (2, 5, a0_, .ref q5_), (0, 0, q2_, .ref q0_), (0, 1, q2_, .ref q1_), (5, 0, q1_, .ref q3_), (5, 1, q1_, .ref q9_), (8, 8, q0_, .int y0_), (9, 8, q4_, .int y1_), (7, 3, q3_, .int y2_), (5, 2, q1_, .int y4_), (7, 1, q3_, .int y5_)]) rfl dX2_readMark_231 (fun f H locs hM_478 g => ?_)
        have hG_479 := cOK.frame hM_478 go_.2.2.2.1 mq3_ kq3_ (by decide) (by decide) hG_474
        have hG_480 := dOK.frame hM_478 go_.2.2.2.1 mq3_ kq3_ (by decide) (by decide) hG_475
        have hG_481 := jS.frame hM_478 go_.2.2.2.1 mq3_ kq3_ (by decide) (by decide) hG_476
        have hG_482 := eOK.frame hM_478 go_.2.2.2.1 mq2_ kq2_ (by decide) (by decide) hG_477
        refine lv_aload_n hx hb dX2_readMark_234 rfl (lv_at hl 2 rfl) ?_
        refine g_getk (C := RX2) (T := TX2) (N := 16) hx hb hts (mc_ inX2) hown hK g rfl 0 (by decide) rfl (hts _ (List.mem_cons_of_mem _ t_416)) (fun _ h9 => h9) 4 rfl dX2_readMark_235 ?_
        refine lv_bipush (v := 59) hx hb dX2_readMark_238 (by decide) ?_
        have go_ := g
        refine g_callv (va_runV (As := [.int 59]) (rest := []) ⟨hx, hb, hml, hown, hts⟩ (r_X8_take l dC dI L kd tys f H.size g.2.2.2.1 q0_ mq0_ kq0_ 59 y0_ by0_ (g.fcts [14] rfl)) (cwV 1 hts (gV_ t_1098 t_1099 t_1100 t_184 t_1101) rfl rfl rfl (by decide +kernel) ⟨(Nat.le_of_ble_eq_true rfl), (Nat.le_of_ble_eq_true rfl)⟩) (pre3V g hK mq0_ kq0_ (by decide) (q := (RX8, TX8, 10)) rfl) rfl rfl hl.1 rfl (lv_room (Nat.le_of_ble_eq_true rfl)) dX2_readMark_240 ⟨(Nat.le_of_ble_eq_true rfl), (Nat.le_of_ble_eq_true rfl)⟩) g hK (by decide) (by decide) (fx' := [(6, 6, q5_, .int 1), (7, 13, q3_, .int x_471), (6, 12, q5_, .int y_191), (2, 0, a0_, .ref q0_), (2, 1, a0_, .ref q1_), (2, 2, a0_, .ref q2_), (2, 3, a0_, .ref q3_), (2, 4, a0_, .ref q4_), (2, 5, a0_, .ref q5_), (0, 0, q2_, .ref q0_), (0, 1, q2_, .ref q1_), (5, 0, q1_, .ref q3_), (5, 1, q1_, .ref q9_), (9, 8, q4_, .int y1_), (7, 3, q3_, .int y2_), (5, 2, q1_, .int y4_), (7, 1, q3_, .int y5_)]) rfl (fun fr_483 H locs hp hMr_483 g => ?_)
        rcases hp with ⟨x_484, h_485, hF_486⟩ | ⟨x_487, h_488, hF_489⟩
        · have hG_490 := cOK.frame hMr_483 go_.2.2.2.1 mq3_ kq3_ (by decide) (by decide) hG_479
          have hG_491 := dOK.frame hMr_483 go_.2.2.2.1 mq3_ kq3_ (by decide) (by decide) hG_480
          have hG_492 := jS.frame hMr_483 go_.2.2.2.1 mq3_ kq3_ (by decide) (by decide) hG_481
          have hG_493 := eOK.frame hMr_483 go_.2.2.2.1 mq2_ kq2_ (by decide) (by decide) hG_482
          have g := g.more hF_486
          subst hQ
          exact W.vret hx hb hr (fun t ht hW => ⟨⟨_, rfl, Or.inl ⟨hG_490, hG_491, hG_492, hG_493, b_12, x_484, h_485, x_471, h_472, y_191, b_192, (g.fcts [0, 1, 3, 4] rfl)⟩, q3_of g hK ht hW⟩, g.2.2.1.F ht⟩) g.2.2.1.2.2 dX2_readMark_243
        · have hG_494 := cOK.frame hMr_483 go_.2.2.2.1 mq3_ kq3_ (by decide) (by decide) hG_479
          have hG_495 := dOK.frame hMr_483 go_.2.2.2.1 mq3_ kq3_ (by decide) (by decide) hG_480
          have hG_496 := jS.frame hMr_483 go_.2.2.2.1 mq3_ kq3_ (by decide) (by decide) hG_481
          have hG_497 := eOK.frame hMr_483 go_.2.2.2.1 mq2_ kq2_ (by decide) (by decide) hG_482
          have g := g.more hF_489
          have kb_1201 : bd 1201 1201 (1201 : Int32) := ⟨by decide, by decide⟩
          subst hQ
          exact W.vret hx hb hr (fun t ht hW => ⟨⟨_, rfl, Or.inr (⟨hG_495, hG_497, 1201, kb_1201, x_487, h_488, x_471, h_472, y_191, (bd_sub b_192 (by decide)), (g.fcts [0, 1, 3, 4] rfl)⟩), q3_of g hK ht hW⟩, g.2.2.1.F ht⟩) g.2.2.1.2.2 dX2_readMark_243
      · have fc_190 := eq_f c_190
        have b_498 : bd 21 21 r_1 := eqX fc_190 (bdT r_1) kb_21 (by decide)
        refine lv_aload_n hx hb dX2_readMark_56 rfl (lv_at hl 2 rfl) ?_
        refine g_geti (C := RX2) (T := TX2) (N := 16) hx hb hts (mc_ inX2) hown hK g ma0_ ka0_ (by decide) rfl 6 (by decide) rfl (hts _ (List.mem_cons_of_mem _ t_422)) (fun _ h9 => h9) rfl dX2_readMark_57 (fun x_499 bx_499 g => ?_)
        have kb_0 : bd 0 0 (0 : Int32) := ⟨by decide, by decide⟩
        refine lv_if_eq (tgt := 72) hx hb dX2_readMark_60 (by decide) (fun c_500 => ?_) (fun c_500 => ?_)
        · have fc_500 := eq_f c_500
          have b_501 : bd 0 0 x_499 := eqX fc_500 bx_499 kb_0 (by decide)
          refine lv_aload_n hx hb dX2_readMark_72 rfl (lv_at hl 2 rfl) ?_
          refine lv_iconst (v := 1) hx hb dX2_readMark_73 (by decide) ?_
          have kb_1 : bd 1 1 (1 : Int32) := ⟨by decide, by decide⟩
          have go_ := g
          refine g_put (C := RX2) (T := TX2) (N := 16) hx hb hts (mc_ inX2) tyX2 tyX2_ok nmX2 hown hK g ma0_ ka0_ (by decide) rfl 6 (by decide) (hts _ (List.mem_cons_of_mem _ t_422)) (fun _ h9 => h9) rfl rfl (okV_i (bd_sub kb_1 (by decide))) rfl rfl (by decide) (Or.inr (Or.inl (by decide))) (fx' := [(8, 6, q0_, .int x_14), (2, 0, a0_, .ref q0_), (2, 1, a0_, .ref q1_), (2, 2, a0_, .ref q2_), (2, 3, a0_, .ref q3_), (2, 4, a0_, .ref q4_), (2, 5, a0_, .ref q5_), (0, 0, q2_, .ref q0_), (0, 1, q2_, .ref q1_), (5, 0, q1_, .ref q3_), (5, 1, q1_, .ref q9_), (8, 8, q0_, .int y0_), (9, 8, q4_, .int y1_), (7, 3, q3_, .int y2_), (6, 12, q5_, .int y3_), (5, 2, q1_, .int y4_), (7, 1, q3_, .int y5_)]) rfl dX2_readMark_74 (fun f H locs hM_502 g => ?_)
          have hG_503 := cOK.frame hM_502 go_.2.2.2.1 mq3_ kq3_ (by decide) (by decide) hG_17
          have hG_504 := dOK.frame hM_502 go_.2.2.2.1 mq3_ kq3_ (by decide) (by decide) hG_18
          have hG_505 := jS.frame hM_502 go_.2.2.2.1 mq3_ kq3_ (by decide) (by decide) hG_19
          have hG_506 := eOK.frame hM_502 go_.2.2.2.1 mq2_ kq2_ (by decide) (by decide) hG_20
          refine lv_aload_n hx hb dX2_readMark_77 rfl (lv_at hl 2 rfl) ?_
          refine g_getk (C := RX2) (T := TX2) (N := 16) hx hb hts (mc_ inX2) hown hK g rfl 5 (by decide) rfl (hts _ (List.mem_cons_of_mem _ t_421)) (fun _ h9 => h9) 7 rfl dX2_readMark_78 ?_
          refine lv_dup hx hb dX2_readMark_81 rfl ?_
          refine g_getk (C := RX6) (T := TX6) (N := 13) hx hb hts (mc_ inX6) hown hK g rfl 12 (by decide) rfl (hts _ (List.mem_cons_of_mem _ t_591)) (fun _ h9 => h9) 15 rfl dX2_readMark_82 ?_
          refine lv_iconst (v := 1) hx hb dX2_readMark_85 (by decide) ?_
          refine lv_iadd hx hb dX2_readMark_86 ?_
          refine lv_topi (fun y_507 ey_507 => ?_)
          have ty_507 := add_bd ey_507 b_12 kb_1 (by decide)
          have b_508 : bd 1 8 y_507 := add_rg ty_507 b_12 kb_1 (by decide)
          have go_ := g
          refine g_put (C := RX6) (T := TX6) (N := 13) hx hb hts (mc_ inX6) tyX6 tyX6_ok nmX6 hown hK g mq5_ kq5_ (by decide) rfl 12 (by decide) (hts _ (List.mem_cons_of_mem _ t_591)) (fun _ h9 => h9) rfl rfl (okV_i (bd_sub b_508 (by decide))) rfl rfl (by decide) (Or.inr (Or.inl (by decide))) (fx' := [(2, 6, a0_, .int 1), (8, 6, q0_, .int x_14), (2, 0, a0_, .ref q0_), (2, 1, a0_, .ref q1_), (2, 2, a0_, .ref q2_), (2, 3, a0_, .ref q3_), (2, 4, a0_, .ref q4_), (2, 5, a0_, .ref q5_), (0, 0, q2_, .ref q0_), (0, 1, q2_, .ref q1_), (5, 0, q1_, .ref q3_), (5, 1, q1_, .ref q9_), (8, 8, q0_, .int y0_), (9, 8, q4_, .int y1_), (7, 3, q3_, .int y2_), (5, 2, q1_, .int y4_), (7, 1, q3_, .int y5_)]) rfl dX2_readMark_87 (fun f H locs hM_509 g => ?_)
          have hG_510 := cOK.frame hM_509 go_.2.2.2.1 mq3_ kq3_ (by decide) (by decide) hG_503
          have hG_511 := dOK.frame hM_509 go_.2.2.2.1 mq3_ kq3_ (by decide) (by decide) hG_504
          have hG_512 := jS.frame hM_509 go_.2.2.2.1 mq3_ kq3_ (by decide) (by decide) hG_505
          have hG_513 := eOK.frame hM_509 go_.2.2.2.1 mq2_ kq2_ (by decide) (by decide) hG_506
          refine lv_iload_n hx hb dX2_readMark_90 rfl (lv_at hl 1 rfl) ?_
          by_cases e_514 : r_1 = 16
          · refine lv_topi (fun z_515 ez_515 => ?_)
            obtain rfl : z_515 = 16 := ez_515.trans e_514
            have kb_16 : bd 16 16 (16 : Int32) := ⟨by decide, by decide⟩
            exact bd_no (eqX (eq_f e_514) b_498 kb_16 (lo := 21) (hi := 16) (by decide)) (by decide)
          by_cases e_516 : r_1 = 17
          · refine lv_topi (fun z_517 ez_517 => ?_)
            obtain rfl : z_517 = 17 := ez_517.trans e_516
            have kb_17 : bd 17 17 (17 : Int32) := ⟨by decide, by decide⟩
            exact bd_no (eqX (eq_f e_516) b_498 kb_17 (lo := 21) (hi := 17) (by decide)) (by decide)
          by_cases e_518 : r_1 = 18
          · refine lv_topi (fun z_519 ez_519 => ?_)
            obtain rfl : z_519 = 18 := ez_519.trans e_518
            have kb_18 : bd 18 18 (18 : Int32) := ⟨by decide, by decide⟩
            exact bd_no (eqX (eq_f e_518) b_498 kb_18 (lo := 21) (hi := 18) (by decide)) (by decide)
          by_cases e_520 : r_1 = 19
          · refine lv_topi (fun z_521 ez_521 => ?_)
            obtain rfl : z_521 = 19 := ez_521.trans e_520
            have kb_19 : bd 19 19 (19 : Int32) := ⟨by decide, by decide⟩
            exact bd_no (eqX (eq_f e_520) b_498 kb_19 (lo := 21) (hi := 19) (by decide)) (by decide)
          by_cases e_522 : r_1 = 20
          · refine lv_topi (fun z_523 ez_523 => ?_)
            obtain rfl : z_523 = 20 := ez_523.trans e_522
            exact bd_no (eqX (eq_f e_522) b_498 kb_20 (lo := 21) (hi := 20) (by decide)) (by decide)
          refine lv_tableOut (tgt := 208) hx hb dX2_readMark_91 (by have a0 : r_1.toInt ≠ 16 := fun h => e_514 (Int32.toInt_inj.mp (h.trans (by decide))); have a1 : r_1.toInt ≠ 17 := fun h => e_516 (Int32.toInt_inj.mp (h.trans (by decide))); have a2 : r_1.toInt ≠ 18 := fun h => e_518 (Int32.toInt_inj.mp (h.trans (by decide))); have a3 : r_1.toInt ≠ 19 := fun h => e_520 (Int32.toInt_inj.mp (h.trans (by decide))); have a4 : r_1.toInt ≠ 20 := fun h => e_522 (Int32.toInt_inj.mp (h.trans (by decide))); omega) (by decide) ?_
          refine lv_aload_n hx hb dX2_readMark_208 rfl (lv_at hl 2 rfl) ?_
          refine g_getk (C := RX2) (T := TX2) (N := 16) hx hb hts (mc_ inX2) hown hK g rfl 3 (by decide) rfl (hts _ (List.mem_cons_of_mem _ t_419)) (fun _ h9 => h9) 6 rfl dX2_readMark_209 ?_
          refine lv_bipush (v := 6) hx hb dX2_readMark_212 (by decide) ?_
          refine lv_aload_n hx hb dX2_readMark_214 rfl (lv_at hl 2 rfl) ?_
          refine g_getk (C := RX2) (T := TX2) (N := 16) hx hb hts (mc_ inX2) hown hK g rfl 1 (by decide) rfl (hts _ (List.mem_cons_of_mem _ t_417)) (fun _ h9 => h9) 4 rfl dX2_readMark_215 ?_
          refine g_getk (C := RX5) (T := TX5) (N := 9) hx hb hts (mc_ inX5) hown hK g rfl 2 (by decide) rfl (hts _ (List.mem_cons_of_mem _ t_333)) (fun _ h9 => h9) 16 rfl dX2_readMark_218 ?_
          refine lv_iload_n hx hb dX2_readMark_221 rfl (lv_at hl 0 rfl) ?_
          have go_ := g
          refine g_calli (va_runV (As := [.int 6, .int y4_, .int r_6]) (rest := []) ⟨hx, hb, hml, hown, hts⟩ (r_X7_addMark l dC dI L kd tys f H.size g.2.2.2.1 q3_ mq3_ kq3_ 6 y4_ r_6) (cwV 3 hts (gV_ t_1173 t_1174 t_1175 t_191 t_1176) rfl rfl rfl (by decide +kernel) ⟨(Nat.le_of_ble_eq_true rfl), (Nat.le_of_ble_eq_true rfl)⟩) (pre3V g hK mq3_ kq3_ (by decide) (q := (RX7, TX7, 19)) rfl) rfl rfl hl.1 rfl (lv_room (Nat.le_of_ble_eq_true rfl)) dX2_readMark_222 ⟨(Nat.le_of_ble_eq_true rfl), (Nat.le_of_ble_eq_true rfl)⟩) g hK (by decide) (by decide) (fx' := [(6, 12, q5_, .int y_507), (2, 6, a0_, .int 1), (8, 6, q0_, .int x_14), (2, 0, a0_, .ref q0_), (2, 1, a0_, .ref q1_), (2, 2, a0_, .ref q2_), (2, 3, a0_, .ref q3_), (2, 4, a0_, .ref q4_), (2, 5, a0_, .ref q5_), (0, 0, q2_, .ref q0_), (0, 1, q2_, .ref q1_), (5, 0, q1_, .ref q3_), (5, 1, q1_, .ref q9_), (8, 8, q0_, .int y0_), (9, 8, q4_, .int y1_), (7, 3, q3_, .int y2_), (5, 2, q1_, .int y4_), (7, 1, q3_, .int y5_)]) rfl (fun r_524 fr_524 H locs hp hMr_524 g => ?_)
          obtain ⟨h_525, x_526, h_527, hF_528⟩ := hp
          have hG_529 := cOK.frame hMr_524 go_.2.2.2.1 mq3_ kq3_ (by decide) (by decide) hG_510
          have hG_530 := dOK.frame hMr_524 go_.2.2.2.1 mq3_ kq3_ (by decide) (by decide) hG_511
          have hG_531 := jS.frame hMr_524 go_.2.2.2.1 mq3_ kq3_ (by decide) (by decide) hG_512
          have hG_532 := eOK.frame hMr_524 go_.2.2.2.1 mq2_ kq2_ (by decide) (by decide) hG_513
          have g := g.more hF_528
          refine lv_pop hx hb dX2_readMark_225 rfl ?_
          refine lv_aload_n hx hb dX2_readMark_226 rfl (lv_at hl 2 rfl) ?_
          refine g_getk (C := RX2) (T := TX2) (N := 16) hx hb hts (mc_ inX2) hown hK g rfl 5 (by decide) rfl (hts _ (List.mem_cons_of_mem _ t_421)) (fun _ h9 => h9) 9 rfl dX2_readMark_227 ?_
          refine lv_iconst (v := 1) hx hb dX2_readMark_230 (by decide) ?_
          have go_ := g
          refine g_put (C := RX6) (T := TX6) (N := 13) hx hb hts (mc_ inX6) tyX6 tyX6_ok nmX6 hown hK g mq5_ kq5_ (by decide) rfl 6 (by decide) (hts _ (List.mem_cons_of_mem _ t_578)) (fun _ h9 => h9) rfl rfl (okV_i (bd_sub kb_1 (by decide))) rfl rfl (by decide) (Or.inr (Or.inl (by decide))) (fx' := [(7, 13, q3_, .int x_526), (6, 12, q5_, .int y_507), (2, 6, a0_, .int 1), (8, 6, q0_, .int x_14), (2, 0, a0_, .ref q0_), (2, 1, a0_, .ref q1_), (2, 2, a0_, .ref q2_), (2, 3, a0_, .ref q3_), (2, 4, a0_, .ref q4_), (2, 5, a0_, .ref q5_), (0, 0, q2_, .ref q0_), (0, 1, q2_, .ref q1_), (5, 0, q1_, .ref q3_), (5, 1, q1_, .ref q9_), (8, 8, q0_, .int y0_), (9, 8, q4_, .int y1_), (7, 3, q3_, .int y2_), (5, 2, q1_, .int y4_), (7, 1, q3_, .int y5_)]) rfl dX2_readMark_231 (fun f H locs hM_533 g => ?_)
          have hG_534 := cOK.frame hM_533 go_.2.2.2.1 mq3_ kq3_ (by decide) (by decide) hG_529
          have hG_535 := dOK.frame hM_533 go_.2.2.2.1 mq3_ kq3_ (by decide) (by decide) hG_530
          have hG_536 := jS.frame hM_533 go_.2.2.2.1 mq3_ kq3_ (by decide) (by decide) hG_531
          have hG_537 := eOK.frame hM_533 go_.2.2.2.1 mq2_ kq2_ (by decide) (by decide) hG_532
          refine lv_aload_n hx hb dX2_readMark_234 rfl (lv_at hl 2 rfl) ?_
          refine g_getk (C := RX2) (T := TX2) (N := 16) hx hb hts (mc_ inX2) hown hK g rfl 0 (by decide) rfl (hts _ (List.mem_cons_of_mem _ t_416)) (fun _ h9 => h9) 5 rfl dX2_readMark_235 ?_
          refine lv_bipush (v := 59) hx hb dX2_readMark_238 (by decide) ?_
          have go_ := g
          refine g_callv (va_runV (As := [.int 59]) (rest := []) ⟨hx, hb, hml, hown, hts⟩ (r_X8_take l dC dI L kd tys f H.size g.2.2.2.1 q0_ mq0_ kq0_ 59 y0_ by0_ (g.fcts [15] rfl)) (cwV 1 hts (gV_ t_1098 t_1099 t_1100 t_184 t_1101) rfl rfl rfl (by decide +kernel) ⟨(Nat.le_of_ble_eq_true rfl), (Nat.le_of_ble_eq_true rfl)⟩) (pre3V g hK mq0_ kq0_ (by decide) (q := (RX8, TX8, 10)) rfl) rfl rfl hl.1 rfl (lv_room (Nat.le_of_ble_eq_true rfl)) dX2_readMark_240 ⟨(Nat.le_of_ble_eq_true rfl), (Nat.le_of_ble_eq_true rfl)⟩) g hK (by decide) (by decide) (fx' := [(6, 6, q5_, .int 1), (7, 13, q3_, .int x_526), (6, 12, q5_, .int y_507), (2, 6, a0_, .int 1), (2, 0, a0_, .ref q0_), (2, 1, a0_, .ref q1_), (2, 2, a0_, .ref q2_), (2, 3, a0_, .ref q3_), (2, 4, a0_, .ref q4_), (2, 5, a0_, .ref q5_), (0, 0, q2_, .ref q0_), (0, 1, q2_, .ref q1_), (5, 0, q1_, .ref q3_), (5, 1, q1_, .ref q9_), (9, 8, q4_, .int y1_), (7, 3, q3_, .int y2_), (5, 2, q1_, .int y4_), (7, 1, q3_, .int y5_)]) rfl (fun fr_538 H locs hp hMr_538 g => ?_)
          rcases hp with ⟨x_539, h_540, hF_541⟩ | ⟨x_542, h_543, hF_544⟩
          · have hG_545 := cOK.frame hMr_538 go_.2.2.2.1 mq3_ kq3_ (by decide) (by decide) hG_534
            have hG_546 := dOK.frame hMr_538 go_.2.2.2.1 mq3_ kq3_ (by decide) (by decide) hG_535
            have hG_547 := jS.frame hMr_538 go_.2.2.2.1 mq3_ kq3_ (by decide) (by decide) hG_536
            have hG_548 := eOK.frame hMr_538 go_.2.2.2.1 mq2_ kq2_ (by decide) (by decide) hG_537
            have g := g.more hF_541
            subst hQ
            exact W.vret hx hb hr (fun t ht hW => ⟨⟨_, rfl, Or.inl ⟨hG_545, hG_546, hG_547, hG_548, b_12, x_539, h_540, x_526, h_527, y_507, b_508, (g.fcts [0, 1, 3, 4] rfl)⟩, q3_of g hK ht hW⟩, g.2.2.1.F ht⟩) g.2.2.1.2.2 dX2_readMark_243
          · have hG_549 := cOK.frame hMr_538 go_.2.2.2.1 mq3_ kq3_ (by decide) (by decide) hG_534
            have hG_550 := dOK.frame hMr_538 go_.2.2.2.1 mq3_ kq3_ (by decide) (by decide) hG_535
            have hG_551 := jS.frame hMr_538 go_.2.2.2.1 mq3_ kq3_ (by decide) (by decide) hG_536
            have hG_552 := eOK.frame hMr_538 go_.2.2.2.1 mq2_ kq2_ (by decide) (by decide) hG_537
            have g := g.more hF_544
            have kb_1201 : bd 1201 1201 (1201 : Int32) := ⟨by decide, by decide⟩
            subst hQ
            exact W.vret hx hb hr (fun t ht hW => ⟨⟨_, rfl, Or.inr (⟨hG_550, hG_552, 1201, kb_1201, x_542, h_543, x_526, h_527, y_507, (bd_sub b_508 (by decide)), (g.fcts [0, 1, 3, 4] rfl)⟩), q3_of g hK ht hW⟩, g.2.2.1.F ht⟩) g.2.2.1.2.2 dX2_readMark_243
        · have fc_500 := neq_f c_500
          have b_553 : bd 1 1 x_499 := neX fc_500 bx_499 kb_0 (by decide)
          refine lv_aload_n hx hb dX2_readMark_63 rfl (lv_at hl 2 rfl) ?_
          refine g_getk (C := RX2) (T := TX2) (N := 16) hx hb hts (mc_ inX2) hown hK g rfl 0 (by decide) rfl (hts _ (List.mem_cons_of_mem _ t_416)) (fun _ h9 => h9) 2 rfl dX2_readMark_64 ?_
          refine lv_iconst (v := 5) hx hb dX2_readMark_67 (by decide) ?_
          refine lv_iload_n hx hb dX2_readMark_68 rfl (lv_at hl 0 rfl) ?_
          have kb_5 : bd 5 5 (5 : Int32) := ⟨by decide, by decide⟩
          have go_ := g
          refine g_callv (va_runV (As := [.int 5, .int r_6]) (rest := []) ⟨hx, hb, hml, hown, hts⟩ (r_X8_fail l dC dI L kd tys fr_13 H.size g.2.2.2.1 q0_ mq0_ kq0_ 5 (bd_sub kb_5 (by decide)) r_6 y0_ by0_ (g.fcts [12] rfl)) (cwV 2 hts (gV_ t_1122 t_1107 t_1108 t_184 t_1109) rfl rfl rfl (by decide +kernel) ⟨(Nat.le_of_ble_eq_true rfl), (Nat.le_of_ble_eq_true rfl)⟩) (pre3V g hK mq0_ kq0_ (by decide) (q := (RX8, TX8, 10)) rfl) rfl rfl hl.1 rfl (lv_room (Nat.le_of_ble_eq_true rfl)) dX2_readMark_69 ⟨(Nat.le_of_ble_eq_true rfl), (Nat.le_of_ble_eq_true rfl)⟩) g hK (by decide) (by decide) (fx' := [(2, 6, a0_, .int x_499), (2, 0, a0_, .ref q0_), (2, 1, a0_, .ref q1_), (2, 2, a0_, .ref q2_), (2, 3, a0_, .ref q3_), (2, 4, a0_, .ref q4_), (2, 5, a0_, .ref q5_), (0, 0, q2_, .ref q0_), (0, 1, q2_, .ref q1_), (5, 0, q1_, .ref q3_), (5, 1, q1_, .ref q9_), (9, 8, q4_, .int y1_), (7, 3, q3_, .int y2_), (6, 12, q5_, .int y3_), (5, 2, q1_, .int y4_), (7, 1, q3_, .int y5_)]) rfl (fun fr_554 H locs hp hMr_554 g => ?_)
          obtain ⟨x_555, h_556, hF_557⟩ := hp
          have hG_558 := cOK.frame hMr_554 go_.2.2.2.1 mq3_ kq3_ (by decide) (by decide) hG_17
          have hG_559 := dOK.frame hMr_554 go_.2.2.2.1 mq3_ kq3_ (by decide) (by decide) hG_18
          have hG_560 := jS.frame hMr_554 go_.2.2.2.1 mq3_ kq3_ (by decide) (by decide) hG_19
          have hG_561 := eOK.frame hMr_554 go_.2.2.2.1 mq2_ kq2_ (by decide) (by decide) hG_20
          have g := g.more hF_557
          refine lv_aload_n hx hb dX2_readMark_72 rfl (lv_at hl 2 rfl) ?_
          refine lv_iconst (v := 1) hx hb dX2_readMark_73 (by decide) ?_
          have kb_1 : bd 1 1 (1 : Int32) := ⟨by decide, by decide⟩
          have go_ := g
          refine g_put (C := RX2) (T := TX2) (N := 16) hx hb hts (mc_ inX2) tyX2 tyX2_ok nmX2 hown hK g ma0_ ka0_ (by decide) rfl 6 (by decide) (hts _ (List.mem_cons_of_mem _ t_422)) (fun _ h9 => h9) rfl rfl (okV_i (bd_sub kb_1 (by decide))) rfl rfl (by decide) (Or.inr (Or.inl (by decide))) (fx' := [(8, 6, q0_, .int 1201), (8, 8, q0_, .int x_555), (2, 0, a0_, .ref q0_), (2, 1, a0_, .ref q1_), (2, 2, a0_, .ref q2_), (2, 3, a0_, .ref q3_), (2, 4, a0_, .ref q4_), (2, 5, a0_, .ref q5_), (0, 0, q2_, .ref q0_), (0, 1, q2_, .ref q1_), (5, 0, q1_, .ref q3_), (5, 1, q1_, .ref q9_), (9, 8, q4_, .int y1_), (7, 3, q3_, .int y2_), (6, 12, q5_, .int y3_), (5, 2, q1_, .int y4_), (7, 1, q3_, .int y5_)]) rfl dX2_readMark_74 (fun f H locs hM_562 g => ?_)
          have hG_563 := cOK.frame hM_562 go_.2.2.2.1 mq3_ kq3_ (by decide) (by decide) hG_558
          have hG_564 := dOK.frame hM_562 go_.2.2.2.1 mq3_ kq3_ (by decide) (by decide) hG_559
          have hG_565 := jS.frame hM_562 go_.2.2.2.1 mq3_ kq3_ (by decide) (by decide) hG_560
          have hG_566 := eOK.frame hM_562 go_.2.2.2.1 mq2_ kq2_ (by decide) (by decide) hG_561
          refine lv_aload_n hx hb dX2_readMark_77 rfl (lv_at hl 2 rfl) ?_
          refine g_getk (C := RX2) (T := TX2) (N := 16) hx hb hts (mc_ inX2) hown hK g rfl 5 (by decide) rfl (hts _ (List.mem_cons_of_mem _ t_421)) (fun _ h9 => h9) 8 rfl dX2_readMark_78 ?_
          refine lv_dup hx hb dX2_readMark_81 rfl ?_
          refine g_getk (C := RX6) (T := TX6) (N := 13) hx hb hts (mc_ inX6) hown hK g rfl 12 (by decide) rfl (hts _ (List.mem_cons_of_mem _ t_591)) (fun _ h9 => h9) 15 rfl dX2_readMark_82 ?_
          refine lv_iconst (v := 1) hx hb dX2_readMark_85 (by decide) ?_
          refine lv_iadd hx hb dX2_readMark_86 ?_
          refine lv_topi (fun y_567 ey_567 => ?_)
          have ty_567 := add_bd ey_567 b_12 kb_1 (by decide)
          have b_568 : bd 1 8 y_567 := add_rg ty_567 b_12 kb_1 (by decide)
          have go_ := g
          refine g_put (C := RX6) (T := TX6) (N := 13) hx hb hts (mc_ inX6) tyX6 tyX6_ok nmX6 hown hK g mq5_ kq5_ (by decide) rfl 12 (by decide) (hts _ (List.mem_cons_of_mem _ t_591)) (fun _ h9 => h9) rfl rfl (okV_i (bd_sub b_568 (by decide))) rfl rfl (by decide) (Or.inr (Or.inl (by decide))) (fx' := [(2, 6, a0_, .int 1), (8, 6, q0_, .int 1201), (8, 8, q0_, .int x_555), (2, 0, a0_, .ref q0_), (2, 1, a0_, .ref q1_), (2, 2, a0_, .ref q2_), (2, 3, a0_, .ref q3_), (2, 4, a0_, .ref q4_), (2, 5, a0_, .ref q5_), (0, 0, q2_, .ref q0_), (0, 1, q2_, .ref q1_), (5, 0, q1_, .ref q3_), (5, 1, q1_, .ref q9_), (9, 8, q4_, .int y1_), (7, 3, q3_, .int y2_), (5, 2, q1_, .int y4_), (7, 1, q3_, .int y5_)]) rfl dX2_readMark_87 (fun f H locs hM_569 g => ?_)
          have hG_570 := cOK.frame hM_569 go_.2.2.2.1 mq3_ kq3_ (by decide) (by decide) hG_563
          have hG_571 := dOK.frame hM_569 go_.2.2.2.1 mq3_ kq3_ (by decide) (by decide) hG_564
          have hG_572 := jS.frame hM_569 go_.2.2.2.1 mq3_ kq3_ (by decide) (by decide) hG_565
          have hG_573 := eOK.frame hM_569 go_.2.2.2.1 mq2_ kq2_ (by decide) (by decide) hG_566
          refine lv_iload_n hx hb dX2_readMark_90 rfl (lv_at hl 1 rfl) ?_
          by_cases e_574 : r_1 = 16
          · refine lv_topi (fun z_575 ez_575 => ?_)
            obtain rfl : z_575 = 16 := ez_575.trans e_574
            have kb_16 : bd 16 16 (16 : Int32) := ⟨by decide, by decide⟩
            exact bd_no (eqX (eq_f e_574) b_498 kb_16 (lo := 21) (hi := 16) (by decide)) (by decide)
          by_cases e_576 : r_1 = 17
          · refine lv_topi (fun z_577 ez_577 => ?_)
            obtain rfl : z_577 = 17 := ez_577.trans e_576
            have kb_17 : bd 17 17 (17 : Int32) := ⟨by decide, by decide⟩
            exact bd_no (eqX (eq_f e_576) b_498 kb_17 (lo := 21) (hi := 17) (by decide)) (by decide)
          by_cases e_578 : r_1 = 18
          · refine lv_topi (fun z_579 ez_579 => ?_)
            obtain rfl : z_579 = 18 := ez_579.trans e_578
            have kb_18 : bd 18 18 (18 : Int32) := ⟨by decide, by decide⟩
            exact bd_no (eqX (eq_f e_578) b_498 kb_18 (lo := 21) (hi := 18) (by decide)) (by decide)
          by_cases e_580 : r_1 = 19
          · refine lv_topi (fun z_581 ez_581 => ?_)
            obtain rfl : z_581 = 19 := ez_581.trans e_580
            have kb_19 : bd 19 19 (19 : Int32) := ⟨by decide, by decide⟩
            exact bd_no (eqX (eq_f e_580) b_498 kb_19 (lo := 21) (hi := 19) (by decide)) (by decide)
          by_cases e_582 : r_1 = 20
          · refine lv_topi (fun z_583 ez_583 => ?_)
            obtain rfl : z_583 = 20 := ez_583.trans e_582
            exact bd_no (eqX (eq_f e_582) b_498 kb_20 (lo := 21) (hi := 20) (by decide)) (by decide)
          refine lv_tableOut (tgt := 208) hx hb dX2_readMark_91 (by have a0 : r_1.toInt ≠ 16 := fun h => e_574 (Int32.toInt_inj.mp (h.trans (by decide))); have a1 : r_1.toInt ≠ 17 := fun h => e_576 (Int32.toInt_inj.mp (h.trans (by decide))); have a2 : r_1.toInt ≠ 18 := fun h => e_578 (Int32.toInt_inj.mp (h.trans (by decide))); have a3 : r_1.toInt ≠ 19 := fun h => e_580 (Int32.toInt_inj.mp (h.trans (by decide))); have a4 : r_1.toInt ≠ 20 := fun h => e_582 (Int32.toInt_inj.mp (h.trans (by decide))); omega) (by decide) ?_
          refine lv_aload_n hx hb dX2_readMark_208 rfl (lv_at hl 2 rfl) ?_
          refine g_getk (C := RX2) (T := TX2) (N := 16) hx hb hts (mc_ inX2) hown hK g rfl 3 (by decide) rfl (hts _ (List.mem_cons_of_mem _ t_419)) (fun _ h9 => h9) 7 rfl dX2_readMark_209 ?_
          refine lv_bipush (v := 6) hx hb dX2_readMark_212 (by decide) ?_
          refine lv_aload_n hx hb dX2_readMark_214 rfl (lv_at hl 2 rfl) ?_
          refine g_getk (C := RX2) (T := TX2) (N := 16) hx hb hts (mc_ inX2) hown hK g rfl 1 (by decide) rfl (hts _ (List.mem_cons_of_mem _ t_417)) (fun _ h9 => h9) 5 rfl dX2_readMark_215 ?_
          refine g_getk (C := RX5) (T := TX5) (N := 9) hx hb hts (mc_ inX5) hown hK g rfl 2 (by decide) rfl (hts _ (List.mem_cons_of_mem _ t_333)) (fun _ h9 => h9) 16 rfl dX2_readMark_218 ?_
          refine lv_iload_n hx hb dX2_readMark_221 rfl (lv_at hl 0 rfl) ?_
          have go_ := g
          refine g_calli (va_runV (As := [.int 6, .int y4_, .int r_6]) (rest := []) ⟨hx, hb, hml, hown, hts⟩ (r_X7_addMark l dC dI L kd tys f H.size g.2.2.2.1 q3_ mq3_ kq3_ 6 y4_ r_6) (cwV 3 hts (gV_ t_1173 t_1174 t_1175 t_191 t_1176) rfl rfl rfl (by decide +kernel) ⟨(Nat.le_of_ble_eq_true rfl), (Nat.le_of_ble_eq_true rfl)⟩) (pre3V g hK mq3_ kq3_ (by decide) (q := (RX7, TX7, 19)) rfl) rfl rfl hl.1 rfl (lv_room (Nat.le_of_ble_eq_true rfl)) dX2_readMark_222 ⟨(Nat.le_of_ble_eq_true rfl), (Nat.le_of_ble_eq_true rfl)⟩) g hK (by decide) (by decide) (fx' := [(6, 12, q5_, .int y_567), (2, 6, a0_, .int 1), (8, 6, q0_, .int 1201), (8, 8, q0_, .int x_555), (2, 0, a0_, .ref q0_), (2, 1, a0_, .ref q1_), (2, 2, a0_, .ref q2_), (2, 3, a0_, .ref q3_), (2, 4, a0_, .ref q4_), (2, 5, a0_, .ref q5_), (0, 0, q2_, .ref q0_), (0, 1, q2_, .ref q1_), (5, 0, q1_, .ref q3_), (5, 1, q1_, .ref q9_), (9, 8, q4_, .int y1_), (7, 3, q3_, .int y2_), (5, 2, q1_, .int y4_), (7, 1, q3_, .int y5_)]) rfl (fun r_584 fr_584 H locs hp hMr_584 g => ?_)
          obtain ⟨h_585, x_586, h_587, hF_588⟩ := hp
          have hG_589 := cOK.frame hMr_584 go_.2.2.2.1 mq3_ kq3_ (by decide) (by decide) hG_570
          have hG_590 := dOK.frame hMr_584 go_.2.2.2.1 mq3_ kq3_ (by decide) (by decide) hG_571
          have hG_591 := jS.frame hMr_584 go_.2.2.2.1 mq3_ kq3_ (by decide) (by decide) hG_572
          have hG_592 := eOK.frame hMr_584 go_.2.2.2.1 mq2_ kq2_ (by decide) (by decide) hG_573
          have g := g.more hF_588
          refine lv_pop hx hb dX2_readMark_225 rfl ?_
          refine lv_aload_n hx hb dX2_readMark_226 rfl (lv_at hl 2 rfl) ?_
          refine g_getk (C := RX2) (T := TX2) (N := 16) hx hb hts (mc_ inX2) hown hK g rfl 5 (by decide) rfl (hts _ (List.mem_cons_of_mem _ t_421)) (fun _ h9 => h9) 10 rfl dX2_readMark_227 ?_
          refine lv_iconst (v := 1) hx hb dX2_readMark_230 (by decide) ?_
          have go_ := g
          refine g_put (C := RX6) (T := TX6) (N := 13) hx hb hts (mc_ inX6) tyX6 tyX6_ok nmX6 hown hK g mq5_ kq5_ (by decide) rfl 6 (by decide) (hts _ (List.mem_cons_of_mem _ t_578)) (fun _ h9 => h9) rfl rfl (okV_i (bd_sub kb_1 (by decide))) rfl rfl (by decide) (Or.inr (Or.inl (by decide))) (fx' := [(7, 13, q3_, .int x_586), (6, 12, q5_, .int y_567), (2, 6, a0_, .int 1), (8, 6, q0_, .int 1201), (8, 8, q0_, .int x_555), (2, 0, a0_, .ref q0_), (2, 1, a0_, .ref q1_), (2, 2, a0_, .ref q2_), (2, 3, a0_, .ref q3_), (2, 4, a0_, .ref q4_), (2, 5, a0_, .ref q5_), (0, 0, q2_, .ref q0_), (0, 1, q2_, .ref q1_), (5, 0, q1_, .ref q3_), (5, 1, q1_, .ref q9_), (9, 8, q4_, .int y1_), (7, 3, q3_, .int y2_), (5, 2, q1_, .int y4_), (7, 1, q3_, .int y5_)]) rfl dX2_readMark_231 (fun f H locs hM_593 g => ?_)
          have hG_594 := cOK.frame hM_593 go_.2.2.2.1 mq3_ kq3_ (by decide) (by decide) hG_589
          have hG_595 := dOK.frame hM_593 go_.2.2.2.1 mq3_ kq3_ (by decide) (by decide) hG_590
          have hG_596 := jS.frame hM_593 go_.2.2.2.1 mq3_ kq3_ (by decide) (by decide) hG_591
          have hG_597 := eOK.frame hM_593 go_.2.2.2.1 mq2_ kq2_ (by decide) (by decide) hG_592
          refine lv_aload_n hx hb dX2_readMark_234 rfl (lv_at hl 2 rfl) ?_
          refine g_getk (C := RX2) (T := TX2) (N := 16) hx hb hts (mc_ inX2) hown hK g rfl 0 (by decide) rfl (hts _ (List.mem_cons_of_mem _ t_416)) (fun _ h9 => h9) 6 rfl dX2_readMark_235 ?_
          refine lv_bipush (v := 59) hx hb dX2_readMark_238 (by decide) ?_
          have kb_1201 : bd 1201 1201 (1201 : Int32) := ⟨by decide, by decide⟩
          have go_ := g
          refine g_callv (va_runV (As := [.int 59]) (rest := []) ⟨hx, hb, hml, hown, hts⟩ (r_X8_take_2 l dC dI L kd tys f H.size g.2.2.2.1 q0_ mq0_ kq0_ 59 1201 kb_1201 x_555 h_556 (g.fcts [4, 5] rfl)) (cwV 1 hts (gV_ t_1098 t_1099 t_1100 t_184 t_1101) rfl rfl rfl (by decide +kernel) ⟨(Nat.le_of_ble_eq_true rfl), (Nat.le_of_ble_eq_true rfl)⟩) (pre3V g hK mq0_ kq0_ (by decide) (q := (RX8, TX8, 10)) rfl) rfl rfl hl.1 rfl (lv_room (Nat.le_of_ble_eq_true rfl)) dX2_readMark_240 ⟨(Nat.le_of_ble_eq_true rfl), (Nat.le_of_ble_eq_true rfl)⟩) g hK (by decide) (by decide) (fx' := [(6, 6, q5_, .int 1), (7, 13, q3_, .int x_586), (6, 12, q5_, .int y_567), (2, 6, a0_, .int 1), (8, 8, q0_, .int x_555), (2, 0, a0_, .ref q0_), (2, 1, a0_, .ref q1_), (2, 2, a0_, .ref q2_), (2, 3, a0_, .ref q3_), (2, 4, a0_, .ref q4_), (2, 5, a0_, .ref q5_), (0, 0, q2_, .ref q0_), (0, 1, q2_, .ref q1_), (5, 0, q1_, .ref q3_), (5, 1, q1_, .ref q9_), (9, 8, q4_, .int y1_), (7, 3, q3_, .int y2_), (5, 2, q1_, .int y4_), (7, 1, q3_, .int y5_)]) rfl (fun fr_598 H locs hp hMr_598 g => ?_)
          obtain ⟨x_599, h_600, hF_601⟩ := hp
          have hG_602 := cOK.frame hMr_598 go_.2.2.2.1 mq3_ kq3_ (by decide) (by decide) hG_594
          have hG_603 := dOK.frame hMr_598 go_.2.2.2.1 mq3_ kq3_ (by decide) (by decide) hG_595
          have hG_604 := jS.frame hMr_598 go_.2.2.2.1 mq3_ kq3_ (by decide) (by decide) hG_596
          have hG_605 := eOK.frame hMr_598 go_.2.2.2.1 mq2_ kq2_ (by decide) (by decide) hG_597
          have g := g.more hF_601
          subst hQ
          exact W.vret hx hb hr (fun t ht hW => ⟨⟨_, rfl, Or.inr (⟨hG_603, hG_605, x_599, h_600, x_555, h_556, x_586, h_587, y_567, (bd_sub b_568 (by decide)), (g.fcts [0, 5, 2, 3] rfl)⟩), q3_of g hK ht hW⟩, g.2.2.1.F ht⟩) g.2.2.1.2.2 dX2_readMark_243
  · have fc_11 := nlt_f c_11
    have b_606 : bd 8 8 y3_ := leR fc_11 kb_8 by3_ (by decide)
    refine lv_aload_n hx hb dX2_readMark_28 rfl (lv_at hl 2 rfl) ?_
    refine g_getk (C := RX2) (T := TX2) (N := 16) hx hb hts (mc_ inX2) hown hK g rfl 0 (by decide) rfl (hts _ (List.mem_cons_of_mem _ t_416)) (fun _ h9 => h9) 0 rfl dX2_readMark_29 ?_
    refine lv_iconst (v := 4) hx hb dX2_readMark_32 (by decide) ?_
    refine lv_iload_n hx hb dX2_readMark_33 rfl (lv_at hl 0 rfl) ?_
    have kb_4 : bd 4 4 (4 : Int32) := ⟨by decide, by decide⟩
    have go_ := g
    refine g_callv (va_runV (As := [.int 4, .int r_6]) (rest := []) ⟨hx, hb, hml, hown, hts⟩ (r_X8_fail l dC dI L kd tys fr_6 H.size g.2.2.2.1 q0_ mq0_ kq0_ 4 (bd_sub kb_4 (by decide)) r_6 y0_ by0_ (g.fcts [10] rfl)) (cwV 2 hts (gV_ t_1122 t_1107 t_1108 t_184 t_1109) rfl rfl rfl (by decide +kernel) ⟨(Nat.le_of_ble_eq_true rfl), (Nat.le_of_ble_eq_true rfl)⟩) (pre3V g hK mq0_ kq0_ (by decide) (q := (RX8, TX8, 10)) rfl) rfl rfl hl.1 rfl (lv_room (Nat.le_of_ble_eq_true rfl)) dX2_readMark_34 ⟨(Nat.le_of_ble_eq_true rfl), (Nat.le_of_ble_eq_true rfl)⟩) g hK (by decide) (by decide) (fx' := [(2, 0, a0_, .ref q0_), (2, 1, a0_, .ref q1_), (2, 2, a0_, .ref q2_), (2, 3, a0_, .ref q3_), (2, 4, a0_, .ref q4_), (2, 5, a0_, .ref q5_), (0, 0, q2_, .ref q0_), (0, 1, q2_, .ref q1_), (5, 0, q1_, .ref q3_), (5, 1, q1_, .ref q9_), (9, 8, q4_, .int y1_), (7, 3, q3_, .int y2_), (6, 12, q5_, .int y3_), (5, 2, q1_, .int y4_), (7, 1, q3_, .int y5_)]) rfl (fun fr_607 H locs hp hMr_607 g => ?_)
    obtain ⟨x_608, h_609, hF_610⟩ := hp
    have hG_611 := cOK.frame hMr_607 go_.2.2.2.1 mq3_ kq3_ (by decide) (by decide) hG_7
    have hG_612 := dOK.frame hMr_607 go_.2.2.2.1 mq3_ kq3_ (by decide) (by decide) hG_8
    have hG_613 := jS.frame hMr_607 go_.2.2.2.1 mq3_ kq3_ (by decide) (by decide) hG_9
    have hG_614 := eOK.frame hMr_607 go_.2.2.2.1 mq2_ kq2_ (by decide) (by decide) hG_10
    have g := g.more hF_610
    refine lv_aload_n hx hb dX2_readMark_37 rfl (lv_at hl 2 rfl) ?_
    refine g_getk (C := RX2) (T := TX2) (N := 16) hx hb hts (mc_ inX2) hown hK g rfl 0 (by decide) rfl (hts _ (List.mem_cons_of_mem _ t_416)) (fun _ h9 => h9) 2 rfl dX2_readMark_38 ?_
    have kb_1201 : bd 1201 1201 (1201 : Int32) := ⟨by decide, by decide⟩
    have go_ := g
    refine g_callv (va_runV (As := []) (rest := []) ⟨hx, hb, hml, hown, hts⟩ (r_X8_next_2 l dC dI L kd tys fr_607 H.size g.2.2.2.1 q0_ mq0_ kq0_ 1201 kb_1201 (g.fcts [0] rfl)) (cwV 0 hts (gV_ t_1131 t_1103 t_1104 t_184 t_1105) rfl rfl rfl (by decide +kernel) ⟨(Nat.le_of_ble_eq_true rfl), (Nat.le_of_ble_eq_true rfl)⟩) (pre3V g hK mq0_ kq0_ (by decide) (q := (RX8, TX8, 10)) rfl) rfl rfl hl.1 rfl (lv_room (Nat.le_of_ble_eq_true rfl)) dX2_readMark_41 ⟨(Nat.le_of_ble_eq_true rfl), (Nat.le_of_ble_eq_true rfl)⟩) g hK (by decide) (by decide) (fx' := [(8, 6, q0_, .int 1201), (8, 8, q0_, .int x_608), (2, 0, a0_, .ref q0_), (2, 1, a0_, .ref q1_), (2, 2, a0_, .ref q2_), (2, 3, a0_, .ref q3_), (2, 4, a0_, .ref q4_), (2, 5, a0_, .ref q5_), (0, 0, q2_, .ref q0_), (0, 1, q2_, .ref q1_), (5, 0, q1_, .ref q3_), (5, 1, q1_, .ref q9_), (9, 8, q4_, .int y1_), (7, 3, q3_, .int y2_), (6, 12, q5_, .int y3_), (5, 2, q1_, .int y4_), (7, 1, q3_, .int y5_)]) rfl (fun fr_615 H locs hp hMr_615 g => ?_)
    have hG_616 := cOK.frame hMr_615 go_.2.2.2.1 mq3_ kq3_ (by decide) (by decide) hG_611
    have hG_617 := dOK.frame hMr_615 go_.2.2.2.1 mq3_ kq3_ (by decide) (by decide) hG_612
    have hG_618 := jS.frame hMr_615 go_.2.2.2.1 mq3_ kq3_ (by decide) (by decide) hG_613
    have hG_619 := eOK.frame hMr_615 go_.2.2.2.1 mq2_ kq2_ (by decide) (by decide) hG_614
    refine lv_iload_n hx hb dX2_readMark_44 rfl (lv_at hl 1 rfl) ?_
    refine lv_bipush (v := 20) hx hb dX2_readMark_45 (by decide) ?_
    have kb_20 : bd 20 20 (20 : Int32) := ⟨by decide, by decide⟩
    refine lv_icmp_eq (tgt := 56) hx hb dX2_readMark_47 (by decide) (fun c_620 => ?_) (fun c_620 => ?_)
    · have fc_620 := eq_f c_620
      have b_621 : bd 20 20 r_1 := eqX fc_620 (bdT r_1) kb_20 (by decide)
      refine lv_aload_n hx hb dX2_readMark_56 rfl (lv_at hl 2 rfl) ?_
      refine g_geti (C := RX2) (T := TX2) (N := 16) hx hb hts (mc_ inX2) hown hK g ma0_ ka0_ (by decide) rfl 6 (by decide) rfl (hts _ (List.mem_cons_of_mem _ t_422)) (fun _ h9 => h9) rfl dX2_readMark_57 (fun x_622 bx_622 g => ?_)
      have kb_0 : bd 0 0 (0 : Int32) := ⟨by decide, by decide⟩
      refine lv_if_eq (tgt := 72) hx hb dX2_readMark_60 (by decide) (fun c_623 => ?_) (fun c_623 => ?_)
      · have fc_623 := eq_f c_623
        have b_624 : bd 0 0 x_622 := eqX fc_623 bx_622 kb_0 (by decide)
        refine lv_aload_n hx hb dX2_readMark_72 rfl (lv_at hl 2 rfl) ?_
        refine lv_iconst (v := 1) hx hb dX2_readMark_73 (by decide) ?_
        have kb_1 : bd 1 1 (1 : Int32) := ⟨by decide, by decide⟩
        have go_ := g
        refine g_put (C := RX2) (T := TX2) (N := 16) hx hb hts (mc_ inX2) tyX2 tyX2_ok nmX2 hown hK g ma0_ ka0_ (by decide) rfl 6 (by decide) (hts _ (List.mem_cons_of_mem _ t_422)) (fun _ h9 => h9) rfl rfl (okV_i (bd_sub kb_1 (by decide))) rfl rfl (by decide) (Or.inr (Or.inl (by decide))) (fx' := [(8, 6, q0_, .int 1201), (8, 8, q0_, .int x_608), (2, 0, a0_, .ref q0_), (2, 1, a0_, .ref q1_), (2, 2, a0_, .ref q2_), (2, 3, a0_, .ref q3_), (2, 4, a0_, .ref q4_), (2, 5, a0_, .ref q5_), (0, 0, q2_, .ref q0_), (0, 1, q2_, .ref q1_), (5, 0, q1_, .ref q3_), (5, 1, q1_, .ref q9_), (9, 8, q4_, .int y1_), (7, 3, q3_, .int y2_), (6, 12, q5_, .int y3_), (5, 2, q1_, .int y4_), (7, 1, q3_, .int y5_)]) rfl dX2_readMark_74 (fun f H locs hM_625 g => ?_)
        have hG_626 := cOK.frame hM_625 go_.2.2.2.1 mq3_ kq3_ (by decide) (by decide) hG_616
        have hG_627 := dOK.frame hM_625 go_.2.2.2.1 mq3_ kq3_ (by decide) (by decide) hG_617
        have hG_628 := jS.frame hM_625 go_.2.2.2.1 mq3_ kq3_ (by decide) (by decide) hG_618
        have hG_629 := eOK.frame hM_625 go_.2.2.2.1 mq2_ kq2_ (by decide) (by decide) hG_619
        refine lv_aload_n hx hb dX2_readMark_77 rfl (lv_at hl 2 rfl) ?_
        refine g_getk (C := RX2) (T := TX2) (N := 16) hx hb hts (mc_ inX2) hown hK g rfl 5 (by decide) rfl (hts _ (List.mem_cons_of_mem _ t_421)) (fun _ h9 => h9) 8 rfl dX2_readMark_78 ?_
        refine lv_dup hx hb dX2_readMark_81 rfl ?_
        refine g_getk (C := RX6) (T := TX6) (N := 13) hx hb hts (mc_ inX6) hown hK g rfl 12 (by decide) rfl (hts _ (List.mem_cons_of_mem _ t_591)) (fun _ h9 => h9) 15 rfl dX2_readMark_82 ?_
        refine lv_iconst (v := 1) hx hb dX2_readMark_85 (by decide) ?_
        refine lv_iadd hx hb dX2_readMark_86 ?_
        refine lv_topi (fun y_630 ey_630 => ?_)
        have ty_630 := add_bd ey_630 b_606 kb_1 (by decide)
        have b_631 : bd 9 9 y_630 := add_rg ty_630 b_606 kb_1 (by decide)
        have go_ := g
        refine g_put (C := RX6) (T := TX6) (N := 13) hx hb hts (mc_ inX6) tyX6 tyX6_ok nmX6 hown hK g mq5_ kq5_ (by decide) rfl 12 (by decide) (hts _ (List.mem_cons_of_mem _ t_591)) (fun _ h9 => h9) rfl rfl (okV_i (bd_sub b_631 (by decide))) rfl rfl (by decide) (Or.inr (Or.inl (by decide))) (fx' := [(2, 6, a0_, .int 1), (8, 6, q0_, .int 1201), (8, 8, q0_, .int x_608), (2, 0, a0_, .ref q0_), (2, 1, a0_, .ref q1_), (2, 2, a0_, .ref q2_), (2, 3, a0_, .ref q3_), (2, 4, a0_, .ref q4_), (2, 5, a0_, .ref q5_), (0, 0, q2_, .ref q0_), (0, 1, q2_, .ref q1_), (5, 0, q1_, .ref q3_), (5, 1, q1_, .ref q9_), (9, 8, q4_, .int y1_), (7, 3, q3_, .int y2_), (5, 2, q1_, .int y4_), (7, 1, q3_, .int y5_)]) rfl dX2_readMark_87 (fun f H locs hM_632 g => ?_)
        have hG_633 := cOK.frame hM_632 go_.2.2.2.1 mq3_ kq3_ (by decide) (by decide) hG_626
        have hG_634 := dOK.frame hM_632 go_.2.2.2.1 mq3_ kq3_ (by decide) (by decide) hG_627
        have hG_635 := jS.frame hM_632 go_.2.2.2.1 mq3_ kq3_ (by decide) (by decide) hG_628
        have hG_636 := eOK.frame hM_632 go_.2.2.2.1 mq2_ kq2_ (by decide) (by decide) hG_629
        refine lv_iload_n hx hb dX2_readMark_90 rfl (lv_at hl 1 rfl) ?_
        by_cases e_637 : r_1 = 16
        · refine lv_topi (fun z_638 ez_638 => ?_)
          obtain rfl : z_638 = 16 := ez_638.trans e_637
          have kb_16 : bd 16 16 (16 : Int32) := ⟨by decide, by decide⟩
          exact bd_no (eqX (eq_f e_637) b_621 kb_16 (lo := 20) (hi := 16) (by decide)) (by decide)
        by_cases e_639 : r_1 = 17
        · refine lv_topi (fun z_640 ez_640 => ?_)
          obtain rfl : z_640 = 17 := ez_640.trans e_639
          have kb_17 : bd 17 17 (17 : Int32) := ⟨by decide, by decide⟩
          exact bd_no (eqX (eq_f e_639) b_621 kb_17 (lo := 20) (hi := 17) (by decide)) (by decide)
        by_cases e_641 : r_1 = 18
        · refine lv_topi (fun z_642 ez_642 => ?_)
          obtain rfl : z_642 = 18 := ez_642.trans e_641
          have kb_18 : bd 18 18 (18 : Int32) := ⟨by decide, by decide⟩
          exact bd_no (eqX (eq_f e_641) b_621 kb_18 (lo := 20) (hi := 18) (by decide)) (by decide)
        by_cases e_643 : r_1 = 19
        · refine lv_topi (fun z_644 ez_644 => ?_)
          obtain rfl : z_644 = 19 := ez_644.trans e_643
          have kb_19 : bd 19 19 (19 : Int32) := ⟨by decide, by decide⟩
          exact bd_no (eqX (eq_f e_643) b_621 kb_19 (lo := 20) (hi := 19) (by decide)) (by decide)
        by_cases e_645 : r_1 = 20
        · refine lv_topi (fun z_646 ez_646 => ?_)
          obtain rfl : z_646 = 20 := ez_646.trans e_645
          have b_647 : bd 20 20 r_1 := eqX (eq_f e_645) b_621 kb_20 (by decide)
          refine lv_tableIn (off := 110) (tgt := 201) hx hb dX2_readMark_91 (by decide) (by decide) rfl (by decide) ?_
          refine lv_aload_n hx hb dX2_readMark_201 rfl (lv_at hl 2 rfl) ?_
          have go_ := g
          refine g_callv (va_runV (As := []) (rest := []) ⟨hx, hb, hml, hown, hts⟩ (r_X2_readOnly_2 l dC dI L kd tys f H.size g.2.2.2.1 a0_ ma0_ ka0_ q0_ mq0_ kq0_ q3_ mq3_ kq3_ q4_ mq4_ kq4_ 1201 kb_1201 x_608 h_609 (g.fcts [4, 7, 8, 2, 3] rfl)) (cwV 0 hts (gV_ t_1330 t_1332 t_38 t_183 t_1333) rfl rfl rfl (by decide +kernel) ⟨(Nat.le_of_ble_eq_true rfl), (Nat.le_of_ble_eq_true rfl)⟩) (pre3V g hK ma0_ ka0_ (by decide) (q := (RX2, TX2, 16)) rfl) rfl rfl hl.1 rfl (lv_room (Nat.le_of_ble_eq_true rfl)) dX2_readMark_202 ⟨(Nat.le_of_ble_eq_true rfl), (Nat.le_of_ble_eq_true rfl)⟩) g hK (by decide) (by decide) (fx' := [(6, 12, q5_, .int y_630), (2, 6, a0_, .int 1), (8, 8, q0_, .int x_608), (2, 0, a0_, .ref q0_), (2, 1, a0_, .ref q1_), (2, 2, a0_, .ref q2_), (2, 3, a0_, .ref q3_), (2, 4, a0_, .ref q4_), (2, 5, a0_, .ref q5_), (0, 0, q2_, .ref q0_), (0, 1, q2_, .ref q1_), (5, 0, q1_, .ref q3_), (5, 1, q1_, .ref q9_), (9, 8, q4_, .int y1_), (7, 3, q3_, .int y2_), (5, 2, q1_, .int y4_), (7, 1, q3_, .int y5_)]) rfl (fun fr_648 H locs hp hMr_648 g => ?_)
          obtain ⟨x_649, h_650, x_651, h_652, hF_653⟩ := hp
          have hG_654 := cOK.frame hMr_648 go_.2.2.2.1 mq3_ kq3_ (by decide) (by decide) hG_633
          have hG_655 := dOK.frame hMr_648 go_.2.2.2.1 mq3_ kq3_ (by decide) (by decide) hG_634
          have hG_656 := jS.frame hMr_648 go_.2.2.2.1 mq3_ kq3_ (by decide) (by decide) hG_635
          have hG_657 := eOK.frame hMr_648 go_.2.2.2.1 mq2_ kq2_ (by decide) (by decide) hG_636
          have g := g.more hF_653
          refine lv_goto (tgt := 234) hx hb dX2_readMark_205 (by decide) ?_
          refine lv_aload_n hx hb dX2_readMark_234 rfl (lv_at hl 2 rfl) ?_
          refine g_getk (C := RX2) (T := TX2) (N := 16) hx hb hts (mc_ inX2) hown hK g rfl 0 (by decide) rfl (hts _ (List.mem_cons_of_mem _ t_416)) (fun _ h9 => h9) 5 rfl dX2_readMark_235 ?_
          refine lv_bipush (v := 59) hx hb dX2_readMark_238 (by decide) ?_
          have go_ := g
          refine g_callv (va_runV (As := [.int 59]) (rest := []) ⟨hx, hb, hml, hown, hts⟩ (r_X8_take_2 l dC dI L kd tys fr_648 H.size g.2.2.2.1 q0_ mq0_ kq0_ 59 x_651 h_652 x_608 h_609 (g.fcts [1, 4] rfl)) (cwV 1 hts (gV_ t_1098 t_1099 t_1100 t_184 t_1101) rfl rfl rfl (by decide +kernel) ⟨(Nat.le_of_ble_eq_true rfl), (Nat.le_of_ble_eq_true rfl)⟩) (pre3V g hK mq0_ kq0_ (by decide) (q := (RX8, TX8, 10)) rfl) rfl rfl hl.1 rfl (lv_room (Nat.le_of_ble_eq_true rfl)) dX2_readMark_240 ⟨(Nat.le_of_ble_eq_true rfl), (Nat.le_of_ble_eq_true rfl)⟩) g hK (by decide) (by decide) (fx' := [(7, 13, q3_, .int x_649), (6, 12, q5_, .int y_630), (2, 6, a0_, .int 1), (8, 8, q0_, .int x_608), (2, 0, a0_, .ref q0_), (2, 1, a0_, .ref q1_), (2, 2, a0_, .ref q2_), (2, 3, a0_, .ref q3_), (2, 4, a0_, .ref q4_), (2, 5, a0_, .ref q5_), (0, 0, q2_, .ref q0_), (0, 1, q2_, .ref q1_), (5, 0, q1_, .ref q3_), (5, 1, q1_, .ref q9_), (9, 8, q4_, .int y1_), (7, 3, q3_, .int y2_), (5, 2, q1_, .int y4_), (7, 1, q3_, .int y5_)]) rfl (fun fr_658 H locs hp hMr_658 g => ?_)
          obtain ⟨x_659, h_660, hF_661⟩ := hp
          have hG_662 := cOK.frame hMr_658 go_.2.2.2.1 mq3_ kq3_ (by decide) (by decide) hG_654
          have hG_663 := dOK.frame hMr_658 go_.2.2.2.1 mq3_ kq3_ (by decide) (by decide) hG_655
          have hG_664 := jS.frame hMr_658 go_.2.2.2.1 mq3_ kq3_ (by decide) (by decide) hG_656
          have hG_665 := eOK.frame hMr_658 go_.2.2.2.1 mq2_ kq2_ (by decide) (by decide) hG_657
          have g := g.more hF_661
          subst hQ
          exact W.vret hx hb hr (fun t ht hW => ⟨⟨_, rfl, Or.inr (⟨hG_663, hG_665, x_659, h_660, x_608, h_609, x_649, h_650, y_630, (bd_sub b_631 (by decide)), (g.fcts [0, 4, 1, 2] rfl)⟩), q3_of g hK ht hW⟩, g.2.2.1.F ht⟩) g.2.2.1.2.2 dX2_readMark_243
        refine lv_tableOut (tgt := 208) hx hb dX2_readMark_91 (by have a0 : r_1.toInt ≠ 16 := fun h => e_637 (Int32.toInt_inj.mp (h.trans (by decide))); have a1 : r_1.toInt ≠ 17 := fun h => e_639 (Int32.toInt_inj.mp (h.trans (by decide))); have a2 : r_1.toInt ≠ 18 := fun h => e_641 (Int32.toInt_inj.mp (h.trans (by decide))); have a3 : r_1.toInt ≠ 19 := fun h => e_643 (Int32.toInt_inj.mp (h.trans (by decide))); have a4 : r_1.toInt ≠ 20 := fun h => e_645 (Int32.toInt_inj.mp (h.trans (by decide))); omega) (by decide) ?_
        refine lv_aload_n hx hb dX2_readMark_208 rfl (lv_at hl 2 rfl) ?_
        refine g_getk (C := RX2) (T := TX2) (N := 16) hx hb hts (mc_ inX2) hown hK g rfl 3 (by decide) rfl (hts _ (List.mem_cons_of_mem _ t_419)) (fun _ h9 => h9) 7 rfl dX2_readMark_209 ?_
        refine lv_bipush (v := 6) hx hb dX2_readMark_212 (by decide) ?_
        refine lv_aload_n hx hb dX2_readMark_214 rfl (lv_at hl 2 rfl) ?_
        refine g_getk (C := RX2) (T := TX2) (N := 16) hx hb hts (mc_ inX2) hown hK g rfl 1 (by decide) rfl (hts _ (List.mem_cons_of_mem _ t_417)) (fun _ h9 => h9) 5 rfl dX2_readMark_215 ?_
        refine g_getk (C := RX5) (T := TX5) (N := 9) hx hb hts (mc_ inX5) hown hK g rfl 2 (by decide) rfl (hts _ (List.mem_cons_of_mem _ t_333)) (fun _ h9 => h9) 16 rfl dX2_readMark_218 ?_
        refine lv_iload_n hx hb dX2_readMark_221 rfl (lv_at hl 0 rfl) ?_
        have go_ := g
        refine g_calli (va_runV (As := [.int 6, .int y4_, .int r_6]) (rest := []) ⟨hx, hb, hml, hown, hts⟩ (r_X7_addMark l dC dI L kd tys f H.size g.2.2.2.1 q3_ mq3_ kq3_ 6 y4_ r_6) (cwV 3 hts (gV_ t_1173 t_1174 t_1175 t_191 t_1176) rfl rfl rfl (by decide +kernel) ⟨(Nat.le_of_ble_eq_true rfl), (Nat.le_of_ble_eq_true rfl)⟩) (pre3V g hK mq3_ kq3_ (by decide) (q := (RX7, TX7, 19)) rfl) rfl rfl hl.1 rfl (lv_room (Nat.le_of_ble_eq_true rfl)) dX2_readMark_222 ⟨(Nat.le_of_ble_eq_true rfl), (Nat.le_of_ble_eq_true rfl)⟩) g hK (by decide) (by decide) (fx' := [(6, 12, q5_, .int y_630), (2, 6, a0_, .int 1), (8, 6, q0_, .int 1201), (8, 8, q0_, .int x_608), (2, 0, a0_, .ref q0_), (2, 1, a0_, .ref q1_), (2, 2, a0_, .ref q2_), (2, 3, a0_, .ref q3_), (2, 4, a0_, .ref q4_), (2, 5, a0_, .ref q5_), (0, 0, q2_, .ref q0_), (0, 1, q2_, .ref q1_), (5, 0, q1_, .ref q3_), (5, 1, q1_, .ref q9_), (9, 8, q4_, .int y1_), (7, 3, q3_, .int y2_), (5, 2, q1_, .int y4_), (7, 1, q3_, .int y5_)]) rfl (fun r_666 fr_666 H locs hp hMr_666 g => ?_)
        obtain ⟨h_667, x_668, h_669, hF_670⟩ := hp
        have hG_671 := cOK.frame hMr_666 go_.2.2.2.1 mq3_ kq3_ (by decide) (by decide) hG_633
        have hG_672 := dOK.frame hMr_666 go_.2.2.2.1 mq3_ kq3_ (by decide) (by decide) hG_634
        have hG_673 := jS.frame hMr_666 go_.2.2.2.1 mq3_ kq3_ (by decide) (by decide) hG_635
        have hG_674 := eOK.frame hMr_666 go_.2.2.2.1 mq2_ kq2_ (by decide) (by decide) hG_636
        have g := g.more hF_670
        refine lv_pop hx hb dX2_readMark_225 rfl ?_
        refine lv_aload_n hx hb dX2_readMark_226 rfl (lv_at hl 2 rfl) ?_
        refine g_getk (C := RX2) (T := TX2) (N := 16) hx hb hts (mc_ inX2) hown hK g rfl 5 (by decide) rfl (hts _ (List.mem_cons_of_mem _ t_421)) (fun _ h9 => h9) 10 rfl dX2_readMark_227 ?_
        refine lv_iconst (v := 1) hx hb dX2_readMark_230 (by decide) ?_
        have go_ := g
        refine g_put (C := RX6) (T := TX6) (N := 13) hx hb hts (mc_ inX6) tyX6 tyX6_ok nmX6 hown hK g mq5_ kq5_ (by decide) rfl 6 (by decide) (hts _ (List.mem_cons_of_mem _ t_578)) (fun _ h9 => h9) rfl rfl (okV_i (bd_sub kb_1 (by decide))) rfl rfl (by decide) (Or.inr (Or.inl (by decide))) (fx' := [(7, 13, q3_, .int x_668), (6, 12, q5_, .int y_630), (2, 6, a0_, .int 1), (8, 6, q0_, .int 1201), (8, 8, q0_, .int x_608), (2, 0, a0_, .ref q0_), (2, 1, a0_, .ref q1_), (2, 2, a0_, .ref q2_), (2, 3, a0_, .ref q3_), (2, 4, a0_, .ref q4_), (2, 5, a0_, .ref q5_), (0, 0, q2_, .ref q0_), (0, 1, q2_, .ref q1_), (5, 0, q1_, .ref q3_), (5, 1, q1_, .ref q9_), (9, 8, q4_, .int y1_), (7, 3, q3_, .int y2_), (5, 2, q1_, .int y4_), (7, 1, q3_, .int y5_)]) rfl dX2_readMark_231 (fun f H locs hM_675 g => ?_)
        have hG_676 := cOK.frame hM_675 go_.2.2.2.1 mq3_ kq3_ (by decide) (by decide) hG_671
        have hG_677 := dOK.frame hM_675 go_.2.2.2.1 mq3_ kq3_ (by decide) (by decide) hG_672
        have hG_678 := jS.frame hM_675 go_.2.2.2.1 mq3_ kq3_ (by decide) (by decide) hG_673
        have hG_679 := eOK.frame hM_675 go_.2.2.2.1 mq2_ kq2_ (by decide) (by decide) hG_674
        refine lv_aload_n hx hb dX2_readMark_234 rfl (lv_at hl 2 rfl) ?_
        refine g_getk (C := RX2) (T := TX2) (N := 16) hx hb hts (mc_ inX2) hown hK g rfl 0 (by decide) rfl (hts _ (List.mem_cons_of_mem _ t_416)) (fun _ h9 => h9) 6 rfl dX2_readMark_235 ?_
        refine lv_bipush (v := 59) hx hb dX2_readMark_238 (by decide) ?_
        have go_ := g
        refine g_callv (va_runV (As := [.int 59]) (rest := []) ⟨hx, hb, hml, hown, hts⟩ (r_X8_take_2 l dC dI L kd tys f H.size g.2.2.2.1 q0_ mq0_ kq0_ 59 1201 kb_1201 x_608 h_609 (g.fcts [4, 5] rfl)) (cwV 1 hts (gV_ t_1098 t_1099 t_1100 t_184 t_1101) rfl rfl rfl (by decide +kernel) ⟨(Nat.le_of_ble_eq_true rfl), (Nat.le_of_ble_eq_true rfl)⟩) (pre3V g hK mq0_ kq0_ (by decide) (q := (RX8, TX8, 10)) rfl) rfl rfl hl.1 rfl (lv_room (Nat.le_of_ble_eq_true rfl)) dX2_readMark_240 ⟨(Nat.le_of_ble_eq_true rfl), (Nat.le_of_ble_eq_true rfl)⟩) g hK (by decide) (by decide) (fx' := [(6, 6, q5_, .int 1), (7, 13, q3_, .int x_668), (6, 12, q5_, .int y_630), (2, 6, a0_, .int 1), (8, 8, q0_, .int x_608), (2, 0, a0_, .ref q0_), (2, 1, a0_, .ref q1_), (2, 2, a0_, .ref q2_), (2, 3, a0_, .ref q3_), (2, 4, a0_, .ref q4_), (2, 5, a0_, .ref q5_), (0, 0, q2_, .ref q0_), (0, 1, q2_, .ref q1_), (5, 0, q1_, .ref q3_), (5, 1, q1_, .ref q9_), (9, 8, q4_, .int y1_), (7, 3, q3_, .int y2_), (5, 2, q1_, .int y4_), (7, 1, q3_, .int y5_)]) rfl (fun fr_680 H locs hp hMr_680 g => ?_)
        obtain ⟨x_681, h_682, hF_683⟩ := hp
        have hG_684 := cOK.frame hMr_680 go_.2.2.2.1 mq3_ kq3_ (by decide) (by decide) hG_676
        have hG_685 := dOK.frame hMr_680 go_.2.2.2.1 mq3_ kq3_ (by decide) (by decide) hG_677
        have hG_686 := jS.frame hMr_680 go_.2.2.2.1 mq3_ kq3_ (by decide) (by decide) hG_678
        have hG_687 := eOK.frame hMr_680 go_.2.2.2.1 mq2_ kq2_ (by decide) (by decide) hG_679
        have g := g.more hF_683
        subst hQ
        exact W.vret hx hb hr (fun t ht hW => ⟨⟨_, rfl, Or.inr (⟨hG_685, hG_687, x_681, h_682, x_608, h_609, x_668, h_669, y_630, (bd_sub b_631 (by decide)), (g.fcts [0, 5, 2, 3] rfl)⟩), q3_of g hK ht hW⟩, g.2.2.1.F ht⟩) g.2.2.1.2.2 dX2_readMark_243
      · have fc_623 := neq_f c_623
        have b_688 : bd 1 1 x_622 := neX fc_623 bx_622 kb_0 (by decide)
        refine lv_aload_n hx hb dX2_readMark_63 rfl (lv_at hl 2 rfl) ?_
        refine g_getk (C := RX2) (T := TX2) (N := 16) hx hb hts (mc_ inX2) hown hK g rfl 0 (by decide) rfl (hts _ (List.mem_cons_of_mem _ t_416)) (fun _ h9 => h9) 3 rfl dX2_readMark_64 ?_
        refine lv_iconst (v := 5) hx hb dX2_readMark_67 (by decide) ?_
        refine lv_iload_n hx hb dX2_readMark_68 rfl (lv_at hl 0 rfl) ?_
        have kb_5 : bd 5 5 (5 : Int32) := ⟨by decide, by decide⟩
        have go_ := g
        refine g_callv (va_runV (As := [.int 5, .int r_6]) (rest := []) ⟨hx, hb, hml, hown, hts⟩ (r_X8_fail_2 l dC dI L kd tys fr_615 H.size g.2.2.2.1 q0_ mq0_ kq0_ 5 (bd_sub kb_5 (by decide)) r_6 x_608 h_609 (g.fcts [2] rfl)) (cwV 2 hts (gV_ t_1122 t_1107 t_1108 t_184 t_1109) rfl rfl rfl (by decide +kernel) ⟨(Nat.le_of_ble_eq_true rfl), (Nat.le_of_ble_eq_true rfl)⟩) (pre3V g hK mq0_ kq0_ (by decide) (q := (RX8, TX8, 10)) rfl) rfl rfl hl.1 rfl (lv_room (Nat.le_of_ble_eq_true rfl)) dX2_readMark_69 ⟨(Nat.le_of_ble_eq_true rfl), (Nat.le_of_ble_eq_true rfl)⟩) g hK (by decide) (by decide) (fx' := [(2, 6, a0_, .int x_622), (8, 8, q0_, .int x_608), (2, 0, a0_, .ref q0_), (2, 1, a0_, .ref q1_), (2, 2, a0_, .ref q2_), (2, 3, a0_, .ref q3_), (2, 4, a0_, .ref q4_), (2, 5, a0_, .ref q5_), (0, 0, q2_, .ref q0_), (0, 1, q2_, .ref q1_), (5, 0, q1_, .ref q3_), (5, 1, q1_, .ref q9_), (9, 8, q4_, .int y1_), (7, 3, q3_, .int y2_), (6, 12, q5_, .int y3_), (5, 2, q1_, .int y4_), (7, 1, q3_, .int y5_)]) rfl (fun fr_689 H locs hp hMr_689 g => ?_)
        have hF_690 := hp
        have hG_691 := cOK.frame hMr_689 go_.2.2.2.1 mq3_ kq3_ (by decide) (by decide) hG_616
        have hG_692 := dOK.frame hMr_689 go_.2.2.2.1 mq3_ kq3_ (by decide) (by decide) hG_617
        have hG_693 := jS.frame hMr_689 go_.2.2.2.1 mq3_ kq3_ (by decide) (by decide) hG_618
        have hG_694 := eOK.frame hMr_689 go_.2.2.2.1 mq2_ kq2_ (by decide) (by decide) hG_619
        have g := g.more hF_690
        refine lv_aload_n hx hb dX2_readMark_72 rfl (lv_at hl 2 rfl) ?_
        refine lv_iconst (v := 1) hx hb dX2_readMark_73 (by decide) ?_
        have kb_1 : bd 1 1 (1 : Int32) := ⟨by decide, by decide⟩
        have go_ := g
        refine g_put (C := RX2) (T := TX2) (N := 16) hx hb hts (mc_ inX2) tyX2 tyX2_ok nmX2 hown hK g ma0_ ka0_ (by decide) rfl 6 (by decide) (hts _ (List.mem_cons_of_mem _ t_422)) (fun _ h9 => h9) rfl rfl (okV_i (bd_sub kb_1 (by decide))) rfl rfl (by decide) (Or.inr (Or.inl (by decide))) (fx' := [(8, 6, q0_, .int 1201), (8, 8, q0_, .int x_608), (2, 0, a0_, .ref q0_), (2, 1, a0_, .ref q1_), (2, 2, a0_, .ref q2_), (2, 3, a0_, .ref q3_), (2, 4, a0_, .ref q4_), (2, 5, a0_, .ref q5_), (0, 0, q2_, .ref q0_), (0, 1, q2_, .ref q1_), (5, 0, q1_, .ref q3_), (5, 1, q1_, .ref q9_), (9, 8, q4_, .int y1_), (7, 3, q3_, .int y2_), (6, 12, q5_, .int y3_), (5, 2, q1_, .int y4_), (7, 1, q3_, .int y5_)]) rfl dX2_readMark_74 (fun f H locs hM_695 g => ?_)
        have hG_696 := cOK.frame hM_695 go_.2.2.2.1 mq3_ kq3_ (by decide) (by decide) hG_691
        have hG_697 := dOK.frame hM_695 go_.2.2.2.1 mq3_ kq3_ (by decide) (by decide) hG_692
        have hG_698 := jS.frame hM_695 go_.2.2.2.1 mq3_ kq3_ (by decide) (by decide) hG_693
        have hG_699 := eOK.frame hM_695 go_.2.2.2.1 mq2_ kq2_ (by decide) (by decide) hG_694
        refine lv_aload_n hx hb dX2_readMark_77 rfl (lv_at hl 2 rfl) ?_
        refine g_getk (C := RX2) (T := TX2) (N := 16) hx hb hts (mc_ inX2) hown hK g rfl 5 (by decide) rfl (hts _ (List.mem_cons_of_mem _ t_421)) (fun _ h9 => h9) 8 rfl dX2_readMark_78 ?_
        refine lv_dup hx hb dX2_readMark_81 rfl ?_
        refine g_getk (C := RX6) (T := TX6) (N := 13) hx hb hts (mc_ inX6) hown hK g rfl 12 (by decide) rfl (hts _ (List.mem_cons_of_mem _ t_591)) (fun _ h9 => h9) 15 rfl dX2_readMark_82 ?_
        refine lv_iconst (v := 1) hx hb dX2_readMark_85 (by decide) ?_
        refine lv_iadd hx hb dX2_readMark_86 ?_
        refine lv_topi (fun y_700 ey_700 => ?_)
        have ty_700 := add_bd ey_700 b_606 kb_1 (by decide)
        have b_701 : bd 9 9 y_700 := add_rg ty_700 b_606 kb_1 (by decide)
        have go_ := g
        refine g_put (C := RX6) (T := TX6) (N := 13) hx hb hts (mc_ inX6) tyX6 tyX6_ok nmX6 hown hK g mq5_ kq5_ (by decide) rfl 12 (by decide) (hts _ (List.mem_cons_of_mem _ t_591)) (fun _ h9 => h9) rfl rfl (okV_i (bd_sub b_701 (by decide))) rfl rfl (by decide) (Or.inr (Or.inl (by decide))) (fx' := [(2, 6, a0_, .int 1), (8, 6, q0_, .int 1201), (8, 8, q0_, .int x_608), (2, 0, a0_, .ref q0_), (2, 1, a0_, .ref q1_), (2, 2, a0_, .ref q2_), (2, 3, a0_, .ref q3_), (2, 4, a0_, .ref q4_), (2, 5, a0_, .ref q5_), (0, 0, q2_, .ref q0_), (0, 1, q2_, .ref q1_), (5, 0, q1_, .ref q3_), (5, 1, q1_, .ref q9_), (9, 8, q4_, .int y1_), (7, 3, q3_, .int y2_), (5, 2, q1_, .int y4_), (7, 1, q3_, .int y5_)]) rfl dX2_readMark_87 (fun f H locs hM_702 g => ?_)
        have hG_703 := cOK.frame hM_702 go_.2.2.2.1 mq3_ kq3_ (by decide) (by decide) hG_696
        have hG_704 := dOK.frame hM_702 go_.2.2.2.1 mq3_ kq3_ (by decide) (by decide) hG_697
        have hG_705 := jS.frame hM_702 go_.2.2.2.1 mq3_ kq3_ (by decide) (by decide) hG_698
        have hG_706 := eOK.frame hM_702 go_.2.2.2.1 mq2_ kq2_ (by decide) (by decide) hG_699
        refine lv_iload_n hx hb dX2_readMark_90 rfl (lv_at hl 1 rfl) ?_
        by_cases e_707 : r_1 = 16
        · refine lv_topi (fun z_708 ez_708 => ?_)
          obtain rfl : z_708 = 16 := ez_708.trans e_707
          have kb_16 : bd 16 16 (16 : Int32) := ⟨by decide, by decide⟩
          exact bd_no (eqX (eq_f e_707) b_621 kb_16 (lo := 20) (hi := 16) (by decide)) (by decide)
        by_cases e_709 : r_1 = 17
        · refine lv_topi (fun z_710 ez_710 => ?_)
          obtain rfl : z_710 = 17 := ez_710.trans e_709
          have kb_17 : bd 17 17 (17 : Int32) := ⟨by decide, by decide⟩
          exact bd_no (eqX (eq_f e_709) b_621 kb_17 (lo := 20) (hi := 17) (by decide)) (by decide)
        by_cases e_711 : r_1 = 18
        · refine lv_topi (fun z_712 ez_712 => ?_)
          obtain rfl : z_712 = 18 := ez_712.trans e_711
          have kb_18 : bd 18 18 (18 : Int32) := ⟨by decide, by decide⟩
          exact bd_no (eqX (eq_f e_711) b_621 kb_18 (lo := 20) (hi := 18) (by decide)) (by decide)
        by_cases e_713 : r_1 = 19
        · refine lv_topi (fun z_714 ez_714 => ?_)
          obtain rfl : z_714 = 19 := ez_714.trans e_713
          have kb_19 : bd 19 19 (19 : Int32) := ⟨by decide, by decide⟩
          exact bd_no (eqX (eq_f e_713) b_621 kb_19 (lo := 20) (hi := 19) (by decide)) (by decide)
        by_cases e_715 : r_1 = 20
        · refine lv_topi (fun z_716 ez_716 => ?_)
          obtain rfl : z_716 = 20 := ez_716.trans e_715
          have b_717 : bd 20 20 r_1 := eqX (eq_f e_715) b_621 kb_20 (by decide)
          refine lv_tableIn (off := 110) (tgt := 201) hx hb dX2_readMark_91 (by decide) (by decide) rfl (by decide) ?_
          refine lv_aload_n hx hb dX2_readMark_201 rfl (lv_at hl 2 rfl) ?_
          have go_ := g
          refine g_callv (va_runV (As := []) (rest := []) ⟨hx, hb, hml, hown, hts⟩ (r_X2_readOnly_2 l dC dI L kd tys f H.size g.2.2.2.1 a0_ ma0_ ka0_ q0_ mq0_ kq0_ q3_ mq3_ kq3_ q4_ mq4_ kq4_ 1201 kb_1201 x_608 h_609 (g.fcts [4, 7, 8, 2, 3] rfl)) (cwV 0 hts (gV_ t_1330 t_1332 t_38 t_183 t_1333) rfl rfl rfl (by decide +kernel) ⟨(Nat.le_of_ble_eq_true rfl), (Nat.le_of_ble_eq_true rfl)⟩) (pre3V g hK ma0_ ka0_ (by decide) (q := (RX2, TX2, 16)) rfl) rfl rfl hl.1 rfl (lv_room (Nat.le_of_ble_eq_true rfl)) dX2_readMark_202 ⟨(Nat.le_of_ble_eq_true rfl), (Nat.le_of_ble_eq_true rfl)⟩) g hK (by decide) (by decide) (fx' := [(6, 12, q5_, .int y_700), (2, 6, a0_, .int 1), (8, 8, q0_, .int x_608), (2, 0, a0_, .ref q0_), (2, 1, a0_, .ref q1_), (2, 2, a0_, .ref q2_), (2, 3, a0_, .ref q3_), (2, 4, a0_, .ref q4_), (2, 5, a0_, .ref q5_), (0, 0, q2_, .ref q0_), (0, 1, q2_, .ref q1_), (5, 0, q1_, .ref q3_), (5, 1, q1_, .ref q9_), (9, 8, q4_, .int y1_), (7, 3, q3_, .int y2_), (5, 2, q1_, .int y4_), (7, 1, q3_, .int y5_)]) rfl (fun fr_718 H locs hp hMr_718 g => ?_)
          obtain ⟨x_719, h_720, x_721, h_722, hF_723⟩ := hp
          have hG_724 := cOK.frame hMr_718 go_.2.2.2.1 mq3_ kq3_ (by decide) (by decide) hG_703
          have hG_725 := dOK.frame hMr_718 go_.2.2.2.1 mq3_ kq3_ (by decide) (by decide) hG_704
          have hG_726 := jS.frame hMr_718 go_.2.2.2.1 mq3_ kq3_ (by decide) (by decide) hG_705
          have hG_727 := eOK.frame hMr_718 go_.2.2.2.1 mq2_ kq2_ (by decide) (by decide) hG_706
          have g := g.more hF_723
          refine lv_goto (tgt := 234) hx hb dX2_readMark_205 (by decide) ?_
          refine lv_aload_n hx hb dX2_readMark_234 rfl (lv_at hl 2 rfl) ?_
          refine g_getk (C := RX2) (T := TX2) (N := 16) hx hb hts (mc_ inX2) hown hK g rfl 0 (by decide) rfl (hts _ (List.mem_cons_of_mem _ t_416)) (fun _ h9 => h9) 5 rfl dX2_readMark_235 ?_
          refine lv_bipush (v := 59) hx hb dX2_readMark_238 (by decide) ?_
          have go_ := g
          refine g_callv (va_runV (As := [.int 59]) (rest := []) ⟨hx, hb, hml, hown, hts⟩ (r_X8_take_2 l dC dI L kd tys fr_718 H.size g.2.2.2.1 q0_ mq0_ kq0_ 59 x_721 h_722 x_608 h_609 (g.fcts [1, 4] rfl)) (cwV 1 hts (gV_ t_1098 t_1099 t_1100 t_184 t_1101) rfl rfl rfl (by decide +kernel) ⟨(Nat.le_of_ble_eq_true rfl), (Nat.le_of_ble_eq_true rfl)⟩) (pre3V g hK mq0_ kq0_ (by decide) (q := (RX8, TX8, 10)) rfl) rfl rfl hl.1 rfl (lv_room (Nat.le_of_ble_eq_true rfl)) dX2_readMark_240 ⟨(Nat.le_of_ble_eq_true rfl), (Nat.le_of_ble_eq_true rfl)⟩) g hK (by decide) (by decide) (fx' := [(7, 13, q3_, .int x_719), (6, 12, q5_, .int y_700), (2, 6, a0_, .int 1), (8, 8, q0_, .int x_608), (2, 0, a0_, .ref q0_), (2, 1, a0_, .ref q1_), (2, 2, a0_, .ref q2_), (2, 3, a0_, .ref q3_), (2, 4, a0_, .ref q4_), (2, 5, a0_, .ref q5_), (0, 0, q2_, .ref q0_), (0, 1, q2_, .ref q1_), (5, 0, q1_, .ref q3_), (5, 1, q1_, .ref q9_), (9, 8, q4_, .int y1_), (7, 3, q3_, .int y2_), (5, 2, q1_, .int y4_), (7, 1, q3_, .int y5_)]) rfl (fun fr_728 H locs hp hMr_728 g => ?_)
          obtain ⟨x_729, h_730, hF_731⟩ := hp
          have hG_732 := cOK.frame hMr_728 go_.2.2.2.1 mq3_ kq3_ (by decide) (by decide) hG_724
          have hG_733 := dOK.frame hMr_728 go_.2.2.2.1 mq3_ kq3_ (by decide) (by decide) hG_725
          have hG_734 := jS.frame hMr_728 go_.2.2.2.1 mq3_ kq3_ (by decide) (by decide) hG_726
          have hG_735 := eOK.frame hMr_728 go_.2.2.2.1 mq2_ kq2_ (by decide) (by decide) hG_727
          have g := g.more hF_731
          subst hQ
          exact W.vret hx hb hr (fun t ht hW => ⟨⟨_, rfl, Or.inr (⟨hG_733, hG_735, x_729, h_730, x_608, h_609, x_719, h_720, y_700, (bd_sub b_701 (by decide)), (g.fcts [0, 4, 1, 2] rfl)⟩), q3_of g hK ht hW⟩, g.2.2.1.F ht⟩) g.2.2.1.2.2 dX2_readMark_243
        refine lv_tableOut (tgt := 208) hx hb dX2_readMark_91 (by have a0 : r_1.toInt ≠ 16 := fun h => e_707 (Int32.toInt_inj.mp (h.trans (by decide))); have a1 : r_1.toInt ≠ 17 := fun h => e_709 (Int32.toInt_inj.mp (h.trans (by decide))); have a2 : r_1.toInt ≠ 18 := fun h => e_711 (Int32.toInt_inj.mp (h.trans (by decide))); have a3 : r_1.toInt ≠ 19 := fun h => e_713 (Int32.toInt_inj.mp (h.trans (by decide))); have a4 : r_1.toInt ≠ 20 := fun h => e_715 (Int32.toInt_inj.mp (h.trans (by decide))); omega) (by decide) ?_
        refine lv_aload_n hx hb dX2_readMark_208 rfl (lv_at hl 2 rfl) ?_
        refine g_getk (C := RX2) (T := TX2) (N := 16) hx hb hts (mc_ inX2) hown hK g rfl 3 (by decide) rfl (hts _ (List.mem_cons_of_mem _ t_419)) (fun _ h9 => h9) 7 rfl dX2_readMark_209 ?_
        refine lv_bipush (v := 6) hx hb dX2_readMark_212 (by decide) ?_
        refine lv_aload_n hx hb dX2_readMark_214 rfl (lv_at hl 2 rfl) ?_
        refine g_getk (C := RX2) (T := TX2) (N := 16) hx hb hts (mc_ inX2) hown hK g rfl 1 (by decide) rfl (hts _ (List.mem_cons_of_mem _ t_417)) (fun _ h9 => h9) 5 rfl dX2_readMark_215 ?_
        refine g_getk (C := RX5) (T := TX5) (N := 9) hx hb hts (mc_ inX5) hown hK g rfl 2 (by decide) rfl (hts _ (List.mem_cons_of_mem _ t_333)) (fun _ h9 => h9) 16 rfl dX2_readMark_218 ?_
        refine lv_iload_n hx hb dX2_readMark_221 rfl (lv_at hl 0 rfl) ?_
        have go_ := g
        refine g_calli (va_runV (As := [.int 6, .int y4_, .int r_6]) (rest := []) ⟨hx, hb, hml, hown, hts⟩ (r_X7_addMark l dC dI L kd tys f H.size g.2.2.2.1 q3_ mq3_ kq3_ 6 y4_ r_6) (cwV 3 hts (gV_ t_1173 t_1174 t_1175 t_191 t_1176) rfl rfl rfl (by decide +kernel) ⟨(Nat.le_of_ble_eq_true rfl), (Nat.le_of_ble_eq_true rfl)⟩) (pre3V g hK mq3_ kq3_ (by decide) (q := (RX7, TX7, 19)) rfl) rfl rfl hl.1 rfl (lv_room (Nat.le_of_ble_eq_true rfl)) dX2_readMark_222 ⟨(Nat.le_of_ble_eq_true rfl), (Nat.le_of_ble_eq_true rfl)⟩) g hK (by decide) (by decide) (fx' := [(6, 12, q5_, .int y_700), (2, 6, a0_, .int 1), (8, 6, q0_, .int 1201), (8, 8, q0_, .int x_608), (2, 0, a0_, .ref q0_), (2, 1, a0_, .ref q1_), (2, 2, a0_, .ref q2_), (2, 3, a0_, .ref q3_), (2, 4, a0_, .ref q4_), (2, 5, a0_, .ref q5_), (0, 0, q2_, .ref q0_), (0, 1, q2_, .ref q1_), (5, 0, q1_, .ref q3_), (5, 1, q1_, .ref q9_), (9, 8, q4_, .int y1_), (7, 3, q3_, .int y2_), (5, 2, q1_, .int y4_), (7, 1, q3_, .int y5_)]) rfl (fun r_736 fr_736 H locs hp hMr_736 g => ?_)
        obtain ⟨h_737, x_738, h_739, hF_740⟩ := hp
        have hG_741 := cOK.frame hMr_736 go_.2.2.2.1 mq3_ kq3_ (by decide) (by decide) hG_703
        have hG_742 := dOK.frame hMr_736 go_.2.2.2.1 mq3_ kq3_ (by decide) (by decide) hG_704
        have hG_743 := jS.frame hMr_736 go_.2.2.2.1 mq3_ kq3_ (by decide) (by decide) hG_705
        have hG_744 := eOK.frame hMr_736 go_.2.2.2.1 mq2_ kq2_ (by decide) (by decide) hG_706
        have g := g.more hF_740
        refine lv_pop hx hb dX2_readMark_225 rfl ?_
        refine lv_aload_n hx hb dX2_readMark_226 rfl (lv_at hl 2 rfl) ?_
        refine g_getk (C := RX2) (T := TX2) (N := 16) hx hb hts (mc_ inX2) hown hK g rfl 5 (by decide) rfl (hts _ (List.mem_cons_of_mem _ t_421)) (fun _ h9 => h9) 10 rfl dX2_readMark_227 ?_
        refine lv_iconst (v := 1) hx hb dX2_readMark_230 (by decide) ?_
        have go_ := g
        refine g_put (C := RX6) (T := TX6) (N := 13) hx hb hts (mc_ inX6) tyX6 tyX6_ok nmX6 hown hK g mq5_ kq5_ (by decide) rfl 6 (by decide) (hts _ (List.mem_cons_of_mem _ t_578)) (fun _ h9 => h9) rfl rfl (okV_i (bd_sub kb_1 (by decide))) rfl rfl (by decide) (Or.inr (Or.inl (by decide))) (fx' := [(7, 13, q3_, .int x_738), (6, 12, q5_, .int y_700), (2, 6, a0_, .int 1), (8, 6, q0_, .int 1201), (8, 8, q0_, .int x_608), (2, 0, a0_, .ref q0_), (2, 1, a0_, .ref q1_), (2, 2, a0_, .ref q2_), (2, 3, a0_, .ref q3_), (2, 4, a0_, .ref q4_), (2, 5, a0_, .ref q5_), (0, 0, q2_, .ref q0_), (0, 1, q2_, .ref q1_), (5, 0, q1_, .ref q3_), (5, 1, q1_, .ref q9_), (9, 8, q4_, .int y1_), (7, 3, q3_, .int y2_), (5, 2, q1_, .int y4_), (7, 1, q3_, .int y5_)]) rfl dX2_readMark_231 (fun f H locs hM_745 g => ?_)
        have hG_746 := cOK.frame hM_745 go_.2.2.2.1 mq3_ kq3_ (by decide) (by decide) hG_741
        have hG_747 := dOK.frame hM_745 go_.2.2.2.1 mq3_ kq3_ (by decide) (by decide) hG_742
        have hG_748 := jS.frame hM_745 go_.2.2.2.1 mq3_ kq3_ (by decide) (by decide) hG_743
        have hG_749 := eOK.frame hM_745 go_.2.2.2.1 mq2_ kq2_ (by decide) (by decide) hG_744
        refine lv_aload_n hx hb dX2_readMark_234 rfl (lv_at hl 2 rfl) ?_
        refine g_getk (C := RX2) (T := TX2) (N := 16) hx hb hts (mc_ inX2) hown hK g rfl 0 (by decide) rfl (hts _ (List.mem_cons_of_mem _ t_416)) (fun _ h9 => h9) 6 rfl dX2_readMark_235 ?_
        refine lv_bipush (v := 59) hx hb dX2_readMark_238 (by decide) ?_
        have go_ := g
        refine g_callv (va_runV (As := [.int 59]) (rest := []) ⟨hx, hb, hml, hown, hts⟩ (r_X8_take_2 l dC dI L kd tys f H.size g.2.2.2.1 q0_ mq0_ kq0_ 59 1201 kb_1201 x_608 h_609 (g.fcts [4, 5] rfl)) (cwV 1 hts (gV_ t_1098 t_1099 t_1100 t_184 t_1101) rfl rfl rfl (by decide +kernel) ⟨(Nat.le_of_ble_eq_true rfl), (Nat.le_of_ble_eq_true rfl)⟩) (pre3V g hK mq0_ kq0_ (by decide) (q := (RX8, TX8, 10)) rfl) rfl rfl hl.1 rfl (lv_room (Nat.le_of_ble_eq_true rfl)) dX2_readMark_240 ⟨(Nat.le_of_ble_eq_true rfl), (Nat.le_of_ble_eq_true rfl)⟩) g hK (by decide) (by decide) (fx' := [(6, 6, q5_, .int 1), (7, 13, q3_, .int x_738), (6, 12, q5_, .int y_700), (2, 6, a0_, .int 1), (8, 8, q0_, .int x_608), (2, 0, a0_, .ref q0_), (2, 1, a0_, .ref q1_), (2, 2, a0_, .ref q2_), (2, 3, a0_, .ref q3_), (2, 4, a0_, .ref q4_), (2, 5, a0_, .ref q5_), (0, 0, q2_, .ref q0_), (0, 1, q2_, .ref q1_), (5, 0, q1_, .ref q3_), (5, 1, q1_, .ref q9_), (9, 8, q4_, .int y1_), (7, 3, q3_, .int y2_), (5, 2, q1_, .int y4_), (7, 1, q3_, .int y5_)]) rfl (fun fr_750 H locs hp hMr_750 g => ?_)
        obtain ⟨x_751, h_752, hF_753⟩ := hp
        have hG_754 := cOK.frame hMr_750 go_.2.2.2.1 mq3_ kq3_ (by decide) (by decide) hG_746
        have hG_755 := dOK.frame hMr_750 go_.2.2.2.1 mq3_ kq3_ (by decide) (by decide) hG_747
        have hG_756 := jS.frame hMr_750 go_.2.2.2.1 mq3_ kq3_ (by decide) (by decide) hG_748
        have hG_757 := eOK.frame hMr_750 go_.2.2.2.1 mq2_ kq2_ (by decide) (by decide) hG_749
        have g := g.more hF_753
        subst hQ
        exact W.vret hx hb hr (fun t ht hW => ⟨⟨_, rfl, Or.inr (⟨hG_755, hG_757, x_751, h_752, x_608, h_609, x_738, h_739, y_700, (bd_sub b_701 (by decide)), (g.fcts [0, 5, 2, 3] rfl)⟩), q3_of g hK ht hW⟩, g.2.2.1.F ht⟩) g.2.2.1.2.2 dX2_readMark_243
    · have fc_620 := neq_f c_620
      refine lv_iload_n hx hb dX2_readMark_50 rfl (lv_at hl 1 rfl) ?_
      refine lv_bipush (v := 21) hx hb dX2_readMark_51 (by decide) ?_
      have kb_21 : bd 21 21 (21 : Int32) := ⟨by decide, by decide⟩
      refine lv_icmp_ne (tgt := 77) hx hb dX2_readMark_53 (by decide) (fun c_758 => ?_) (fun c_758 => ?_)
      · have fc_758 := neq_f c_758
        refine lv_aload_n hx hb dX2_readMark_77 rfl (lv_at hl 2 rfl) ?_
        refine g_getk (C := RX2) (T := TX2) (N := 16) hx hb hts (mc_ inX2) hown hK g rfl 5 (by decide) rfl (hts _ (List.mem_cons_of_mem _ t_421)) (fun _ h9 => h9) 7 rfl dX2_readMark_78 ?_
        refine lv_dup hx hb dX2_readMark_81 rfl ?_
        refine g_getk (C := RX6) (T := TX6) (N := 13) hx hb hts (mc_ inX6) hown hK g rfl 12 (by decide) rfl (hts _ (List.mem_cons_of_mem _ t_591)) (fun _ h9 => h9) 14 rfl dX2_readMark_82 ?_
        refine lv_iconst (v := 1) hx hb dX2_readMark_85 (by decide) ?_
        have kb_1 : bd 1 1 (1 : Int32) := ⟨by decide, by decide⟩
        refine lv_iadd hx hb dX2_readMark_86 ?_
        refine lv_topi (fun y_759 ey_759 => ?_)
        have ty_759 := add_bd ey_759 b_606 kb_1 (by decide)
        have b_760 : bd 9 9 y_759 := add_rg ty_759 b_606 kb_1 (by decide)
        have go_ := g
        refine g_put (C := RX6) (T := TX6) (N := 13) hx hb hts (mc_ inX6) tyX6 tyX6_ok nmX6 hown hK g mq5_ kq5_ (by decide) rfl 12 (by decide) (hts _ (List.mem_cons_of_mem _ t_591)) (fun _ h9 => h9) rfl rfl (okV_i (bd_sub b_760 (by decide))) rfl rfl (by decide) (Or.inr (Or.inl (by decide))) (fx' := [(8, 6, q0_, .int 1201), (8, 8, q0_, .int x_608), (2, 0, a0_, .ref q0_), (2, 1, a0_, .ref q1_), (2, 2, a0_, .ref q2_), (2, 3, a0_, .ref q3_), (2, 4, a0_, .ref q4_), (2, 5, a0_, .ref q5_), (0, 0, q2_, .ref q0_), (0, 1, q2_, .ref q1_), (5, 0, q1_, .ref q3_), (5, 1, q1_, .ref q9_), (9, 8, q4_, .int y1_), (7, 3, q3_, .int y2_), (5, 2, q1_, .int y4_), (7, 1, q3_, .int y5_)]) rfl dX2_readMark_87 (fun f H locs hM_761 g => ?_)
        have hG_762 := cOK.frame hM_761 go_.2.2.2.1 mq3_ kq3_ (by decide) (by decide) hG_616
        have hG_763 := dOK.frame hM_761 go_.2.2.2.1 mq3_ kq3_ (by decide) (by decide) hG_617
        have hG_764 := jS.frame hM_761 go_.2.2.2.1 mq3_ kq3_ (by decide) (by decide) hG_618
        have hG_765 := eOK.frame hM_761 go_.2.2.2.1 mq2_ kq2_ (by decide) (by decide) hG_619
        refine lv_iload_n hx hb dX2_readMark_90 rfl (lv_at hl 1 rfl) ?_
        by_cases e_766 : r_1 = 16
        · refine lv_topi (fun z_767 ez_767 => ?_)
          obtain rfl : z_767 = 16 := ez_767.trans e_766
          have kb_16 : bd 16 16 (16 : Int32) := ⟨by decide, by decide⟩
          have b_768 : bd 16 16 r_1 := eqX (eq_f e_766) (bdT r_1) kb_16 (by decide)
          refine lv_tableIn (off := 33) (tgt := 124) hx hb dX2_readMark_91 (by decide) (by decide) rfl (by decide) ?_
          refine lv_aload_n hx hb dX2_readMark_124 rfl (lv_at hl 2 rfl) ?_
          refine g_getk (C := RX2) (T := TX2) (N := 16) hx hb hts (mc_ inX2) hown hK g rfl 3 (by decide) rfl (hts _ (List.mem_cons_of_mem _ t_419)) (fun _ h9 => h9) 6 rfl dX2_readMark_125 ?_
          refine lv_iconst (v := 1) hx hb dX2_readMark_128 (by decide) ?_
          refine lv_aload_n hx hb dX2_readMark_129 rfl (lv_at hl 2 rfl) ?_
          refine g_getk (C := RX2) (T := TX2) (N := 16) hx hb hts (mc_ inX2) hown hK g rfl 1 (by decide) rfl (hts _ (List.mem_cons_of_mem _ t_417)) (fun _ h9 => h9) 4 rfl dX2_readMark_130 ?_
          refine g_getk (C := RX5) (T := TX5) (N := 9) hx hb hts (mc_ inX5) hown hK g rfl 2 (by decide) rfl (hts _ (List.mem_cons_of_mem _ t_333)) (fun _ h9 => h9) 15 rfl dX2_readMark_133 ?_
          refine lv_aload_n hx hb dX2_readMark_136 rfl (lv_at hl 2 rfl) ?_
          refine g_getk (C := RX2) (T := TX2) (N := 16) hx hb hts (mc_ inX2) hown hK g rfl 0 (by decide) rfl (hts _ (List.mem_cons_of_mem _ t_416)) (fun _ h9 => h9) 3 rfl dX2_readMark_137 ?_
          have go_ := g
          refine g_calli (va_runV (As := []) (rest := [.int y4_, .int 1, .ref q3_]) ⟨hx, hb, hml, hown, hts⟩ (r_X8_place l dC dI L kd tys f H.size g.2.2.2.1 q0_ mq0_ kq0_) (cwV 0 hts (gV_ t_1110 t_1111 t_1112 t_184 t_1113) rfl rfl rfl (by decide +kernel) ⟨(Nat.le_of_ble_eq_true rfl), (Nat.le_of_ble_eq_true rfl)⟩) (pre3V g hK mq0_ kq0_ (by decide) (q := (RX8, TX8, 10)) rfl) rfl rfl hl.1 rfl (lv_room (Nat.le_of_ble_eq_true rfl)) dX2_readMark_140 ⟨(Nat.le_of_ble_eq_true rfl), (Nat.le_of_ble_eq_true rfl)⟩) g hK (by decide) (by decide) (fx' := [(6, 12, q5_, .int y_759), (8, 6, q0_, .int 1201), (8, 8, q0_, .int x_608), (2, 0, a0_, .ref q0_), (2, 1, a0_, .ref q1_), (2, 2, a0_, .ref q2_), (2, 3, a0_, .ref q3_), (2, 4, a0_, .ref q4_), (2, 5, a0_, .ref q5_), (0, 0, q2_, .ref q0_), (0, 1, q2_, .ref q1_), (5, 0, q1_, .ref q3_), (5, 1, q1_, .ref q9_), (9, 8, q4_, .int y1_), (7, 3, q3_, .int y2_), (5, 2, q1_, .int y4_), (7, 1, q3_, .int y5_)]) rfl (fun r_769 fr_769 H locs hp hMr_769 g => ?_)
          have hG_770 := cOK.frame hMr_769 go_.2.2.2.1 mq3_ kq3_ (by decide) (by decide) hG_762
          have hG_771 := dOK.frame hMr_769 go_.2.2.2.1 mq3_ kq3_ (by decide) (by decide) hG_763
          have hG_772 := jS.frame hMr_769 go_.2.2.2.1 mq3_ kq3_ (by decide) (by decide) hG_764
          have hG_773 := eOK.frame hMr_769 go_.2.2.2.1 mq2_ kq2_ (by decide) (by decide) hG_765
          have go_ := g
          refine g_calli (va_runV (As := [.int 1, .int y4_, .int r_769]) (rest := []) ⟨hx, hb, hml, hown, hts⟩ (r_X7_addMark l dC dI L kd tys fr_769 H.size g.2.2.2.1 q3_ mq3_ kq3_ 1 y4_ r_769) (cwV 3 hts (gV_ t_1173 t_1174 t_1175 t_191 t_1176) rfl rfl rfl (by decide +kernel) ⟨(Nat.le_of_ble_eq_true rfl), (Nat.le_of_ble_eq_true rfl)⟩) (pre3V g hK mq3_ kq3_ (by decide) (q := (RX7, TX7, 19)) rfl) rfl rfl hl.1 rfl (lv_room (Nat.le_of_ble_eq_true rfl)) dX2_readMark_143 ⟨(Nat.le_of_ble_eq_true rfl), (Nat.le_of_ble_eq_true rfl)⟩) g hK (by decide) (by decide) (fx' := [(6, 12, q5_, .int y_759), (8, 6, q0_, .int 1201), (8, 8, q0_, .int x_608), (2, 0, a0_, .ref q0_), (2, 1, a0_, .ref q1_), (2, 2, a0_, .ref q2_), (2, 3, a0_, .ref q3_), (2, 4, a0_, .ref q4_), (2, 5, a0_, .ref q5_), (0, 0, q2_, .ref q0_), (0, 1, q2_, .ref q1_), (5, 0, q1_, .ref q3_), (5, 1, q1_, .ref q9_), (9, 8, q4_, .int y1_), (7, 3, q3_, .int y2_), (5, 2, q1_, .int y4_), (7, 1, q3_, .int y5_)]) rfl (fun r_774 fr_774 H locs hp hMr_774 g => ?_)
          obtain ⟨h_775, x_776, h_777, hF_778⟩ := hp
          have hG_779 := cOK.frame hMr_774 go_.2.2.2.1 mq3_ kq3_ (by decide) (by decide) hG_770
          have hG_780 := dOK.frame hMr_774 go_.2.2.2.1 mq3_ kq3_ (by decide) (by decide) hG_771
          have hG_781 := jS.frame hMr_774 go_.2.2.2.1 mq3_ kq3_ (by decide) (by decide) hG_772
          have hG_782 := eOK.frame hMr_774 go_.2.2.2.1 mq2_ kq2_ (by decide) (by decide) hG_773
          have g := g.more hF_778
          refine lv_pop hx hb dX2_readMark_146 rfl ?_
          refine lv_aload_n hx hb dX2_readMark_147 rfl (lv_at hl 2 rfl) ?_
          refine lv_iconst (v := 0) hx hb dX2_readMark_148 (by decide) ?_
          have kb_0 : bd 0 0 (0 : Int32) := ⟨by decide, by decide⟩
          have go_ := g
          refine g_callv (va_runV (As := [.int 0]) (rest := []) ⟨hx, hb, hml, hown, hts⟩ (r_X2_readAsked_11 l dC dI L kd tys fr_774 H.size g.2.2.2.1 a0_ ma0_ ka0_ 0 kb_0 q0_ mq0_ kq0_ q1_ mq1_ kq1_ q2_ mq2_ kq2_ q3_ mq3_ kq3_ q9_ mq9_ kq9_ x_776 h_777 1201 kb_1201 x_608 h_609 y2_ by2_ y4_ by4_ y5_ by5_ T_ hG_782 hG_780 (g.fcts [4, 5, 6, 7, 10, 11, 12, 13, 0, 2, 3, 15, 16, 17] rfl)) (cwV 1 hts (gV_ t_1178 t_1180 t_13 t_183 t_1181) rfl rfl rfl (by decide +kernel) ⟨(Nat.le_of_ble_eq_true rfl), (Nat.le_of_ble_eq_true rfl)⟩) (pre3V g hK ma0_ ka0_ (by decide) (q := (RX2, TX2, 16)) rfl) rfl rfl hl.1 rfl (lv_room (Nat.le_of_ble_eq_true rfl)) dX2_readMark_149 ⟨(Nat.le_of_ble_eq_true rfl), (Nat.le_of_ble_eq_true rfl)⟩) g hK (by decide) (by decide) (fx' := [(7, 13, q3_, .int x_776), (6, 12, q5_, .int y_759), (8, 6, q0_, .int 1201), (8, 8, q0_, .int x_608), (2, 0, a0_, .ref q0_), (2, 1, a0_, .ref q1_), (2, 2, a0_, .ref q2_), (2, 3, a0_, .ref q3_), (2, 4, a0_, .ref q4_), (2, 5, a0_, .ref q5_), (0, 0, q2_, .ref q0_), (0, 1, q2_, .ref q1_), (5, 0, q1_, .ref q3_), (5, 1, q1_, .ref q9_), (9, 8, q4_, .int y1_), (7, 3, q3_, .int y2_), (5, 2, q1_, .int y4_), (7, 1, q3_, .int y5_)]) rfl (fun fr_783 H locs hp hMr_783 g => ?_)
          obtain ⟨hG_784, hF_785⟩ := hp
          have hG_786 := eOK.frame hMr_783 go_.2.2.2.1 mq2_ kq2_ (by decide) (by decide) hG_782
          have g := g.more hF_785
          refine lv_goto (tgt := 234) hx hb dX2_readMark_152 (by decide) ?_
          refine lv_aload_n hx hb dX2_readMark_234 rfl (lv_at hl 2 rfl) ?_
          refine g_getk (C := RX2) (T := TX2) (N := 16) hx hb hts (mc_ inX2) hown hK g rfl 0 (by decide) rfl (hts _ (List.mem_cons_of_mem _ t_416)) (fun _ h9 => h9) 12 rfl dX2_readMark_235 ?_
          refine lv_bipush (v := 59) hx hb dX2_readMark_238 (by decide) ?_
          have go_ := g
          refine g_callv (va_runV (As := [.int 59]) (rest := []) ⟨hx, hb, hml, hown, hts⟩ (r_X8_take_2 l dC dI L kd tys fr_783 H.size g.2.2.2.1 q0_ mq0_ kq0_ 59 1201 kb_1201 x_608 h_609 (g.fcts [10, 11] rfl)) (cwV 1 hts (gV_ t_1098 t_1099 t_1100 t_184 t_1101) rfl rfl rfl (by decide +kernel) ⟨(Nat.le_of_ble_eq_true rfl), (Nat.le_of_ble_eq_true rfl)⟩) (pre3V g hK mq0_ kq0_ (by decide) (q := (RX8, TX8, 10)) rfl) rfl rfl hl.1 rfl (lv_room (Nat.le_of_ble_eq_true rfl)) dX2_readMark_240 ⟨(Nat.le_of_ble_eq_true rfl), (Nat.le_of_ble_eq_true rfl)⟩) g hK (by decide) (by decide) (fx' := [(5, 8, q1_, .int 0), (5, 7, q1_, .int 0), (0, 13, q2_, .int 0), (0, 12, q2_, .int 1), (0, 11, q2_, .int 0), (0, 10, q2_, .int 0), (0, 8, q2_, .int 0), (0, 2, q2_, .ref q3_), (7, 13, q3_, .int x_776), (6, 12, q5_, .int y_759), (8, 8, q0_, .int x_608), (2, 0, a0_, .ref q0_), (2, 1, a0_, .ref q1_), (2, 2, a0_, .ref q2_), (2, 3, a0_, .ref q3_), (2, 4, a0_, .ref q4_), (2, 5, a0_, .ref q5_), (0, 0, q2_, .ref q0_), (0, 1, q2_, .ref q1_), (5, 0, q1_, .ref q3_), (5, 1, q1_, .ref q9_), (9, 8, q4_, .int y1_), (7, 3, q3_, .int y2_), (5, 2, q1_, .int y4_), (7, 1, q3_, .int y5_)]) rfl (fun fr_787 H locs hp hMr_787 g => ?_)
          obtain ⟨x_788, h_789, hF_790⟩ := hp
          have hG_791 := dOK.frame hMr_787 go_.2.2.2.1 mq3_ kq3_ (by decide) (by decide) hG_784
          have hG_792 := eOK.frame hMr_787 go_.2.2.2.1 mq2_ kq2_ (by decide) (by decide) hG_786
          have g := g.more hF_790
          subst hQ
          exact W.vret hx hb hr (fun t ht hW => ⟨⟨_, rfl, Or.inr (⟨hG_791, hG_792, x_788, h_789, x_608, h_609, x_776, h_777, y_759, (bd_sub b_760 (by decide)), (g.fcts [0, 11, 9, 10] rfl)⟩), q3_of g hK ht hW⟩, g.2.2.1.F ht⟩) g.2.2.1.2.2 dX2_readMark_243
        by_cases e_793 : r_1 = 17
        · refine lv_topi (fun z_794 ez_794 => ?_)
          obtain rfl : z_794 = 17 := ez_794.trans e_793
          have kb_17 : bd 17 17 (17 : Int32) := ⟨by decide, by decide⟩
          have b_795 : bd 17 17 r_1 := eqX (eq_f e_793) (bdT r_1) kb_17 (by decide)
          refine lv_tableIn (off := 64) (tgt := 155) hx hb dX2_readMark_91 (by decide) (by decide) rfl (by decide) ?_
          refine lv_aload_n hx hb dX2_readMark_155 rfl (lv_at hl 2 rfl) ?_
          refine g_getk (C := RX2) (T := TX2) (N := 16) hx hb hts (mc_ inX2) hown hK g rfl 3 (by decide) rfl (hts _ (List.mem_cons_of_mem _ t_419)) (fun _ h9 => h9) 6 rfl dX2_readMark_156 ?_
          refine lv_iconst (v := 2) hx hb dX2_readMark_159 (by decide) ?_
          refine lv_aload_n hx hb dX2_readMark_160 rfl (lv_at hl 2 rfl) ?_
          refine g_getk (C := RX2) (T := TX2) (N := 16) hx hb hts (mc_ inX2) hown hK g rfl 1 (by decide) rfl (hts _ (List.mem_cons_of_mem _ t_417)) (fun _ h9 => h9) 4 rfl dX2_readMark_161 ?_
          refine g_getk (C := RX5) (T := TX5) (N := 9) hx hb hts (mc_ inX5) hown hK g rfl 2 (by decide) rfl (hts _ (List.mem_cons_of_mem _ t_333)) (fun _ h9 => h9) 15 rfl dX2_readMark_164 ?_
          refine lv_aload_n hx hb dX2_readMark_167 rfl (lv_at hl 2 rfl) ?_
          refine g_getk (C := RX2) (T := TX2) (N := 16) hx hb hts (mc_ inX2) hown hK g rfl 0 (by decide) rfl (hts _ (List.mem_cons_of_mem _ t_416)) (fun _ h9 => h9) 3 rfl dX2_readMark_168 ?_
          have go_ := g
          refine g_calli (va_runV (As := []) (rest := [.int y4_, .int 2, .ref q3_]) ⟨hx, hb, hml, hown, hts⟩ (r_X8_place l dC dI L kd tys f H.size g.2.2.2.1 q0_ mq0_ kq0_) (cwV 0 hts (gV_ t_1110 t_1111 t_1112 t_184 t_1113) rfl rfl rfl (by decide +kernel) ⟨(Nat.le_of_ble_eq_true rfl), (Nat.le_of_ble_eq_true rfl)⟩) (pre3V g hK mq0_ kq0_ (by decide) (q := (RX8, TX8, 10)) rfl) rfl rfl hl.1 rfl (lv_room (Nat.le_of_ble_eq_true rfl)) dX2_readMark_171 ⟨(Nat.le_of_ble_eq_true rfl), (Nat.le_of_ble_eq_true rfl)⟩) g hK (by decide) (by decide) (fx' := [(6, 12, q5_, .int y_759), (8, 6, q0_, .int 1201), (8, 8, q0_, .int x_608), (2, 0, a0_, .ref q0_), (2, 1, a0_, .ref q1_), (2, 2, a0_, .ref q2_), (2, 3, a0_, .ref q3_), (2, 4, a0_, .ref q4_), (2, 5, a0_, .ref q5_), (0, 0, q2_, .ref q0_), (0, 1, q2_, .ref q1_), (5, 0, q1_, .ref q3_), (5, 1, q1_, .ref q9_), (9, 8, q4_, .int y1_), (7, 3, q3_, .int y2_), (5, 2, q1_, .int y4_), (7, 1, q3_, .int y5_)]) rfl (fun r_796 fr_796 H locs hp hMr_796 g => ?_)
          have hG_797 := cOK.frame hMr_796 go_.2.2.2.1 mq3_ kq3_ (by decide) (by decide) hG_762
          have hG_798 := dOK.frame hMr_796 go_.2.2.2.1 mq3_ kq3_ (by decide) (by decide) hG_763
          have hG_799 := jS.frame hMr_796 go_.2.2.2.1 mq3_ kq3_ (by decide) (by decide) hG_764
          have hG_800 := eOK.frame hMr_796 go_.2.2.2.1 mq2_ kq2_ (by decide) (by decide) hG_765
          have go_ := g
          refine g_calli (va_runV (As := [.int 2, .int y4_, .int r_796]) (rest := []) ⟨hx, hb, hml, hown, hts⟩ (r_X7_addMark l dC dI L kd tys fr_796 H.size g.2.2.2.1 q3_ mq3_ kq3_ 2 y4_ r_796) (cwV 3 hts (gV_ t_1173 t_1174 t_1175 t_191 t_1176) rfl rfl rfl (by decide +kernel) ⟨(Nat.le_of_ble_eq_true rfl), (Nat.le_of_ble_eq_true rfl)⟩) (pre3V g hK mq3_ kq3_ (by decide) (q := (RX7, TX7, 19)) rfl) rfl rfl hl.1 rfl (lv_room (Nat.le_of_ble_eq_true rfl)) dX2_readMark_174 ⟨(Nat.le_of_ble_eq_true rfl), (Nat.le_of_ble_eq_true rfl)⟩) g hK (by decide) (by decide) (fx' := [(6, 12, q5_, .int y_759), (8, 6, q0_, .int 1201), (8, 8, q0_, .int x_608), (2, 0, a0_, .ref q0_), (2, 1, a0_, .ref q1_), (2, 2, a0_, .ref q2_), (2, 3, a0_, .ref q3_), (2, 4, a0_, .ref q4_), (2, 5, a0_, .ref q5_), (0, 0, q2_, .ref q0_), (0, 1, q2_, .ref q1_), (5, 0, q1_, .ref q3_), (5, 1, q1_, .ref q9_), (9, 8, q4_, .int y1_), (7, 3, q3_, .int y2_), (5, 2, q1_, .int y4_), (7, 1, q3_, .int y5_)]) rfl (fun r_801 fr_801 H locs hp hMr_801 g => ?_)
          obtain ⟨h_802, x_803, h_804, hF_805⟩ := hp
          have hG_806 := cOK.frame hMr_801 go_.2.2.2.1 mq3_ kq3_ (by decide) (by decide) hG_797
          have hG_807 := dOK.frame hMr_801 go_.2.2.2.1 mq3_ kq3_ (by decide) (by decide) hG_798
          have hG_808 := jS.frame hMr_801 go_.2.2.2.1 mq3_ kq3_ (by decide) (by decide) hG_799
          have hG_809 := eOK.frame hMr_801 go_.2.2.2.1 mq2_ kq2_ (by decide) (by decide) hG_800
          have g := g.more hF_805
          refine lv_pop hx hb dX2_readMark_177 rfl ?_
          refine lv_aload_n hx hb dX2_readMark_178 rfl (lv_at hl 2 rfl) ?_
          refine lv_iconst (v := 1) hx hb dX2_readMark_179 (by decide) ?_
          have go_ := g
          refine g_callv (va_runV (As := [.int 1]) (rest := []) ⟨hx, hb, hml, hown, hts⟩ (r_X2_readAsked_12 l dC dI L kd tys fr_801 H.size g.2.2.2.1 a0_ ma0_ ka0_ 1 kb_1 q0_ mq0_ kq0_ q1_ mq1_ kq1_ q2_ mq2_ kq2_ q3_ mq3_ kq3_ q9_ mq9_ kq9_ x_803 h_804 1201 kb_1201 x_608 h_609 y2_ by2_ y4_ by4_ y5_ by5_ T_ hG_809 hG_807 (g.fcts [4, 5, 6, 7, 10, 11, 12, 13, 0, 2, 3, 15, 16, 17] rfl)) (cwV 1 hts (gV_ t_1178 t_1180 t_13 t_183 t_1181) rfl rfl rfl (by decide +kernel) ⟨(Nat.le_of_ble_eq_true rfl), (Nat.le_of_ble_eq_true rfl)⟩) (pre3V g hK ma0_ ka0_ (by decide) (q := (RX2, TX2, 16)) rfl) rfl rfl hl.1 rfl (lv_room (Nat.le_of_ble_eq_true rfl)) dX2_readMark_180 ⟨(Nat.le_of_ble_eq_true rfl), (Nat.le_of_ble_eq_true rfl)⟩) g hK (by decide) (by decide) (fx' := [(7, 13, q3_, .int x_803), (6, 12, q5_, .int y_759), (8, 6, q0_, .int 1201), (8, 8, q0_, .int x_608), (2, 0, a0_, .ref q0_), (2, 1, a0_, .ref q1_), (2, 2, a0_, .ref q2_), (2, 3, a0_, .ref q3_), (2, 4, a0_, .ref q4_), (2, 5, a0_, .ref q5_), (0, 0, q2_, .ref q0_), (0, 1, q2_, .ref q1_), (5, 0, q1_, .ref q3_), (5, 1, q1_, .ref q9_), (9, 8, q4_, .int y1_), (7, 3, q3_, .int y2_), (5, 2, q1_, .int y4_), (7, 1, q3_, .int y5_)]) rfl (fun fr_810 H locs hp hMr_810 g => ?_)
          obtain ⟨hG_811, hF_812⟩ := hp
          have hG_813 := eOK.frame hMr_810 go_.2.2.2.1 mq2_ kq2_ (by decide) (by decide) hG_809
          have g := g.more hF_812
          refine lv_goto (tgt := 234) hx hb dX2_readMark_183 (by decide) ?_
          refine lv_aload_n hx hb dX2_readMark_234 rfl (lv_at hl 2 rfl) ?_
          refine g_getk (C := RX2) (T := TX2) (N := 16) hx hb hts (mc_ inX2) hown hK g rfl 0 (by decide) rfl (hts _ (List.mem_cons_of_mem _ t_416)) (fun _ h9 => h9) 12 rfl dX2_readMark_235 ?_
          refine lv_bipush (v := 59) hx hb dX2_readMark_238 (by decide) ?_
          have go_ := g
          refine g_callv (va_runV (As := [.int 59]) (rest := []) ⟨hx, hb, hml, hown, hts⟩ (r_X8_take_2 l dC dI L kd tys fr_810 H.size g.2.2.2.1 q0_ mq0_ kq0_ 59 1201 kb_1201 x_608 h_609 (g.fcts [10, 11] rfl)) (cwV 1 hts (gV_ t_1098 t_1099 t_1100 t_184 t_1101) rfl rfl rfl (by decide +kernel) ⟨(Nat.le_of_ble_eq_true rfl), (Nat.le_of_ble_eq_true rfl)⟩) (pre3V g hK mq0_ kq0_ (by decide) (q := (RX8, TX8, 10)) rfl) rfl rfl hl.1 rfl (lv_room (Nat.le_of_ble_eq_true rfl)) dX2_readMark_240 ⟨(Nat.le_of_ble_eq_true rfl), (Nat.le_of_ble_eq_true rfl)⟩) g hK (by decide) (by decide) (fx' := [(5, 8, q1_, .int 0), (5, 7, q1_, .int 0), (0, 13, q2_, .int 0), (0, 12, q2_, .int 1), (0, 11, q2_, .int 0), (0, 10, q2_, .int 0), (0, 8, q2_, .int 0), (0, 2, q2_, .ref q3_), (7, 13, q3_, .int x_803), (6, 12, q5_, .int y_759), (8, 8, q0_, .int x_608), (2, 0, a0_, .ref q0_), (2, 1, a0_, .ref q1_), (2, 2, a0_, .ref q2_), (2, 3, a0_, .ref q3_), (2, 4, a0_, .ref q4_), (2, 5, a0_, .ref q5_), (0, 0, q2_, .ref q0_), (0, 1, q2_, .ref q1_), (5, 0, q1_, .ref q3_), (5, 1, q1_, .ref q9_), (9, 8, q4_, .int y1_), (7, 3, q3_, .int y2_), (5, 2, q1_, .int y4_), (7, 1, q3_, .int y5_)]) rfl (fun fr_814 H locs hp hMr_814 g => ?_)
          obtain ⟨x_815, h_816, hF_817⟩ := hp
          have hG_818 := dOK.frame hMr_814 go_.2.2.2.1 mq3_ kq3_ (by decide) (by decide) hG_811
          have hG_819 := eOK.frame hMr_814 go_.2.2.2.1 mq2_ kq2_ (by decide) (by decide) hG_813
          have g := g.more hF_817
          subst hQ
          exact W.vret hx hb hr (fun t ht hW => ⟨⟨_, rfl, Or.inr (⟨hG_818, hG_819, x_815, h_816, x_608, h_609, x_803, h_804, y_759, (bd_sub b_760 (by decide)), (g.fcts [0, 11, 9, 10] rfl)⟩), q3_of g hK ht hW⟩, g.2.2.1.F ht⟩) g.2.2.1.2.2 dX2_readMark_243
        by_cases e_820 : r_1 = 18
        · refine lv_topi (fun z_821 ez_821 => ?_)
          obtain rfl : z_821 = 18 := ez_821.trans e_820
          have kb_18 : bd 18 18 (18 : Int32) := ⟨by decide, by decide⟩
          have b_822 : bd 18 18 r_1 := eqX (eq_f e_820) (bdT r_1) kb_18 (by decide)
          refine lv_tableIn (off := 95) (tgt := 186) hx hb dX2_readMark_91 (by decide) (by decide) rfl (by decide) ?_
          refine lv_aload_n hx hb dX2_readMark_186 rfl (lv_at hl 2 rfl) ?_
          have go_ := g
          refine g_calli (va_runV (As := []) (rest := []) ⟨hx, hb, hml, hown, hts⟩ (r_X2_readThrownWord_2 l dC dI L kd tys f H.size g.2.2.2.1 a0_ ma0_ ka0_ q0_ mq0_ kq0_ q3_ mq3_ kq3_ 1201 kb_1201 x_608 h_609 (g.fcts [3, 6, 1, 2] rfl)) (cwV 0 hts (gV_ t_1326 t_1328 t_37 t_183 t_1329) rfl rfl rfl (by decide +kernel) ⟨(Nat.le_of_ble_eq_true rfl), (Nat.le_of_ble_eq_true rfl)⟩) (pre3V g hK ma0_ ka0_ (by decide) (q := (RX2, TX2, 16)) rfl) rfl rfl hl.1 rfl (lv_room (Nat.le_of_ble_eq_true rfl)) dX2_readMark_187 ⟨(Nat.le_of_ble_eq_true rfl), (Nat.le_of_ble_eq_true rfl)⟩) g hK (by decide) (by decide) (fx' := [(6, 12, q5_, .int y_759), (8, 8, q0_, .int x_608), (2, 0, a0_, .ref q0_), (2, 1, a0_, .ref q1_), (2, 2, a0_, .ref q2_), (2, 3, a0_, .ref q3_), (2, 4, a0_, .ref q4_), (2, 5, a0_, .ref q5_), (0, 0, q2_, .ref q0_), (0, 1, q2_, .ref q1_), (5, 0, q1_, .ref q3_), (5, 1, q1_, .ref q9_), (9, 8, q4_, .int y1_), (7, 3, q3_, .int y2_), (5, 2, q1_, .int y4_), (7, 1, q3_, .int y5_)]) rfl (fun r_823 fr_823 H locs hp hMr_823 g => ?_)
          obtain ⟨h_824, x_825, h_826, x_827, h_828, hF_829⟩ := hp
          have hG_830 := cOK.frame hMr_823 go_.2.2.2.1 mq3_ kq3_ (by decide) (by decide) hG_762
          have hG_831 := dOK.frame hMr_823 go_.2.2.2.1 mq3_ kq3_ (by decide) (by decide) hG_763
          have hG_832 := jS.frame hMr_823 go_.2.2.2.1 mq3_ kq3_ (by decide) (by decide) hG_764
          have hG_833 := eOK.frame hMr_823 go_.2.2.2.1 mq2_ kq2_ (by decide) (by decide) hG_765
          obtain rfl : r_823 = 0 := h_824
          have g := g.more hF_829
          refine lv_if_eq (tgt := 234) hx hb dX2_readMark_190 (by decide) (fun c_ => ?_) (fun c_ => absurd (by decide) c_)
          refine lv_aload_n hx hb dX2_readMark_234 rfl (lv_at hl 2 rfl) ?_
          refine g_getk (C := RX2) (T := TX2) (N := 16) hx hb hts (mc_ inX2) hown hK g rfl 0 (by decide) rfl (hts _ (List.mem_cons_of_mem _ t_416)) (fun _ h9 => h9) 4 rfl dX2_readMark_235 ?_
          refine lv_bipush (v := 59) hx hb dX2_readMark_238 (by decide) ?_
          have go_ := g
          refine g_callv (va_runV (As := [.int 59]) (rest := []) ⟨hx, hb, hml, hown, hts⟩ (r_X8_take_2 l dC dI L kd tys fr_823 H.size g.2.2.2.1 q0_ mq0_ kq0_ 59 x_825 h_826 x_608 h_609 (g.fcts [0, 3] rfl)) (cwV 1 hts (gV_ t_1098 t_1099 t_1100 t_184 t_1101) rfl rfl rfl (by decide +kernel) ⟨(Nat.le_of_ble_eq_true rfl), (Nat.le_of_ble_eq_true rfl)⟩) (pre3V g hK mq0_ kq0_ (by decide) (q := (RX8, TX8, 10)) rfl) rfl rfl hl.1 rfl (lv_room (Nat.le_of_ble_eq_true rfl)) dX2_readMark_240 ⟨(Nat.le_of_ble_eq_true rfl), (Nat.le_of_ble_eq_true rfl)⟩) g hK (by decide) (by decide) (fx' := [(7, 13, q3_, .int x_827), (6, 12, q5_, .int y_759), (8, 8, q0_, .int x_608), (2, 0, a0_, .ref q0_), (2, 1, a0_, .ref q1_), (2, 2, a0_, .ref q2_), (2, 3, a0_, .ref q3_), (2, 4, a0_, .ref q4_), (2, 5, a0_, .ref q5_), (0, 0, q2_, .ref q0_), (0, 1, q2_, .ref q1_), (5, 0, q1_, .ref q3_), (5, 1, q1_, .ref q9_), (9, 8, q4_, .int y1_), (7, 3, q3_, .int y2_), (5, 2, q1_, .int y4_), (7, 1, q3_, .int y5_)]) rfl (fun fr_834 H locs hp hMr_834 g => ?_)
          obtain ⟨x_835, h_836, hF_837⟩ := hp
          have hG_838 := cOK.frame hMr_834 go_.2.2.2.1 mq3_ kq3_ (by decide) (by decide) hG_830
          have hG_839 := dOK.frame hMr_834 go_.2.2.2.1 mq3_ kq3_ (by decide) (by decide) hG_831
          have hG_840 := jS.frame hMr_834 go_.2.2.2.1 mq3_ kq3_ (by decide) (by decide) hG_832
          have hG_841 := eOK.frame hMr_834 go_.2.2.2.1 mq2_ kq2_ (by decide) (by decide) hG_833
          have g := g.more hF_837
          subst hQ
          exact W.vret hx hb hr (fun t ht hW => ⟨⟨_, rfl, Or.inr (⟨hG_839, hG_841, x_835, h_836, x_608, h_609, x_827, h_828, y_759, (bd_sub b_760 (by decide)), (g.fcts [0, 3, 1, 2] rfl)⟩), q3_of g hK ht hW⟩, g.2.2.1.F ht⟩) g.2.2.1.2.2 dX2_readMark_243
        by_cases e_842 : r_1 = 19
        · refine lv_topi (fun z_843 ez_843 => ?_)
          obtain rfl : z_843 = 19 := ez_843.trans e_842
          have kb_19 : bd 19 19 (19 : Int32) := ⟨by decide, by decide⟩
          have b_844 : bd 19 19 r_1 := eqX (eq_f e_842) (bdT r_1) kb_19 (by decide)
          refine lv_tableIn (off := 117) (tgt := 208) hx hb dX2_readMark_91 (by decide) (by decide) rfl (by decide) ?_
          refine lv_aload_n hx hb dX2_readMark_208 rfl (lv_at hl 2 rfl) ?_
          refine g_getk (C := RX2) (T := TX2) (N := 16) hx hb hts (mc_ inX2) hown hK g rfl 3 (by decide) rfl (hts _ (List.mem_cons_of_mem _ t_419)) (fun _ h9 => h9) 6 rfl dX2_readMark_209 ?_
          refine lv_bipush (v := 6) hx hb dX2_readMark_212 (by decide) ?_
          refine lv_aload_n hx hb dX2_readMark_214 rfl (lv_at hl 2 rfl) ?_
          refine g_getk (C := RX2) (T := TX2) (N := 16) hx hb hts (mc_ inX2) hown hK g rfl 1 (by decide) rfl (hts _ (List.mem_cons_of_mem _ t_417)) (fun _ h9 => h9) 4 rfl dX2_readMark_215 ?_
          refine g_getk (C := RX5) (T := TX5) (N := 9) hx hb hts (mc_ inX5) hown hK g rfl 2 (by decide) rfl (hts _ (List.mem_cons_of_mem _ t_333)) (fun _ h9 => h9) 15 rfl dX2_readMark_218 ?_
          refine lv_iload_n hx hb dX2_readMark_221 rfl (lv_at hl 0 rfl) ?_
          have go_ := g
          refine g_calli (va_runV (As := [.int 6, .int y4_, .int r_6]) (rest := []) ⟨hx, hb, hml, hown, hts⟩ (r_X7_addMark l dC dI L kd tys f H.size g.2.2.2.1 q3_ mq3_ kq3_ 6 y4_ r_6) (cwV 3 hts (gV_ t_1173 t_1174 t_1175 t_191 t_1176) rfl rfl rfl (by decide +kernel) ⟨(Nat.le_of_ble_eq_true rfl), (Nat.le_of_ble_eq_true rfl)⟩) (pre3V g hK mq3_ kq3_ (by decide) (q := (RX7, TX7, 19)) rfl) rfl rfl hl.1 rfl (lv_room (Nat.le_of_ble_eq_true rfl)) dX2_readMark_222 ⟨(Nat.le_of_ble_eq_true rfl), (Nat.le_of_ble_eq_true rfl)⟩) g hK (by decide) (by decide) (fx' := [(6, 12, q5_, .int y_759), (8, 6, q0_, .int 1201), (8, 8, q0_, .int x_608), (2, 0, a0_, .ref q0_), (2, 1, a0_, .ref q1_), (2, 2, a0_, .ref q2_), (2, 3, a0_, .ref q3_), (2, 4, a0_, .ref q4_), (2, 5, a0_, .ref q5_), (0, 0, q2_, .ref q0_), (0, 1, q2_, .ref q1_), (5, 0, q1_, .ref q3_), (5, 1, q1_, .ref q9_), (9, 8, q4_, .int y1_), (7, 3, q3_, .int y2_), (5, 2, q1_, .int y4_), (7, 1, q3_, .int y5_)]) rfl (fun r_845 fr_845 H locs hp hMr_845 g => ?_)
          obtain ⟨h_846, x_847, h_848, hF_849⟩ := hp
          have hG_850 := cOK.frame hMr_845 go_.2.2.2.1 mq3_ kq3_ (by decide) (by decide) hG_762
          have hG_851 := dOK.frame hMr_845 go_.2.2.2.1 mq3_ kq3_ (by decide) (by decide) hG_763
          have hG_852 := jS.frame hMr_845 go_.2.2.2.1 mq3_ kq3_ (by decide) (by decide) hG_764
          have hG_853 := eOK.frame hMr_845 go_.2.2.2.1 mq2_ kq2_ (by decide) (by decide) hG_765
          have g := g.more hF_849
          refine lv_pop hx hb dX2_readMark_225 rfl ?_
          refine lv_aload_n hx hb dX2_readMark_226 rfl (lv_at hl 2 rfl) ?_
          refine g_getk (C := RX2) (T := TX2) (N := 16) hx hb hts (mc_ inX2) hown hK g rfl 5 (by decide) rfl (hts _ (List.mem_cons_of_mem _ t_421)) (fun _ h9 => h9) 9 rfl dX2_readMark_227 ?_
          refine lv_iconst (v := 1) hx hb dX2_readMark_230 (by decide) ?_
          have go_ := g
          refine g_put (C := RX6) (T := TX6) (N := 13) hx hb hts (mc_ inX6) tyX6 tyX6_ok nmX6 hown hK g mq5_ kq5_ (by decide) rfl 6 (by decide) (hts _ (List.mem_cons_of_mem _ t_578)) (fun _ h9 => h9) rfl rfl (okV_i (bd_sub kb_1 (by decide))) rfl rfl (by decide) (Or.inr (Or.inl (by decide))) (fx' := [(7, 13, q3_, .int x_847), (6, 12, q5_, .int y_759), (8, 6, q0_, .int 1201), (8, 8, q0_, .int x_608), (2, 0, a0_, .ref q0_), (2, 1, a0_, .ref q1_), (2, 2, a0_, .ref q2_), (2, 3, a0_, .ref q3_), (2, 4, a0_, .ref q4_), (2, 5, a0_, .ref q5_), (0, 0, q2_, .ref q0_), (0, 1, q2_, .ref q1_), (5, 0, q1_, .ref q3_), (5, 1, q1_, .ref q9_), (9, 8, q4_, .int y1_), (7, 3, q3_, .int y2_), (5, 2, q1_, .int y4_), (7, 1, q3_, .int y5_)]) rfl dX2_readMark_231 (fun f H locs hM_854 g => ?_)
          have hG_855 := cOK.frame hM_854 go_.2.2.2.1 mq3_ kq3_ (by decide) (by decide) hG_850
          have hG_856 := dOK.frame hM_854 go_.2.2.2.1 mq3_ kq3_ (by decide) (by decide) hG_851
          have hG_857 := jS.frame hM_854 go_.2.2.2.1 mq3_ kq3_ (by decide) (by decide) hG_852
          have hG_858 := eOK.frame hM_854 go_.2.2.2.1 mq2_ kq2_ (by decide) (by decide) hG_853
          refine lv_aload_n hx hb dX2_readMark_234 rfl (lv_at hl 2 rfl) ?_
          refine g_getk (C := RX2) (T := TX2) (N := 16) hx hb hts (mc_ inX2) hown hK g rfl 0 (by decide) rfl (hts _ (List.mem_cons_of_mem _ t_416)) (fun _ h9 => h9) 5 rfl dX2_readMark_235 ?_
          refine lv_bipush (v := 59) hx hb dX2_readMark_238 (by decide) ?_
          have go_ := g
          refine g_callv (va_runV (As := [.int 59]) (rest := []) ⟨hx, hb, hml, hown, hts⟩ (r_X8_take_2 l dC dI L kd tys f H.size g.2.2.2.1 q0_ mq0_ kq0_ 59 1201 kb_1201 x_608 h_609 (g.fcts [3, 4] rfl)) (cwV 1 hts (gV_ t_1098 t_1099 t_1100 t_184 t_1101) rfl rfl rfl (by decide +kernel) ⟨(Nat.le_of_ble_eq_true rfl), (Nat.le_of_ble_eq_true rfl)⟩) (pre3V g hK mq0_ kq0_ (by decide) (q := (RX8, TX8, 10)) rfl) rfl rfl hl.1 rfl (lv_room (Nat.le_of_ble_eq_true rfl)) dX2_readMark_240 ⟨(Nat.le_of_ble_eq_true rfl), (Nat.le_of_ble_eq_true rfl)⟩) g hK (by decide) (by decide) (fx' := [(6, 6, q5_, .int 1), (7, 13, q3_, .int x_847), (6, 12, q5_, .int y_759), (8, 8, q0_, .int x_608), (2, 0, a0_, .ref q0_), (2, 1, a0_, .ref q1_), (2, 2, a0_, .ref q2_), (2, 3, a0_, .ref q3_), (2, 4, a0_, .ref q4_), (2, 5, a0_, .ref q5_), (0, 0, q2_, .ref q0_), (0, 1, q2_, .ref q1_), (5, 0, q1_, .ref q3_), (5, 1, q1_, .ref q9_), (9, 8, q4_, .int y1_), (7, 3, q3_, .int y2_), (5, 2, q1_, .int y4_), (7, 1, q3_, .int y5_)]) rfl (fun fr_859 H locs hp hMr_859 g => ?_)
          obtain ⟨x_860, h_861, hF_862⟩ := hp
          have hG_863 := cOK.frame hMr_859 go_.2.2.2.1 mq3_ kq3_ (by decide) (by decide) hG_855
          have hG_864 := dOK.frame hMr_859 go_.2.2.2.1 mq3_ kq3_ (by decide) (by decide) hG_856
          have hG_865 := jS.frame hMr_859 go_.2.2.2.1 mq3_ kq3_ (by decide) (by decide) hG_857
          have hG_866 := eOK.frame hMr_859 go_.2.2.2.1 mq2_ kq2_ (by decide) (by decide) hG_858
          have g := g.more hF_862
          subst hQ
          exact W.vret hx hb hr (fun t ht hW => ⟨⟨_, rfl, Or.inr (⟨hG_864, hG_866, x_860, h_861, x_608, h_609, x_847, h_848, y_759, (bd_sub b_760 (by decide)), (g.fcts [0, 4, 2, 3] rfl)⟩), q3_of g hK ht hW⟩, g.2.2.1.F ht⟩) g.2.2.1.2.2 dX2_readMark_243
        by_cases e_867 : r_1 = 20
        · refine lv_topi (fun z_868 ez_868 => ?_)
          obtain rfl : z_868 = 20 := ez_868.trans e_867
          have b_869 : bd 20 20 r_1 := eqX (eq_f e_867) (bdT r_1) kb_20 (by decide)
          refine lv_tableIn (off := 110) (tgt := 201) hx hb dX2_readMark_91 (by decide) (by decide) rfl (by decide) ?_
          refine lv_aload_n hx hb dX2_readMark_201 rfl (lv_at hl 2 rfl) ?_
          have go_ := g
          refine g_callv (va_runV (As := []) (rest := []) ⟨hx, hb, hml, hown, hts⟩ (r_X2_readOnly_2 l dC dI L kd tys f H.size g.2.2.2.1 a0_ ma0_ ka0_ q0_ mq0_ kq0_ q3_ mq3_ kq3_ q4_ mq4_ kq4_ 1201 kb_1201 x_608 h_609 (g.fcts [3, 6, 7, 1, 2] rfl)) (cwV 0 hts (gV_ t_1330 t_1332 t_38 t_183 t_1333) rfl rfl rfl (by decide +kernel) ⟨(Nat.le_of_ble_eq_true rfl), (Nat.le_of_ble_eq_true rfl)⟩) (pre3V g hK ma0_ ka0_ (by decide) (q := (RX2, TX2, 16)) rfl) rfl rfl hl.1 rfl (lv_room (Nat.le_of_ble_eq_true rfl)) dX2_readMark_202 ⟨(Nat.le_of_ble_eq_true rfl), (Nat.le_of_ble_eq_true rfl)⟩) g hK (by decide) (by decide) (fx' := [(6, 12, q5_, .int y_759), (8, 8, q0_, .int x_608), (2, 0, a0_, .ref q0_), (2, 1, a0_, .ref q1_), (2, 2, a0_, .ref q2_), (2, 3, a0_, .ref q3_), (2, 4, a0_, .ref q4_), (2, 5, a0_, .ref q5_), (0, 0, q2_, .ref q0_), (0, 1, q2_, .ref q1_), (5, 0, q1_, .ref q3_), (5, 1, q1_, .ref q9_), (9, 8, q4_, .int y1_), (7, 3, q3_, .int y2_), (5, 2, q1_, .int y4_), (7, 1, q3_, .int y5_)]) rfl (fun fr_870 H locs hp hMr_870 g => ?_)
          obtain ⟨x_871, h_872, x_873, h_874, hF_875⟩ := hp
          have hG_876 := cOK.frame hMr_870 go_.2.2.2.1 mq3_ kq3_ (by decide) (by decide) hG_762
          have hG_877 := dOK.frame hMr_870 go_.2.2.2.1 mq3_ kq3_ (by decide) (by decide) hG_763
          have hG_878 := jS.frame hMr_870 go_.2.2.2.1 mq3_ kq3_ (by decide) (by decide) hG_764
          have hG_879 := eOK.frame hMr_870 go_.2.2.2.1 mq2_ kq2_ (by decide) (by decide) hG_765
          have g := g.more hF_875
          refine lv_goto (tgt := 234) hx hb dX2_readMark_205 (by decide) ?_
          refine lv_aload_n hx hb dX2_readMark_234 rfl (lv_at hl 2 rfl) ?_
          refine g_getk (C := RX2) (T := TX2) (N := 16) hx hb hts (mc_ inX2) hown hK g rfl 0 (by decide) rfl (hts _ (List.mem_cons_of_mem _ t_416)) (fun _ h9 => h9) 4 rfl dX2_readMark_235 ?_
          refine lv_bipush (v := 59) hx hb dX2_readMark_238 (by decide) ?_
          have go_ := g
          refine g_callv (va_runV (As := [.int 59]) (rest := []) ⟨hx, hb, hml, hown, hts⟩ (r_X8_take_2 l dC dI L kd tys fr_870 H.size g.2.2.2.1 q0_ mq0_ kq0_ 59 x_873 h_874 x_608 h_609 (g.fcts [1, 3] rfl)) (cwV 1 hts (gV_ t_1098 t_1099 t_1100 t_184 t_1101) rfl rfl rfl (by decide +kernel) ⟨(Nat.le_of_ble_eq_true rfl), (Nat.le_of_ble_eq_true rfl)⟩) (pre3V g hK mq0_ kq0_ (by decide) (q := (RX8, TX8, 10)) rfl) rfl rfl hl.1 rfl (lv_room (Nat.le_of_ble_eq_true rfl)) dX2_readMark_240 ⟨(Nat.le_of_ble_eq_true rfl), (Nat.le_of_ble_eq_true rfl)⟩) g hK (by decide) (by decide) (fx' := [(7, 13, q3_, .int x_871), (6, 12, q5_, .int y_759), (8, 8, q0_, .int x_608), (2, 0, a0_, .ref q0_), (2, 1, a0_, .ref q1_), (2, 2, a0_, .ref q2_), (2, 3, a0_, .ref q3_), (2, 4, a0_, .ref q4_), (2, 5, a0_, .ref q5_), (0, 0, q2_, .ref q0_), (0, 1, q2_, .ref q1_), (5, 0, q1_, .ref q3_), (5, 1, q1_, .ref q9_), (9, 8, q4_, .int y1_), (7, 3, q3_, .int y2_), (5, 2, q1_, .int y4_), (7, 1, q3_, .int y5_)]) rfl (fun fr_880 H locs hp hMr_880 g => ?_)
          obtain ⟨x_881, h_882, hF_883⟩ := hp
          have hG_884 := cOK.frame hMr_880 go_.2.2.2.1 mq3_ kq3_ (by decide) (by decide) hG_876
          have hG_885 := dOK.frame hMr_880 go_.2.2.2.1 mq3_ kq3_ (by decide) (by decide) hG_877
          have hG_886 := jS.frame hMr_880 go_.2.2.2.1 mq3_ kq3_ (by decide) (by decide) hG_878
          have hG_887 := eOK.frame hMr_880 go_.2.2.2.1 mq2_ kq2_ (by decide) (by decide) hG_879
          have g := g.more hF_883
          subst hQ
          exact W.vret hx hb hr (fun t ht hW => ⟨⟨_, rfl, Or.inr (⟨hG_885, hG_887, x_881, h_882, x_608, h_609, x_871, h_872, y_759, (bd_sub b_760 (by decide)), (g.fcts [0, 3, 1, 2] rfl)⟩), q3_of g hK ht hW⟩, g.2.2.1.F ht⟩) g.2.2.1.2.2 dX2_readMark_243
        refine lv_tableOut (tgt := 208) hx hb dX2_readMark_91 (by have a0 : r_1.toInt ≠ 16 := fun h => e_766 (Int32.toInt_inj.mp (h.trans (by decide))); have a1 : r_1.toInt ≠ 17 := fun h => e_793 (Int32.toInt_inj.mp (h.trans (by decide))); have a2 : r_1.toInt ≠ 18 := fun h => e_820 (Int32.toInt_inj.mp (h.trans (by decide))); have a3 : r_1.toInt ≠ 19 := fun h => e_842 (Int32.toInt_inj.mp (h.trans (by decide))); have a4 : r_1.toInt ≠ 20 := fun h => e_867 (Int32.toInt_inj.mp (h.trans (by decide))); omega) (by decide) ?_
        refine lv_aload_n hx hb dX2_readMark_208 rfl (lv_at hl 2 rfl) ?_
        refine g_getk (C := RX2) (T := TX2) (N := 16) hx hb hts (mc_ inX2) hown hK g rfl 3 (by decide) rfl (hts _ (List.mem_cons_of_mem _ t_419)) (fun _ h9 => h9) 6 rfl dX2_readMark_209 ?_
        refine lv_bipush (v := 6) hx hb dX2_readMark_212 (by decide) ?_
        refine lv_aload_n hx hb dX2_readMark_214 rfl (lv_at hl 2 rfl) ?_
        refine g_getk (C := RX2) (T := TX2) (N := 16) hx hb hts (mc_ inX2) hown hK g rfl 1 (by decide) rfl (hts _ (List.mem_cons_of_mem _ t_417)) (fun _ h9 => h9) 4 rfl dX2_readMark_215 ?_
        refine g_getk (C := RX5) (T := TX5) (N := 9) hx hb hts (mc_ inX5) hown hK g rfl 2 (by decide) rfl (hts _ (List.mem_cons_of_mem _ t_333)) (fun _ h9 => h9) 15 rfl dX2_readMark_218 ?_
        refine lv_iload_n hx hb dX2_readMark_221 rfl (lv_at hl 0 rfl) ?_
        have go_ := g
        refine g_calli (va_runV (As := [.int 6, .int y4_, .int r_6]) (rest := []) ⟨hx, hb, hml, hown, hts⟩ (r_X7_addMark l dC dI L kd tys f H.size g.2.2.2.1 q3_ mq3_ kq3_ 6 y4_ r_6) (cwV 3 hts (gV_ t_1173 t_1174 t_1175 t_191 t_1176) rfl rfl rfl (by decide +kernel) ⟨(Nat.le_of_ble_eq_true rfl), (Nat.le_of_ble_eq_true rfl)⟩) (pre3V g hK mq3_ kq3_ (by decide) (q := (RX7, TX7, 19)) rfl) rfl rfl hl.1 rfl (lv_room (Nat.le_of_ble_eq_true rfl)) dX2_readMark_222 ⟨(Nat.le_of_ble_eq_true rfl), (Nat.le_of_ble_eq_true rfl)⟩) g hK (by decide) (by decide) (fx' := [(6, 12, q5_, .int y_759), (8, 6, q0_, .int 1201), (8, 8, q0_, .int x_608), (2, 0, a0_, .ref q0_), (2, 1, a0_, .ref q1_), (2, 2, a0_, .ref q2_), (2, 3, a0_, .ref q3_), (2, 4, a0_, .ref q4_), (2, 5, a0_, .ref q5_), (0, 0, q2_, .ref q0_), (0, 1, q2_, .ref q1_), (5, 0, q1_, .ref q3_), (5, 1, q1_, .ref q9_), (9, 8, q4_, .int y1_), (7, 3, q3_, .int y2_), (5, 2, q1_, .int y4_), (7, 1, q3_, .int y5_)]) rfl (fun r_888 fr_888 H locs hp hMr_888 g => ?_)
        obtain ⟨h_889, x_890, h_891, hF_892⟩ := hp
        have hG_893 := cOK.frame hMr_888 go_.2.2.2.1 mq3_ kq3_ (by decide) (by decide) hG_762
        have hG_894 := dOK.frame hMr_888 go_.2.2.2.1 mq3_ kq3_ (by decide) (by decide) hG_763
        have hG_895 := jS.frame hMr_888 go_.2.2.2.1 mq3_ kq3_ (by decide) (by decide) hG_764
        have hG_896 := eOK.frame hMr_888 go_.2.2.2.1 mq2_ kq2_ (by decide) (by decide) hG_765
        have g := g.more hF_892
        refine lv_pop hx hb dX2_readMark_225 rfl ?_
        refine lv_aload_n hx hb dX2_readMark_226 rfl (lv_at hl 2 rfl) ?_
        refine g_getk (C := RX2) (T := TX2) (N := 16) hx hb hts (mc_ inX2) hown hK g rfl 5 (by decide) rfl (hts _ (List.mem_cons_of_mem _ t_421)) (fun _ h9 => h9) 9 rfl dX2_readMark_227 ?_
        refine lv_iconst (v := 1) hx hb dX2_readMark_230 (by decide) ?_
        have go_ := g
        refine g_put (C := RX6) (T := TX6) (N := 13) hx hb hts (mc_ inX6) tyX6 tyX6_ok nmX6 hown hK g mq5_ kq5_ (by decide) rfl 6 (by decide) (hts _ (List.mem_cons_of_mem _ t_578)) (fun _ h9 => h9) rfl rfl (okV_i (bd_sub kb_1 (by decide))) rfl rfl (by decide) (Or.inr (Or.inl (by decide))) (fx' := [(7, 13, q3_, .int x_890), (6, 12, q5_, .int y_759), (8, 6, q0_, .int 1201), (8, 8, q0_, .int x_608), (2, 0, a0_, .ref q0_), (2, 1, a0_, .ref q1_), (2, 2, a0_, .ref q2_), (2, 3, a0_, .ref q3_), (2, 4, a0_, .ref q4_), (2, 5, a0_, .ref q5_), (0, 0, q2_, .ref q0_), (0, 1, q2_, .ref q1_), (5, 0, q1_, .ref q3_), (5, 1, q1_, .ref q9_), (9, 8, q4_, .int y1_), (7, 3, q3_, .int y2_), (5, 2, q1_, .int y4_), (7, 1, q3_, .int y5_)]) rfl dX2_readMark_231 (fun f H locs hM_897 g => ?_)
        have hG_898 := cOK.frame hM_897 go_.2.2.2.1 mq3_ kq3_ (by decide) (by decide) hG_893
        have hG_899 := dOK.frame hM_897 go_.2.2.2.1 mq3_ kq3_ (by decide) (by decide) hG_894
        have hG_900 := jS.frame hM_897 go_.2.2.2.1 mq3_ kq3_ (by decide) (by decide) hG_895
        have hG_901 := eOK.frame hM_897 go_.2.2.2.1 mq2_ kq2_ (by decide) (by decide) hG_896
        refine lv_aload_n hx hb dX2_readMark_234 rfl (lv_at hl 2 rfl) ?_
        refine g_getk (C := RX2) (T := TX2) (N := 16) hx hb hts (mc_ inX2) hown hK g rfl 0 (by decide) rfl (hts _ (List.mem_cons_of_mem _ t_416)) (fun _ h9 => h9) 5 rfl dX2_readMark_235 ?_
        refine lv_bipush (v := 59) hx hb dX2_readMark_238 (by decide) ?_
        have go_ := g
        refine g_callv (va_runV (As := [.int 59]) (rest := []) ⟨hx, hb, hml, hown, hts⟩ (r_X8_take_2 l dC dI L kd tys f H.size g.2.2.2.1 q0_ mq0_ kq0_ 59 1201 kb_1201 x_608 h_609 (g.fcts [3, 4] rfl)) (cwV 1 hts (gV_ t_1098 t_1099 t_1100 t_184 t_1101) rfl rfl rfl (by decide +kernel) ⟨(Nat.le_of_ble_eq_true rfl), (Nat.le_of_ble_eq_true rfl)⟩) (pre3V g hK mq0_ kq0_ (by decide) (q := (RX8, TX8, 10)) rfl) rfl rfl hl.1 rfl (lv_room (Nat.le_of_ble_eq_true rfl)) dX2_readMark_240 ⟨(Nat.le_of_ble_eq_true rfl), (Nat.le_of_ble_eq_true rfl)⟩) g hK (by decide) (by decide) (fx' := [(6, 6, q5_, .int 1), (7, 13, q3_, .int x_890), (6, 12, q5_, .int y_759), (8, 8, q0_, .int x_608), (2, 0, a0_, .ref q0_), (2, 1, a0_, .ref q1_), (2, 2, a0_, .ref q2_), (2, 3, a0_, .ref q3_), (2, 4, a0_, .ref q4_), (2, 5, a0_, .ref q5_), (0, 0, q2_, .ref q0_), (0, 1, q2_, .ref q1_), (5, 0, q1_, .ref q3_), (5, 1, q1_, .ref q9_), (9, 8, q4_, .int y1_), (7, 3, q3_, .int y2_), (5, 2, q1_, .int y4_), (7, 1, q3_, .int y5_)]) rfl (fun fr_902 H locs hp hMr_902 g => ?_)
        obtain ⟨x_903, h_904, hF_905⟩ := hp
        have hG_906 := cOK.frame hMr_902 go_.2.2.2.1 mq3_ kq3_ (by decide) (by decide) hG_898
        have hG_907 := dOK.frame hMr_902 go_.2.2.2.1 mq3_ kq3_ (by decide) (by decide) hG_899
        have hG_908 := jS.frame hMr_902 go_.2.2.2.1 mq3_ kq3_ (by decide) (by decide) hG_900
        have hG_909 := eOK.frame hMr_902 go_.2.2.2.1 mq2_ kq2_ (by decide) (by decide) hG_901
        have g := g.more hF_905
        subst hQ
        exact W.vret hx hb hr (fun t ht hW => ⟨⟨_, rfl, Or.inr (⟨hG_907, hG_909, x_903, h_904, x_608, h_609, x_890, h_891, y_759, (bd_sub b_760 (by decide)), (g.fcts [0, 4, 2, 3] rfl)⟩), q3_of g hK ht hW⟩, g.2.2.1.F ht⟩) g.2.2.1.2.2 dX2_readMark_243
      · have fc_758 := eq_f c_758
        have b_910 : bd 21 21 r_1 := eqX fc_758 (bdT r_1) kb_21 (by decide)
        refine lv_aload_n hx hb dX2_readMark_56 rfl (lv_at hl 2 rfl) ?_
        refine g_geti (C := RX2) (T := TX2) (N := 16) hx hb hts (mc_ inX2) hown hK g ma0_ ka0_ (by decide) rfl 6 (by decide) rfl (hts _ (List.mem_cons_of_mem _ t_422)) (fun _ h9 => h9) rfl dX2_readMark_57 (fun x_911 bx_911 g => ?_)
        have kb_0 : bd 0 0 (0 : Int32) := ⟨by decide, by decide⟩
        refine lv_if_eq (tgt := 72) hx hb dX2_readMark_60 (by decide) (fun c_912 => ?_) (fun c_912 => ?_)
        · have fc_912 := eq_f c_912
          have b_913 : bd 0 0 x_911 := eqX fc_912 bx_911 kb_0 (by decide)
          refine lv_aload_n hx hb dX2_readMark_72 rfl (lv_at hl 2 rfl) ?_
          refine lv_iconst (v := 1) hx hb dX2_readMark_73 (by decide) ?_
          have kb_1 : bd 1 1 (1 : Int32) := ⟨by decide, by decide⟩
          have go_ := g
          refine g_put (C := RX2) (T := TX2) (N := 16) hx hb hts (mc_ inX2) tyX2 tyX2_ok nmX2 hown hK g ma0_ ka0_ (by decide) rfl 6 (by decide) (hts _ (List.mem_cons_of_mem _ t_422)) (fun _ h9 => h9) rfl rfl (okV_i (bd_sub kb_1 (by decide))) rfl rfl (by decide) (Or.inr (Or.inl (by decide))) (fx' := [(8, 6, q0_, .int 1201), (8, 8, q0_, .int x_608), (2, 0, a0_, .ref q0_), (2, 1, a0_, .ref q1_), (2, 2, a0_, .ref q2_), (2, 3, a0_, .ref q3_), (2, 4, a0_, .ref q4_), (2, 5, a0_, .ref q5_), (0, 0, q2_, .ref q0_), (0, 1, q2_, .ref q1_), (5, 0, q1_, .ref q3_), (5, 1, q1_, .ref q9_), (9, 8, q4_, .int y1_), (7, 3, q3_, .int y2_), (6, 12, q5_, .int y3_), (5, 2, q1_, .int y4_), (7, 1, q3_, .int y5_)]) rfl dX2_readMark_74 (fun f H locs hM_914 g => ?_)
          have hG_915 := cOK.frame hM_914 go_.2.2.2.1 mq3_ kq3_ (by decide) (by decide) hG_616
          have hG_916 := dOK.frame hM_914 go_.2.2.2.1 mq3_ kq3_ (by decide) (by decide) hG_617
          have hG_917 := jS.frame hM_914 go_.2.2.2.1 mq3_ kq3_ (by decide) (by decide) hG_618
          have hG_918 := eOK.frame hM_914 go_.2.2.2.1 mq2_ kq2_ (by decide) (by decide) hG_619
          refine lv_aload_n hx hb dX2_readMark_77 rfl (lv_at hl 2 rfl) ?_
          refine g_getk (C := RX2) (T := TX2) (N := 16) hx hb hts (mc_ inX2) hown hK g rfl 5 (by decide) rfl (hts _ (List.mem_cons_of_mem _ t_421)) (fun _ h9 => h9) 8 rfl dX2_readMark_78 ?_
          refine lv_dup hx hb dX2_readMark_81 rfl ?_
          refine g_getk (C := RX6) (T := TX6) (N := 13) hx hb hts (mc_ inX6) hown hK g rfl 12 (by decide) rfl (hts _ (List.mem_cons_of_mem _ t_591)) (fun _ h9 => h9) 15 rfl dX2_readMark_82 ?_
          refine lv_iconst (v := 1) hx hb dX2_readMark_85 (by decide) ?_
          refine lv_iadd hx hb dX2_readMark_86 ?_
          refine lv_topi (fun y_919 ey_919 => ?_)
          have ty_919 := add_bd ey_919 b_606 kb_1 (by decide)
          have b_920 : bd 9 9 y_919 := add_rg ty_919 b_606 kb_1 (by decide)
          have go_ := g
          refine g_put (C := RX6) (T := TX6) (N := 13) hx hb hts (mc_ inX6) tyX6 tyX6_ok nmX6 hown hK g mq5_ kq5_ (by decide) rfl 12 (by decide) (hts _ (List.mem_cons_of_mem _ t_591)) (fun _ h9 => h9) rfl rfl (okV_i (bd_sub b_920 (by decide))) rfl rfl (by decide) (Or.inr (Or.inl (by decide))) (fx' := [(2, 6, a0_, .int 1), (8, 6, q0_, .int 1201), (8, 8, q0_, .int x_608), (2, 0, a0_, .ref q0_), (2, 1, a0_, .ref q1_), (2, 2, a0_, .ref q2_), (2, 3, a0_, .ref q3_), (2, 4, a0_, .ref q4_), (2, 5, a0_, .ref q5_), (0, 0, q2_, .ref q0_), (0, 1, q2_, .ref q1_), (5, 0, q1_, .ref q3_), (5, 1, q1_, .ref q9_), (9, 8, q4_, .int y1_), (7, 3, q3_, .int y2_), (5, 2, q1_, .int y4_), (7, 1, q3_, .int y5_)]) rfl dX2_readMark_87 (fun f H locs hM_921 g => ?_)
          have hG_922 := cOK.frame hM_921 go_.2.2.2.1 mq3_ kq3_ (by decide) (by decide) hG_915
          have hG_923 := dOK.frame hM_921 go_.2.2.2.1 mq3_ kq3_ (by decide) (by decide) hG_916
          have hG_924 := jS.frame hM_921 go_.2.2.2.1 mq3_ kq3_ (by decide) (by decide) hG_917
          have hG_925 := eOK.frame hM_921 go_.2.2.2.1 mq2_ kq2_ (by decide) (by decide) hG_918
          refine lv_iload_n hx hb dX2_readMark_90 rfl (lv_at hl 1 rfl) ?_
          by_cases e_926 : r_1 = 16
          · refine lv_topi (fun z_927 ez_927 => ?_)
            obtain rfl : z_927 = 16 := ez_927.trans e_926
            have kb_16 : bd 16 16 (16 : Int32) := ⟨by decide, by decide⟩
            exact bd_no (eqX (eq_f e_926) b_910 kb_16 (lo := 21) (hi := 16) (by decide)) (by decide)
          by_cases e_928 : r_1 = 17
          · refine lv_topi (fun z_929 ez_929 => ?_)
            obtain rfl : z_929 = 17 := ez_929.trans e_928
            have kb_17 : bd 17 17 (17 : Int32) := ⟨by decide, by decide⟩
            exact bd_no (eqX (eq_f e_928) b_910 kb_17 (lo := 21) (hi := 17) (by decide)) (by decide)
          by_cases e_930 : r_1 = 18
          · refine lv_topi (fun z_931 ez_931 => ?_)
            obtain rfl : z_931 = 18 := ez_931.trans e_930
            have kb_18 : bd 18 18 (18 : Int32) := ⟨by decide, by decide⟩
            exact bd_no (eqX (eq_f e_930) b_910 kb_18 (lo := 21) (hi := 18) (by decide)) (by decide)
          by_cases e_932 : r_1 = 19
          · refine lv_topi (fun z_933 ez_933 => ?_)
            obtain rfl : z_933 = 19 := ez_933.trans e_932
            have kb_19 : bd 19 19 (19 : Int32) := ⟨by decide, by decide⟩
            exact bd_no (eqX (eq_f e_932) b_910 kb_19 (lo := 21) (hi := 19) (by decide)) (by decide)
          by_cases e_934 : r_1 = 20
          · refine lv_topi (fun z_935 ez_935 => ?_)
            obtain rfl : z_935 = 20 := ez_935.trans e_934
            exact bd_no (eqX (eq_f e_934) b_910 kb_20 (lo := 21) (hi := 20) (by decide)) (by decide)
          refine lv_tableOut (tgt := 208) hx hb dX2_readMark_91 (by have a0 : r_1.toInt ≠ 16 := fun h => e_926 (Int32.toInt_inj.mp (h.trans (by decide))); have a1 : r_1.toInt ≠ 17 := fun h => e_928 (Int32.toInt_inj.mp (h.trans (by decide))); have a2 : r_1.toInt ≠ 18 := fun h => e_930 (Int32.toInt_inj.mp (h.trans (by decide))); have a3 : r_1.toInt ≠ 19 := fun h => e_932 (Int32.toInt_inj.mp (h.trans (by decide))); have a4 : r_1.toInt ≠ 20 := fun h => e_934 (Int32.toInt_inj.mp (h.trans (by decide))); omega) (by decide) ?_
          refine lv_aload_n hx hb dX2_readMark_208 rfl (lv_at hl 2 rfl) ?_
          refine g_getk (C := RX2) (T := TX2) (N := 16) hx hb hts (mc_ inX2) hown hK g rfl 3 (by decide) rfl (hts _ (List.mem_cons_of_mem _ t_419)) (fun _ h9 => h9) 7 rfl dX2_readMark_209 ?_
          refine lv_bipush (v := 6) hx hb dX2_readMark_212 (by decide) ?_
          refine lv_aload_n hx hb dX2_readMark_214 rfl (lv_at hl 2 rfl) ?_
          refine g_getk (C := RX2) (T := TX2) (N := 16) hx hb hts (mc_ inX2) hown hK g rfl 1 (by decide) rfl (hts _ (List.mem_cons_of_mem _ t_417)) (fun _ h9 => h9) 5 rfl dX2_readMark_215 ?_
          refine g_getk (C := RX5) (T := TX5) (N := 9) hx hb hts (mc_ inX5) hown hK g rfl 2 (by decide) rfl (hts _ (List.mem_cons_of_mem _ t_333)) (fun _ h9 => h9) 16 rfl dX2_readMark_218 ?_
          refine lv_iload_n hx hb dX2_readMark_221 rfl (lv_at hl 0 rfl) ?_
          have go_ := g
          refine g_calli (va_runV (As := [.int 6, .int y4_, .int r_6]) (rest := []) ⟨hx, hb, hml, hown, hts⟩ (r_X7_addMark l dC dI L kd tys f H.size g.2.2.2.1 q3_ mq3_ kq3_ 6 y4_ r_6) (cwV 3 hts (gV_ t_1173 t_1174 t_1175 t_191 t_1176) rfl rfl rfl (by decide +kernel) ⟨(Nat.le_of_ble_eq_true rfl), (Nat.le_of_ble_eq_true rfl)⟩) (pre3V g hK mq3_ kq3_ (by decide) (q := (RX7, TX7, 19)) rfl) rfl rfl hl.1 rfl (lv_room (Nat.le_of_ble_eq_true rfl)) dX2_readMark_222 ⟨(Nat.le_of_ble_eq_true rfl), (Nat.le_of_ble_eq_true rfl)⟩) g hK (by decide) (by decide) (fx' := [(6, 12, q5_, .int y_919), (2, 6, a0_, .int 1), (8, 6, q0_, .int 1201), (8, 8, q0_, .int x_608), (2, 0, a0_, .ref q0_), (2, 1, a0_, .ref q1_), (2, 2, a0_, .ref q2_), (2, 3, a0_, .ref q3_), (2, 4, a0_, .ref q4_), (2, 5, a0_, .ref q5_), (0, 0, q2_, .ref q0_), (0, 1, q2_, .ref q1_), (5, 0, q1_, .ref q3_), (5, 1, q1_, .ref q9_), (9, 8, q4_, .int y1_), (7, 3, q3_, .int y2_), (5, 2, q1_, .int y4_), (7, 1, q3_, .int y5_)]) rfl (fun r_936 fr_936 H locs hp hMr_936 g => ?_)
          obtain ⟨h_937, x_938, h_939, hF_940⟩ := hp
          have hG_941 := cOK.frame hMr_936 go_.2.2.2.1 mq3_ kq3_ (by decide) (by decide) hG_922
          have hG_942 := dOK.frame hMr_936 go_.2.2.2.1 mq3_ kq3_ (by decide) (by decide) hG_923
          have hG_943 := jS.frame hMr_936 go_.2.2.2.1 mq3_ kq3_ (by decide) (by decide) hG_924
          have hG_944 := eOK.frame hMr_936 go_.2.2.2.1 mq2_ kq2_ (by decide) (by decide) hG_925
          have g := g.more hF_940
          refine lv_pop hx hb dX2_readMark_225 rfl ?_
          refine lv_aload_n hx hb dX2_readMark_226 rfl (lv_at hl 2 rfl) ?_
          refine g_getk (C := RX2) (T := TX2) (N := 16) hx hb hts (mc_ inX2) hown hK g rfl 5 (by decide) rfl (hts _ (List.mem_cons_of_mem _ t_421)) (fun _ h9 => h9) 10 rfl dX2_readMark_227 ?_
          refine lv_iconst (v := 1) hx hb dX2_readMark_230 (by decide) ?_
          have go_ := g
          refine g_put (C := RX6) (T := TX6) (N := 13) hx hb hts (mc_ inX6) tyX6 tyX6_ok nmX6 hown hK g mq5_ kq5_ (by decide) rfl 6 (by decide) (hts _ (List.mem_cons_of_mem _ t_578)) (fun _ h9 => h9) rfl rfl (okV_i (bd_sub kb_1 (by decide))) rfl rfl (by decide) (Or.inr (Or.inl (by decide))) (fx' := [(7, 13, q3_, .int x_938), (6, 12, q5_, .int y_919), (2, 6, a0_, .int 1), (8, 6, q0_, .int 1201), (8, 8, q0_, .int x_608), (2, 0, a0_, .ref q0_), (2, 1, a0_, .ref q1_), (2, 2, a0_, .ref q2_), (2, 3, a0_, .ref q3_), (2, 4, a0_, .ref q4_), (2, 5, a0_, .ref q5_), (0, 0, q2_, .ref q0_), (0, 1, q2_, .ref q1_), (5, 0, q1_, .ref q3_), (5, 1, q1_, .ref q9_), (9, 8, q4_, .int y1_), (7, 3, q3_, .int y2_), (5, 2, q1_, .int y4_), (7, 1, q3_, .int y5_)]) rfl dX2_readMark_231 (fun f H locs hM_945 g => ?_)
          have hG_946 := cOK.frame hM_945 go_.2.2.2.1 mq3_ kq3_ (by decide) (by decide) hG_941
          have hG_947 := dOK.frame hM_945 go_.2.2.2.1 mq3_ kq3_ (by decide) (by decide) hG_942
          have hG_948 := jS.frame hM_945 go_.2.2.2.1 mq3_ kq3_ (by decide) (by decide) hG_943
          have hG_949 := eOK.frame hM_945 go_.2.2.2.1 mq2_ kq2_ (by decide) (by decide) hG_944
          refine lv_aload_n hx hb dX2_readMark_234 rfl (lv_at hl 2 rfl) ?_
          refine g_getk (C := RX2) (T := TX2) (N := 16) hx hb hts (mc_ inX2) hown hK g rfl 0 (by decide) rfl (hts _ (List.mem_cons_of_mem _ t_416)) (fun _ h9 => h9) 6 rfl dX2_readMark_235 ?_
          refine lv_bipush (v := 59) hx hb dX2_readMark_238 (by decide) ?_
          have go_ := g
          refine g_callv (va_runV (As := [.int 59]) (rest := []) ⟨hx, hb, hml, hown, hts⟩ (r_X8_take_2 l dC dI L kd tys f H.size g.2.2.2.1 q0_ mq0_ kq0_ 59 1201 kb_1201 x_608 h_609 (g.fcts [4, 5] rfl)) (cwV 1 hts (gV_ t_1098 t_1099 t_1100 t_184 t_1101) rfl rfl rfl (by decide +kernel) ⟨(Nat.le_of_ble_eq_true rfl), (Nat.le_of_ble_eq_true rfl)⟩) (pre3V g hK mq0_ kq0_ (by decide) (q := (RX8, TX8, 10)) rfl) rfl rfl hl.1 rfl (lv_room (Nat.le_of_ble_eq_true rfl)) dX2_readMark_240 ⟨(Nat.le_of_ble_eq_true rfl), (Nat.le_of_ble_eq_true rfl)⟩) g hK (by decide) (by decide) (fx' := [(6, 6, q5_, .int 1), (7, 13, q3_, .int x_938), (6, 12, q5_, .int y_919), (2, 6, a0_, .int 1), (8, 8, q0_, .int x_608), (2, 0, a0_, .ref q0_), (2, 1, a0_, .ref q1_), (2, 2, a0_, .ref q2_), (2, 3, a0_, .ref q3_), (2, 4, a0_, .ref q4_), (2, 5, a0_, .ref q5_), (0, 0, q2_, .ref q0_), (0, 1, q2_, .ref q1_), (5, 0, q1_, .ref q3_), (5, 1, q1_, .ref q9_), (9, 8, q4_, .int y1_), (7, 3, q3_, .int y2_), (5, 2, q1_, .int y4_), (7, 1, q3_, .int y5_)]) rfl (fun fr_950 H locs hp hMr_950 g => ?_)
          obtain ⟨x_951, h_952, hF_953⟩ := hp
          have hG_954 := cOK.frame hMr_950 go_.2.2.2.1 mq3_ kq3_ (by decide) (by decide) hG_946
          have hG_955 := dOK.frame hMr_950 go_.2.2.2.1 mq3_ kq3_ (by decide) (by decide) hG_947
          have hG_956 := jS.frame hMr_950 go_.2.2.2.1 mq3_ kq3_ (by decide) (by decide) hG_948
          have hG_957 := eOK.frame hMr_950 go_.2.2.2.1 mq2_ kq2_ (by decide) (by decide) hG_949
          have g := g.more hF_953
          subst hQ
          exact W.vret hx hb hr (fun t ht hW => ⟨⟨_, rfl, Or.inr (⟨hG_955, hG_957, x_951, h_952, x_608, h_609, x_938, h_939, y_919, (bd_sub b_920 (by decide)), (g.fcts [0, 5, 2, 3] rfl)⟩), q3_of g hK ht hW⟩, g.2.2.1.F ht⟩) g.2.2.1.2.2 dX2_readMark_243
        · have fc_912 := neq_f c_912
          have b_958 : bd 1 1 x_911 := neX fc_912 bx_911 kb_0 (by decide)
          refine lv_aload_n hx hb dX2_readMark_63 rfl (lv_at hl 2 rfl) ?_
          refine g_getk (C := RX2) (T := TX2) (N := 16) hx hb hts (mc_ inX2) hown hK g rfl 0 (by decide) rfl (hts _ (List.mem_cons_of_mem _ t_416)) (fun _ h9 => h9) 3 rfl dX2_readMark_64 ?_
          refine lv_iconst (v := 5) hx hb dX2_readMark_67 (by decide) ?_
          refine lv_iload_n hx hb dX2_readMark_68 rfl (lv_at hl 0 rfl) ?_
          have kb_5 : bd 5 5 (5 : Int32) := ⟨by decide, by decide⟩
          have go_ := g
          refine g_callv (va_runV (As := [.int 5, .int r_6]) (rest := []) ⟨hx, hb, hml, hown, hts⟩ (r_X8_fail_2 l dC dI L kd tys fr_615 H.size g.2.2.2.1 q0_ mq0_ kq0_ 5 (bd_sub kb_5 (by decide)) r_6 x_608 h_609 (g.fcts [2] rfl)) (cwV 2 hts (gV_ t_1122 t_1107 t_1108 t_184 t_1109) rfl rfl rfl (by decide +kernel) ⟨(Nat.le_of_ble_eq_true rfl), (Nat.le_of_ble_eq_true rfl)⟩) (pre3V g hK mq0_ kq0_ (by decide) (q := (RX8, TX8, 10)) rfl) rfl rfl hl.1 rfl (lv_room (Nat.le_of_ble_eq_true rfl)) dX2_readMark_69 ⟨(Nat.le_of_ble_eq_true rfl), (Nat.le_of_ble_eq_true rfl)⟩) g hK (by decide) (by decide) (fx' := [(2, 6, a0_, .int x_911), (8, 8, q0_, .int x_608), (2, 0, a0_, .ref q0_), (2, 1, a0_, .ref q1_), (2, 2, a0_, .ref q2_), (2, 3, a0_, .ref q3_), (2, 4, a0_, .ref q4_), (2, 5, a0_, .ref q5_), (0, 0, q2_, .ref q0_), (0, 1, q2_, .ref q1_), (5, 0, q1_, .ref q3_), (5, 1, q1_, .ref q9_), (9, 8, q4_, .int y1_), (7, 3, q3_, .int y2_), (6, 12, q5_, .int y3_), (5, 2, q1_, .int y4_), (7, 1, q3_, .int y5_)]) rfl (fun fr_959 H locs hp hMr_959 g => ?_)
          have hF_960 := hp
          have hG_961 := cOK.frame hMr_959 go_.2.2.2.1 mq3_ kq3_ (by decide) (by decide) hG_616
          have hG_962 := dOK.frame hMr_959 go_.2.2.2.1 mq3_ kq3_ (by decide) (by decide) hG_617
          have hG_963 := jS.frame hMr_959 go_.2.2.2.1 mq3_ kq3_ (by decide) (by decide) hG_618
          have hG_964 := eOK.frame hMr_959 go_.2.2.2.1 mq2_ kq2_ (by decide) (by decide) hG_619
          have g := g.more hF_960
          refine lv_aload_n hx hb dX2_readMark_72 rfl (lv_at hl 2 rfl) ?_
          refine lv_iconst (v := 1) hx hb dX2_readMark_73 (by decide) ?_
          have kb_1 : bd 1 1 (1 : Int32) := ⟨by decide, by decide⟩
          have go_ := g
          refine g_put (C := RX2) (T := TX2) (N := 16) hx hb hts (mc_ inX2) tyX2 tyX2_ok nmX2 hown hK g ma0_ ka0_ (by decide) rfl 6 (by decide) (hts _ (List.mem_cons_of_mem _ t_422)) (fun _ h9 => h9) rfl rfl (okV_i (bd_sub kb_1 (by decide))) rfl rfl (by decide) (Or.inr (Or.inl (by decide))) (fx' := [(8, 6, q0_, .int 1201), (8, 8, q0_, .int x_608), (2, 0, a0_, .ref q0_), (2, 1, a0_, .ref q1_), (2, 2, a0_, .ref q2_), (2, 3, a0_, .ref q3_), (2, 4, a0_, .ref q4_), (2, 5, a0_, .ref q5_), (0, 0, q2_, .ref q0_), (0, 1, q2_, .ref q1_), (5, 0, q1_, .ref q3_), (5, 1, q1_, .ref q9_), (9, 8, q4_, .int y1_), (7, 3, q3_, .int y2_), (6, 12, q5_, .int y3_), (5, 2, q1_, .int y4_), (7, 1, q3_, .int y5_)]) rfl dX2_readMark_74 (fun f H locs hM_965 g => ?_)
          have hG_966 := cOK.frame hM_965 go_.2.2.2.1 mq3_ kq3_ (by decide) (by decide) hG_961
          have hG_967 := dOK.frame hM_965 go_.2.2.2.1 mq3_ kq3_ (by decide) (by decide) hG_962
          have hG_968 := jS.frame hM_965 go_.2.2.2.1 mq3_ kq3_ (by decide) (by decide) hG_963
          have hG_969 := eOK.frame hM_965 go_.2.2.2.1 mq2_ kq2_ (by decide) (by decide) hG_964
          refine lv_aload_n hx hb dX2_readMark_77 rfl (lv_at hl 2 rfl) ?_
          refine g_getk (C := RX2) (T := TX2) (N := 16) hx hb hts (mc_ inX2) hown hK g rfl 5 (by decide) rfl (hts _ (List.mem_cons_of_mem _ t_421)) (fun _ h9 => h9) 8 rfl dX2_readMark_78 ?_
          refine lv_dup hx hb dX2_readMark_81 rfl ?_
          refine g_getk (C := RX6) (T := TX6) (N := 13) hx hb hts (mc_ inX6) hown hK g rfl 12 (by decide) rfl (hts _ (List.mem_cons_of_mem _ t_591)) (fun _ h9 => h9) 15 rfl dX2_readMark_82 ?_
          refine lv_iconst (v := 1) hx hb dX2_readMark_85 (by decide) ?_
          refine lv_iadd hx hb dX2_readMark_86 ?_
          refine lv_topi (fun y_970 ey_970 => ?_)
          have ty_970 := add_bd ey_970 b_606 kb_1 (by decide)
          have b_971 : bd 9 9 y_970 := add_rg ty_970 b_606 kb_1 (by decide)
          have go_ := g
          refine g_put (C := RX6) (T := TX6) (N := 13) hx hb hts (mc_ inX6) tyX6 tyX6_ok nmX6 hown hK g mq5_ kq5_ (by decide) rfl 12 (by decide) (hts _ (List.mem_cons_of_mem _ t_591)) (fun _ h9 => h9) rfl rfl (okV_i (bd_sub b_971 (by decide))) rfl rfl (by decide) (Or.inr (Or.inl (by decide))) (fx' := [(2, 6, a0_, .int 1), (8, 6, q0_, .int 1201), (8, 8, q0_, .int x_608), (2, 0, a0_, .ref q0_), (2, 1, a0_, .ref q1_), (2, 2, a0_, .ref q2_), (2, 3, a0_, .ref q3_), (2, 4, a0_, .ref q4_), (2, 5, a0_, .ref q5_), (0, 0, q2_, .ref q0_), (0, 1, q2_, .ref q1_), (5, 0, q1_, .ref q3_), (5, 1, q1_, .ref q9_), (9, 8, q4_, .int y1_), (7, 3, q3_, .int y2_), (5, 2, q1_, .int y4_), (7, 1, q3_, .int y5_)]) rfl dX2_readMark_87 (fun f H locs hM_972 g => ?_)
          have hG_973 := cOK.frame hM_972 go_.2.2.2.1 mq3_ kq3_ (by decide) (by decide) hG_966
          have hG_974 := dOK.frame hM_972 go_.2.2.2.1 mq3_ kq3_ (by decide) (by decide) hG_967
          have hG_975 := jS.frame hM_972 go_.2.2.2.1 mq3_ kq3_ (by decide) (by decide) hG_968
          have hG_976 := eOK.frame hM_972 go_.2.2.2.1 mq2_ kq2_ (by decide) (by decide) hG_969
          refine lv_iload_n hx hb dX2_readMark_90 rfl (lv_at hl 1 rfl) ?_
          by_cases e_977 : r_1 = 16
          · refine lv_topi (fun z_978 ez_978 => ?_)
            obtain rfl : z_978 = 16 := ez_978.trans e_977
            have kb_16 : bd 16 16 (16 : Int32) := ⟨by decide, by decide⟩
            exact bd_no (eqX (eq_f e_977) b_910 kb_16 (lo := 21) (hi := 16) (by decide)) (by decide)
          by_cases e_979 : r_1 = 17
          · refine lv_topi (fun z_980 ez_980 => ?_)
            obtain rfl : z_980 = 17 := ez_980.trans e_979
            have kb_17 : bd 17 17 (17 : Int32) := ⟨by decide, by decide⟩
            exact bd_no (eqX (eq_f e_979) b_910 kb_17 (lo := 21) (hi := 17) (by decide)) (by decide)
          by_cases e_981 : r_1 = 18
          · refine lv_topi (fun z_982 ez_982 => ?_)
            obtain rfl : z_982 = 18 := ez_982.trans e_981
            have kb_18 : bd 18 18 (18 : Int32) := ⟨by decide, by decide⟩
            exact bd_no (eqX (eq_f e_981) b_910 kb_18 (lo := 21) (hi := 18) (by decide)) (by decide)
          by_cases e_983 : r_1 = 19
          · refine lv_topi (fun z_984 ez_984 => ?_)
            obtain rfl : z_984 = 19 := ez_984.trans e_983
            have kb_19 : bd 19 19 (19 : Int32) := ⟨by decide, by decide⟩
            exact bd_no (eqX (eq_f e_983) b_910 kb_19 (lo := 21) (hi := 19) (by decide)) (by decide)
          by_cases e_985 : r_1 = 20
          · refine lv_topi (fun z_986 ez_986 => ?_)
            obtain rfl : z_986 = 20 := ez_986.trans e_985
            exact bd_no (eqX (eq_f e_985) b_910 kb_20 (lo := 21) (hi := 20) (by decide)) (by decide)
          refine lv_tableOut (tgt := 208) hx hb dX2_readMark_91 (by have a0 : r_1.toInt ≠ 16 := fun h => e_977 (Int32.toInt_inj.mp (h.trans (by decide))); have a1 : r_1.toInt ≠ 17 := fun h => e_979 (Int32.toInt_inj.mp (h.trans (by decide))); have a2 : r_1.toInt ≠ 18 := fun h => e_981 (Int32.toInt_inj.mp (h.trans (by decide))); have a3 : r_1.toInt ≠ 19 := fun h => e_983 (Int32.toInt_inj.mp (h.trans (by decide))); have a4 : r_1.toInt ≠ 20 := fun h => e_985 (Int32.toInt_inj.mp (h.trans (by decide))); omega) (by decide) ?_
          refine lv_aload_n hx hb dX2_readMark_208 rfl (lv_at hl 2 rfl) ?_
          refine g_getk (C := RX2) (T := TX2) (N := 16) hx hb hts (mc_ inX2) hown hK g rfl 3 (by decide) rfl (hts _ (List.mem_cons_of_mem _ t_419)) (fun _ h9 => h9) 7 rfl dX2_readMark_209 ?_
          refine lv_bipush (v := 6) hx hb dX2_readMark_212 (by decide) ?_
          refine lv_aload_n hx hb dX2_readMark_214 rfl (lv_at hl 2 rfl) ?_
          refine g_getk (C := RX2) (T := TX2) (N := 16) hx hb hts (mc_ inX2) hown hK g rfl 1 (by decide) rfl (hts _ (List.mem_cons_of_mem _ t_417)) (fun _ h9 => h9) 5 rfl dX2_readMark_215 ?_
          refine g_getk (C := RX5) (T := TX5) (N := 9) hx hb hts (mc_ inX5) hown hK g rfl 2 (by decide) rfl (hts _ (List.mem_cons_of_mem _ t_333)) (fun _ h9 => h9) 16 rfl dX2_readMark_218 ?_
          refine lv_iload_n hx hb dX2_readMark_221 rfl (lv_at hl 0 rfl) ?_
          have go_ := g
          refine g_calli (va_runV (As := [.int 6, .int y4_, .int r_6]) (rest := []) ⟨hx, hb, hml, hown, hts⟩ (r_X7_addMark l dC dI L kd tys f H.size g.2.2.2.1 q3_ mq3_ kq3_ 6 y4_ r_6) (cwV 3 hts (gV_ t_1173 t_1174 t_1175 t_191 t_1176) rfl rfl rfl (by decide +kernel) ⟨(Nat.le_of_ble_eq_true rfl), (Nat.le_of_ble_eq_true rfl)⟩) (pre3V g hK mq3_ kq3_ (by decide) (q := (RX7, TX7, 19)) rfl) rfl rfl hl.1 rfl (lv_room (Nat.le_of_ble_eq_true rfl)) dX2_readMark_222 ⟨(Nat.le_of_ble_eq_true rfl), (Nat.le_of_ble_eq_true rfl)⟩) g hK (by decide) (by decide) (fx' := [(6, 12, q5_, .int y_970), (2, 6, a0_, .int 1), (8, 6, q0_, .int 1201), (8, 8, q0_, .int x_608), (2, 0, a0_, .ref q0_), (2, 1, a0_, .ref q1_), (2, 2, a0_, .ref q2_), (2, 3, a0_, .ref q3_), (2, 4, a0_, .ref q4_), (2, 5, a0_, .ref q5_), (0, 0, q2_, .ref q0_), (0, 1, q2_, .ref q1_), (5, 0, q1_, .ref q3_), (5, 1, q1_, .ref q9_), (9, 8, q4_, .int y1_), (7, 3, q3_, .int y2_), (5, 2, q1_, .int y4_), (7, 1, q3_, .int y5_)]) rfl (fun r_987 fr_987 H locs hp hMr_987 g => ?_)
          obtain ⟨h_988, x_989, h_990, hF_991⟩ := hp
          have hG_992 := cOK.frame hMr_987 go_.2.2.2.1 mq3_ kq3_ (by decide) (by decide) hG_973
          have hG_993 := dOK.frame hMr_987 go_.2.2.2.1 mq3_ kq3_ (by decide) (by decide) hG_974
          have hG_994 := jS.frame hMr_987 go_.2.2.2.1 mq3_ kq3_ (by decide) (by decide) hG_975
          have hG_995 := eOK.frame hMr_987 go_.2.2.2.1 mq2_ kq2_ (by decide) (by decide) hG_976
          have g := g.more hF_991
          refine lv_pop hx hb dX2_readMark_225 rfl ?_
          refine lv_aload_n hx hb dX2_readMark_226 rfl (lv_at hl 2 rfl) ?_
          refine g_getk (C := RX2) (T := TX2) (N := 16) hx hb hts (mc_ inX2) hown hK g rfl 5 (by decide) rfl (hts _ (List.mem_cons_of_mem _ t_421)) (fun _ h9 => h9) 10 rfl dX2_readMark_227 ?_
          refine lv_iconst (v := 1) hx hb dX2_readMark_230 (by decide) ?_
          have go_ := g
          refine g_put (C := RX6) (T := TX6) (N := 13) hx hb hts (mc_ inX6) tyX6 tyX6_ok nmX6 hown hK g mq5_ kq5_ (by decide) rfl 6 (by decide) (hts _ (List.mem_cons_of_mem _ t_578)) (fun _ h9 => h9) rfl rfl (okV_i (bd_sub kb_1 (by decide))) rfl rfl (by decide) (Or.inr (Or.inl (by decide))) (fx' := [(7, 13, q3_, .int x_989), (6, 12, q5_, .int y_970), (2, 6, a0_, .int 1), (8, 6, q0_, .int 1201), (8, 8, q0_, .int x_608), (2, 0, a0_, .ref q0_), (2, 1, a0_, .ref q1_), (2, 2, a0_, .ref q2_), (2, 3, a0_, .ref q3_), (2, 4, a0_, .ref q4_), (2, 5, a0_, .ref q5_), (0, 0, q2_, .ref q0_), (0, 1, q2_, .ref q1_), (5, 0, q1_, .ref q3_), (5, 1, q1_, .ref q9_), (9, 8, q4_, .int y1_), (7, 3, q3_, .int y2_), (5, 2, q1_, .int y4_), (7, 1, q3_, .int y5_)]) rfl dX2_readMark_231 (fun f H locs hM_996 g => ?_)
          have hG_997 := cOK.frame hM_996 go_.2.2.2.1 mq3_ kq3_ (by decide) (by decide) hG_992
          have hG_998 := dOK.frame hM_996 go_.2.2.2.1 mq3_ kq3_ (by decide) (by decide) hG_993
          have hG_999 := jS.frame hM_996 go_.2.2.2.1 mq3_ kq3_ (by decide) (by decide) hG_994
          have hG_1000 := eOK.frame hM_996 go_.2.2.2.1 mq2_ kq2_ (by decide) (by decide) hG_995
          refine lv_aload_n hx hb dX2_readMark_234 rfl (lv_at hl 2 rfl) ?_
          refine g_getk (C := RX2) (T := TX2) (N := 16) hx hb hts (mc_ inX2) hown hK g rfl 0 (by decide) rfl (hts _ (List.mem_cons_of_mem _ t_416)) (fun _ h9 => h9) 6 rfl dX2_readMark_235 ?_
          refine lv_bipush (v := 59) hx hb dX2_readMark_238 (by decide) ?_
          have go_ := g
          refine g_callv (va_runV (As := [.int 59]) (rest := []) ⟨hx, hb, hml, hown, hts⟩ (r_X8_take_2 l dC dI L kd tys f H.size g.2.2.2.1 q0_ mq0_ kq0_ 59 1201 kb_1201 x_608 h_609 (g.fcts [4, 5] rfl)) (cwV 1 hts (gV_ t_1098 t_1099 t_1100 t_184 t_1101) rfl rfl rfl (by decide +kernel) ⟨(Nat.le_of_ble_eq_true rfl), (Nat.le_of_ble_eq_true rfl)⟩) (pre3V g hK mq0_ kq0_ (by decide) (q := (RX8, TX8, 10)) rfl) rfl rfl hl.1 rfl (lv_room (Nat.le_of_ble_eq_true rfl)) dX2_readMark_240 ⟨(Nat.le_of_ble_eq_true rfl), (Nat.le_of_ble_eq_true rfl)⟩) g hK (by decide) (by decide) (fx' := [(6, 6, q5_, .int 1), (7, 13, q3_, .int x_989), (6, 12, q5_, .int y_970), (2, 6, a0_, .int 1), (8, 8, q0_, .int x_608), (2, 0, a0_, .ref q0_), (2, 1, a0_, .ref q1_), (2, 2, a0_, .ref q2_), (2, 3, a0_, .ref q3_), (2, 4, a0_, .ref q4_), (2, 5, a0_, .ref q5_), (0, 0, q2_, .ref q0_), (0, 1, q2_, .ref q1_), (5, 0, q1_, .ref q3_), (5, 1, q1_, .ref q9_), (9, 8, q4_, .int y1_), (7, 3, q3_, .int y2_), (5, 2, q1_, .int y4_), (7, 1, q3_, .int y5_)]) rfl (fun fr_1001 H locs hp hMr_1001 g => ?_)
          obtain ⟨x_1002, h_1003, hF_1004⟩ := hp
          have hG_1005 := cOK.frame hMr_1001 go_.2.2.2.1 mq3_ kq3_ (by decide) (by decide) hG_997
          have hG_1006 := dOK.frame hMr_1001 go_.2.2.2.1 mq3_ kq3_ (by decide) (by decide) hG_998
          have hG_1007 := jS.frame hMr_1001 go_.2.2.2.1 mq3_ kq3_ (by decide) (by decide) hG_999
          have hG_1008 := eOK.frame hMr_1001 go_.2.2.2.1 mq2_ kq2_ (by decide) (by decide) hG_1000
          have g := g.more hF_1004
          subst hQ
          exact W.vret hx hb hr (fun t ht hW => ⟨⟨_, rfl, Or.inr (⟨hG_1006, hG_1008, x_1002, h_1003, x_608, h_609, x_989, h_990, y_970, (bd_sub b_971 (by decide)), (g.fcts [0, 5, 2, 3] rfl)⟩), q3_of g hK ht hW⟩, g.2.2.1.F ht⟩) g.2.2.1.2.2 dX2_readMark_243
