set_option maxHeartbeats 4000000 in
set_option maxRecDepth 100000 in
theorem r_X2_readStatement (l : Launch) (dC : Nat → ClassId) (dI : Nat → Nat → Nat) (L : List Nat) (kd : Nat → Nat) (tys : List (ClassId × FieldType)) (f0 : Nat → va_E) (sz : Nat) (hWT : WT L kd tys f0) (a0_ : Nat) (ma0_ : a0_ ∈ L) (ka0_ : kd a0_ = 2) (q0_ : Nat) (mq0_ : q0_ ∈ L) (kq0_ : kd q0_ = 8) (q1_ : Nat) (mq1_ : q1_ ∈ L) (kq1_ : kd q1_ = 5) (q2_ : Nat) (mq2_ : q2_ ∈ L) (kq2_ : kd q2_ = 0) (q3_ : Nat) (mq3_ : q3_ ∈ L) (kq3_ : kd q3_ = 7) (q4_ : Nat) (mq4_ : q4_ ∈ L) (kq4_ : kd q4_ = 9) (q5_ : Nat) (mq5_ : q5_ ∈ L) (kq5_ : kd q5_ = 6) (q9_ : Nat) (mq9_ : q9_ ∈ L) (kq9_ : kd q9_ = 9) (y0_ : Int32) (by0_ : bd 1 8 y0_) (y1_ : Int32) (by1_ : bd 0 0 y1_) (T_ : Nat) (J_ : Int32 → Prop) (hGba0_ : bJx f0 a0_) (hGdq3_ : dOK L kd f0 q3_ T_) (hGcq3_ : cOK f0 q3_) (hGsq3_ : jS f0 q3_ J_) (hGeq2_ : eOK f0 q2_) (hfx : Fs L kd f0 [(2, 0, a0_, .ref q0_), (2, 1, a0_, .ref q1_), (2, 2, a0_, .ref q2_), (2, 3, a0_, .ref q3_), (2, 4, a0_, .ref q4_), (2, 5, a0_, .ref q5_), (0, 0, q2_, .ref q0_), (0, 1, q2_, .ref q1_), (5, 0, q1_, .ref q3_), (5, 1, q1_, .ref q9_), (2, 11, a0_, .int y0_), (8, 8, q0_, .int y1_)]) : Met l yX2_readStatement (.code yX2_readStatement cX2_readStatement 2 none :: lw_g) ({ frames := 5, cells := 0, slots := 0, locals := 122 }) (va_Pc [.ref a0_] (P3 (dC, dI) L tys f0 sz)) (va_Qv (fun (f : Nat → va_E) => (bJx f a0_ ∧ dOK L kd f q3_ T_ ∧ cOK f q3_ ∧ jS f q3_ J_ ∧ eOK f q2_ ∧ ∃ z0_ : Int32, bd 1 1201 z0_ ∧ Fs L kd f [(8, 6, q0_, .int z0_), (8, 8, q0_, .int y1_)]) ∨ (dOK L kd f q3_ T_ ∧ eOK f q2_ ∧ ∃ z0_ : Int32, bd 1201 1201 z0_ ∧ ∃ z1_ : Int32, bd 1 7 z1_ ∧ Fs L kd f [(8, 6, q0_, .int z0_), (8, 8, q0_, .int z1_)])) (Q3 (dC, dI) L kd tys [(0, 2), (0, 8), (0, 10), (0, 11), (0, 12), (0, 13), (2, 11), (2, 12), (2, 13), (2, 14), (2, 15), (5, 6), (6, 10), (7, 6), (7, 15), (7, 17), (7, 18), (8, 6), (8, 8), (8, 9)] [110, 111, 112, 113, 114, 115, 118, 119, 120, 121, 133, 138, 139, 146, 147] f0 sz) (pA L sz)) 0 0 (pA L sz) := by
  refine Met.ofW (cc := cX2_readStatement) (maxL := 2) (ret := none) (by decide) rfl ?_
  intro p e s m args below meth c s₁ B hml hv
  obtain ⟨rfl, hsz, hP, hK, hD0⟩ := hv
  have hx := B.exec
  have hb := B.bytes
  have hr := B.returns
  have hts := atoms_spec (ws := (.code yX2_readStatement cX2_readStatement 2 none :: lw_g)) B.pre
  have hown : s.vm.findClass RX2 = some m.cls := findClass_of_methodNamed B.named
  have hlocks := B.notSynchronized
  subst hsz
  have g : G3 (dC, dI) L kd tys s f0 [(0, 2), (0, 8), (0, 10), (0, 11), (0, 12), (0, 13), (2, 11), (2, 12), (2, 13), (2, 14), (2, 15), (5, 6), (6, 10), (7, 6), (7, 15), (7, 17), (7, 18), (8, 6), (8, 8), (8, 9)] [110, 111, 112, 113, 114, 115, 118, 119, 120, 121, 133, 138, 139, 146, 147] f0 s.heap [] [(2, 0, a0_, .ref q0_), (2, 1, a0_, .ref q1_), (2, 2, a0_, .ref q2_), (2, 3, a0_, .ref q3_), (2, 4, a0_, .ref q4_), (2, 5, a0_, .ref q5_), (0, 0, q2_, .ref q0_), (0, 1, q2_, .ref q1_), (5, 0, q1_, .ref q3_), (5, 1, q1_, .ref q9_), (2, 11, a0_, .int y0_), (8, 8, q0_, .int y1_)] := G3.start hP hD0 hWT hfx
  have hl := lv_entry ([.ref a0_]) (n := 2) (Nat.le_of_ble_eq_true rfl)
  rw [lg_entry_eq]
  generalize (lg_sl ([.ref a0_]) ++ List.replicate (2 - (lg_sl ([.ref a0_])).length) Slot.unset).toArray = ls at hl ⊢
  have hl : lv_has ls 2 [(0, .ref a0_)] := hl
  refine W_q (fun Q hQ => ?_)
  refine lv_aload_n hx hb dX2_readStatement_0 rfl (lv_at hl 0 rfl) ?_
  refine g_getk (C := RX2) (T := TX2) (N := 16) hx hb hts (mc_ inX2) hown hK g rfl 0 (by decide) rfl (hts _ (List.mem_cons_of_mem _ t_416)) (fun _ h9 => h9) 0 rfl dX2_readStatement_1 ?_
  have go_ := g
  refine g_calli (va_runV (As := []) (rest := []) ⟨hx, hb, hml, hown, hts⟩ (r_X8_kind l dC dI L kd tys f0 s.heap.size g.2.2.2.1 q0_ mq0_ kq0_) (cwV 0 hts (gV_ t_1118 t_1119 t_1120 t_184 t_1121) rfl rfl rfl (by decide +kernel) ⟨(Nat.le_of_ble_eq_true rfl), (Nat.le_of_ble_eq_true rfl)⟩) (pre3V g hK mq0_ kq0_ (by decide) (q := (RX8, TX8, 10)) rfl) rfl rfl hl.1 rfl (lv_room (Nat.le_of_ble_eq_true rfl)) dX2_readStatement_4 ⟨(Nat.le_of_ble_eq_true rfl), (Nat.le_of_ble_eq_true rfl)⟩) g hK (by decide) (by decide) (fx' := [(2, 0, a0_, .ref q0_), (2, 1, a0_, .ref q1_), (2, 2, a0_, .ref q2_), (2, 3, a0_, .ref q3_), (2, 4, a0_, .ref q4_), (2, 5, a0_, .ref q5_), (0, 0, q2_, .ref q0_), (0, 1, q2_, .ref q1_), (5, 0, q1_, .ref q3_), (5, 1, q1_, .ref q9_), (2, 11, a0_, .int y0_), (8, 8, q0_, .int y1_)]) rfl (fun r_1 fr_1 H locs hp hMr_1 g => ?_)
  have hG_2 := bJx.frame hMr_1 go_.2.2.2.1 ma0_ ka0_ (by decide) (by decide) hGba0_
  have hG_3 := dOK.frame hMr_1 go_.2.2.2.1 mq3_ kq3_ (by decide) (by decide) hGdq3_
  have hG_4 := cOK.frame hMr_1 go_.2.2.2.1 mq3_ kq3_ (by decide) (by decide) hGcq3_
  have hG_5 := jS.frame hMr_1 go_.2.2.2.1 mq3_ kq3_ (by decide) (by decide) hGsq3_
  have hG_6 := eOK.frame hMr_1 go_.2.2.2.1 mq2_ kq2_ (by decide) (by decide) hGeq2_
  refine lv_istore_n (lv' := [(1, .int r_1), (0, .ref a0_)]) hx hb dX2_readStatement_7 rfl hl (by decide) rfl (fun ls hl => ?_)
  refine lv_iload_n hx hb dX2_readStatement_8 rfl (lv_at hl 0 rfl) ?_
  refine lv_bipush (v := 125) hx hb dX2_readStatement_9 (by decide) ?_
  have kb_125 : bd 125 125 (125 : Int32) := ⟨by decide, by decide⟩
  refine lv_icmp_ne (tgt := 19) hx hb dX2_readStatement_11 (by decide) (fun c_7 => ?_) (fun c_7 => ?_)
  · have fc_7 := neq_f c_7
    refine lv_iload_n hx hb dX2_readStatement_19 rfl (lv_at hl 0 rfl) ?_
    have go_ := g
    refine g_calli (va_runS (As := [.int r_1]) (rest := []) ⟨hx, hb, hml, hown, hts⟩ (r_X2_startsStatement l dC dI L kd tys fr_1 H.size g.2.2.2.1 r_1) (va_cwS 1 hts (gS_ t_1351 t_1352 t_183 t_1353) rfl rfl rfl (by decide +kernel) ⟨(Nat.le_of_ble_eq_true rfl), (Nat.le_of_ble_eq_true rfl)⟩) (pre3S g hK) rfl rfl hl.1 rfl (lv_room (Nat.le_of_ble_eq_true rfl)) dX2_readStatement_20 ⟨(Nat.le_of_ble_eq_true rfl), (Nat.le_of_ble_eq_true rfl)⟩) g hK (by decide) (by decide) (fx' := [(2, 0, a0_, .ref q0_), (2, 1, a0_, .ref q1_), (2, 2, a0_, .ref q2_), (2, 3, a0_, .ref q3_), (2, 4, a0_, .ref q4_), (2, 5, a0_, .ref q5_), (0, 0, q2_, .ref q0_), (0, 1, q2_, .ref q1_), (5, 0, q1_, .ref q3_), (5, 1, q1_, .ref q9_), (2, 11, a0_, .int y0_), (8, 8, q0_, .int y1_)]) rfl (fun r_8 fr_8 H locs hp hMr_8 g => ?_)
    rcases hp with ⟨h_9, -⟩ | ⟨h_10, h_11, -⟩
    · have hG_12 := bJx.frame hMr_8 go_.2.2.2.1 ma0_ ka0_ (by decide) (by decide) hG_2
      have hG_13 := dOK.frame hMr_8 go_.2.2.2.1 mq3_ kq3_ (by decide) (by decide) hG_3
      have hG_14 := cOK.frame hMr_8 go_.2.2.2.1 mq3_ kq3_ (by decide) (by decide) hG_4
      have hG_15 := jS.frame hMr_8 go_.2.2.2.1 mq3_ kq3_ (by decide) (by decide) hG_5
      have hG_16 := eOK.frame hMr_8 go_.2.2.2.1 mq2_ kq2_ (by decide) (by decide) hG_6
      obtain rfl : r_8 = 0 := h_9
      refine lv_if_ne (tgt := 44) hx hb dX2_readStatement_23 (by decide) (fun c_ => absurd c_ (by decide)) (fun c_ => ?_)
      refine lv_aload_n hx hb dX2_readStatement_26 rfl (lv_at hl 1 rfl) ?_
      refine g_getk (C := RX2) (T := TX2) (N := 16) hx hb hts (mc_ inX2) hown hK g rfl 0 (by decide) rfl (hts _ (List.mem_cons_of_mem _ t_416)) (fun _ h9 => h9) 0 rfl dX2_readStatement_27 ?_
      refine lv_iconst (v := 1) hx hb dX2_readStatement_30 (by decide) ?_
      refine lv_aload_n hx hb dX2_readStatement_31 rfl (lv_at hl 1 rfl) ?_
      refine g_getk (C := RX2) (T := TX2) (N := 16) hx hb hts (mc_ inX2) hown hK g rfl 0 (by decide) rfl (hts _ (List.mem_cons_of_mem _ t_416)) (fun _ h9 => h9) 0 rfl dX2_readStatement_32 ?_
      have go_ := g
      refine g_calli (va_runV (As := []) (rest := [.int 1, .ref q0_]) ⟨hx, hb, hml, hown, hts⟩ (r_X8_place l dC dI L kd tys fr_8 H.size g.2.2.2.1 q0_ mq0_ kq0_) (cwV 0 hts (gV_ t_1110 t_1111 t_1112 t_184 t_1113) rfl rfl rfl (by decide +kernel) ⟨(Nat.le_of_ble_eq_true rfl), (Nat.le_of_ble_eq_true rfl)⟩) (pre3V g hK mq0_ kq0_ (by decide) (q := (RX8, TX8, 10)) rfl) rfl rfl hl.1 rfl (lv_room (Nat.le_of_ble_eq_true rfl)) dX2_readStatement_35 ⟨(Nat.le_of_ble_eq_true rfl), (Nat.le_of_ble_eq_true rfl)⟩) g hK (by decide) (by decide) (fx' := [(2, 0, a0_, .ref q0_), (2, 1, a0_, .ref q1_), (2, 2, a0_, .ref q2_), (2, 3, a0_, .ref q3_), (2, 4, a0_, .ref q4_), (2, 5, a0_, .ref q5_), (0, 0, q2_, .ref q0_), (0, 1, q2_, .ref q1_), (5, 0, q1_, .ref q3_), (5, 1, q1_, .ref q9_), (2, 11, a0_, .int y0_), (8, 8, q0_, .int y1_)]) rfl (fun r_17 fr_17 H locs hp hMr_17 g => ?_)
      have hG_18 := bJx.frame hMr_17 go_.2.2.2.1 ma0_ ka0_ (by decide) (by decide) hG_12
      have hG_19 := dOK.frame hMr_17 go_.2.2.2.1 mq3_ kq3_ (by decide) (by decide) hG_13
      have hG_20 := cOK.frame hMr_17 go_.2.2.2.1 mq3_ kq3_ (by decide) (by decide) hG_14
      have hG_21 := jS.frame hMr_17 go_.2.2.2.1 mq3_ kq3_ (by decide) (by decide) hG_15
      have hG_22 := eOK.frame hMr_17 go_.2.2.2.1 mq2_ kq2_ (by decide) (by decide) hG_16
      have kb_1 : bd 1 1 (1 : Int32) := ⟨by decide, by decide⟩
      have go_ := g
      refine g_callv (va_runV (As := [.int 1, .int r_17]) (rest := []) ⟨hx, hb, hml, hown, hts⟩ (r_X8_fail l dC dI L kd tys fr_17 H.size g.2.2.2.1 q0_ mq0_ kq0_ 1 (bd_sub kb_1 (by decide)) r_17 y1_ by1_ (g.fcts [11] rfl)) (cwV 2 hts (gV_ t_1122 t_1107 t_1108 t_184 t_1109) rfl rfl rfl (by decide +kernel) ⟨(Nat.le_of_ble_eq_true rfl), (Nat.le_of_ble_eq_true rfl)⟩) (pre3V g hK mq0_ kq0_ (by decide) (q := (RX8, TX8, 10)) rfl) rfl rfl hl.1 rfl (lv_room (Nat.le_of_ble_eq_true rfl)) dX2_readStatement_38 ⟨(Nat.le_of_ble_eq_true rfl), (Nat.le_of_ble_eq_true rfl)⟩) g hK (by decide) (by decide) (fx' := [(2, 0, a0_, .ref q0_), (2, 1, a0_, .ref q1_), (2, 2, a0_, .ref q2_), (2, 3, a0_, .ref q3_), (2, 4, a0_, .ref q4_), (2, 5, a0_, .ref q5_), (0, 0, q2_, .ref q0_), (0, 1, q2_, .ref q1_), (5, 0, q1_, .ref q3_), (5, 1, q1_, .ref q9_), (2, 11, a0_, .int y0_)]) rfl (fun fr_23 H locs hp hMr_23 g => ?_)
      obtain ⟨x_24, h_25, hF_26⟩ := hp
      have hG_27 := bJx.frame hMr_23 go_.2.2.2.1 ma0_ ka0_ (by decide) (by decide) hG_18
      have hG_28 := dOK.frame hMr_23 go_.2.2.2.1 mq3_ kq3_ (by decide) (by decide) hG_19
      have hG_29 := cOK.frame hMr_23 go_.2.2.2.1 mq3_ kq3_ (by decide) (by decide) hG_20
      have hG_30 := jS.frame hMr_23 go_.2.2.2.1 mq3_ kq3_ (by decide) (by decide) hG_21
      have hG_31 := eOK.frame hMr_23 go_.2.2.2.1 mq2_ kq2_ (by decide) (by decide) hG_22
      have g := g.more hF_26
      refine lv_goto (tgt := 60) hx hb dX2_readStatement_41 (by decide) ?_
      refine lv_aload_n hx hb dX2_readStatement_60 rfl (lv_at hl 1 rfl) ?_
      refine g_getk (C := RX2) (T := TX2) (N := 16) hx hb hts (mc_ inX2) hown hK g rfl 5 (by decide) rfl (hts _ (List.mem_cons_of_mem _ t_421)) (fun _ h9 => h9) 7 rfl dX2_readStatement_61 ?_
      refine lv_dup hx hb dX2_readStatement_64 rfl ?_
      refine g_geti (C := RX6) (T := TX6) (N := 13) hx hb hts (mc_ inX6) hown hK g mq5_ kq5_ (by decide) rfl 10 (by decide) rfl (hts _ (List.mem_cons_of_mem _ t_588)) (fun _ h9 => h9) rfl dX2_readStatement_65 (fun x_32 bx_32 g => ?_)
      refine lv_iconst (v := 1) hx hb dX2_readStatement_68 (by decide) ?_
      refine lv_iadd hx hb dX2_readStatement_69 ?_
      refine lv_topi (fun y_33 ey_33 => ?_)
      have go_ := g
      refine g_put (C := RX6) (T := TX6) (N := 13) hx hb hts (mc_ inX6) tyX6 tyX6_ok nmX6 hown hK g mq5_ kq5_ (by decide) rfl 10 (by decide) (hts _ (List.mem_cons_of_mem _ t_588)) (fun _ h9 => h9) rfl rfl (okV_i (bdT y_33)) rfl rfl (by decide) (Or.inr (Or.inl (by decide))) (fx' := [(8, 6, q0_, .int 1201), (8, 8, q0_, .int x_24), (2, 0, a0_, .ref q0_), (2, 1, a0_, .ref q1_), (2, 2, a0_, .ref q2_), (2, 3, a0_, .ref q3_), (2, 4, a0_, .ref q4_), (2, 5, a0_, .ref q5_), (0, 0, q2_, .ref q0_), (0, 1, q2_, .ref q1_), (5, 0, q1_, .ref q3_), (5, 1, q1_, .ref q9_), (2, 11, a0_, .int y0_)]) rfl dX2_readStatement_70 (fun f H locs hM_34 g => ?_)
      have hG_35 := bJx.frame hM_34 go_.2.2.2.1 ma0_ ka0_ (by decide) (by decide) hG_27
      have hG_36 := dOK.frame hM_34 go_.2.2.2.1 mq3_ kq3_ (by decide) (by decide) hG_28
      have hG_37 := cOK.frame hM_34 go_.2.2.2.1 mq3_ kq3_ (by decide) (by decide) hG_29
      have hG_38 := jS.frame hM_34 go_.2.2.2.1 mq3_ kq3_ (by decide) (by decide) hG_30
      have hG_39 := eOK.frame hM_34 go_.2.2.2.1 mq2_ kq2_ (by decide) (by decide) hG_31
      refine lv_aload_n hx hb dX2_readStatement_73 rfl (lv_at hl 1 rfl) ?_
      refine g_getk (C := RX2) (T := TX2) (N := 16) hx hb hts (mc_ inX2) hown hK g rfl 3 (by decide) rfl (hts _ (List.mem_cons_of_mem _ t_419)) (fun _ h9 => h9) 6 rfl dX2_readStatement_74 ?_
      refine lv_bipush (v := 12) hx hb dX2_readStatement_77 (by decide) ?_
      refine lv_aload_n hx hb dX2_readStatement_79 rfl (lv_at hl 1 rfl) ?_
      refine g_getk (C := RX2) (T := TX2) (N := 16) hx hb hts (mc_ inX2) hown hK g rfl 3 (by decide) rfl (hts _ (List.mem_cons_of_mem _ t_419)) (fun _ h9 => h9) 6 rfl dX2_readStatement_80 ?_
      have go_ := g
      refine g_calli (va_runV (As := []) (rest := [.int 12, .ref q3_]) ⟨hx, hb, hml, hown, hts⟩ (r_X7_addStatement l dC dI L kd tys f H.size g.2.2.2.1 q3_ mq3_ kq3_) (cwV 0 hts (gV_ t_1359 t_1360 t_1361 t_191 t_1362) rfl rfl rfl (by decide +kernel) ⟨(Nat.le_of_ble_eq_true rfl), (Nat.le_of_ble_eq_true rfl)⟩) (pre3V g hK mq3_ kq3_ (by decide) (q := (RX7, TX7, 19)) rfl) rfl rfl hl.1 rfl (lv_room (Nat.le_of_ble_eq_true rfl)) dX2_readStatement_83 ⟨(Nat.le_of_ble_eq_true rfl), (Nat.le_of_ble_eq_true rfl)⟩) g hK (by decide) (by decide) (fx' := [(6, 10, q5_, .int y_33), (8, 6, q0_, .int 1201), (8, 8, q0_, .int x_24), (2, 0, a0_, .ref q0_), (2, 1, a0_, .ref q1_), (2, 2, a0_, .ref q2_), (2, 3, a0_, .ref q3_), (2, 4, a0_, .ref q4_), (2, 5, a0_, .ref q5_), (0, 0, q2_, .ref q0_), (0, 1, q2_, .ref q1_), (5, 0, q1_, .ref q3_), (5, 1, q1_, .ref q9_), (2, 11, a0_, .int y0_)]) rfl (fun r_40 fr_40 H locs hp hMr_40 g => ?_)
      obtain ⟨h_41, x_42, h_43, hF_44⟩ := hp
      have hG_45 := bJx.frame hMr_40 go_.2.2.2.1 ma0_ ka0_ (by decide) (by decide) hG_35
      have hG_46 := dOK.frame hMr_40 go_.2.2.2.1 mq3_ kq3_ (by decide) (by decide) hG_36
      have hG_47 := cOK.frame hMr_40 go_.2.2.2.1 mq3_ kq3_ (by decide) (by decide) hG_37
      have hG_48 := jS.frame hMr_40 go_.2.2.2.1 mq3_ kq3_ (by decide) (by decide) hG_38
      have hG_49 := eOK.frame hMr_40 go_.2.2.2.1 mq2_ kq2_ (by decide) (by decide) hG_39
      have g := g.more hF_44
      obtain ⟨a_50, ma_50, ka_50, g⟩ := g_factr g mq3_ kq3_ (by decide) 4 rfl
      obtain ⟨a_51, ma_51, ka_51, g⟩ := g_factr g mq3_ kq3_ (by decide) 5 rfl
      obtain ⟨x_52, bx_52, g⟩ := g_facti g mq3_ kq3_ (by decide) 6 rfl
      have go_ := g
      refine g_callv (va_runV (As := [.int 12, .int r_40]) (rest := []) ⟨hx, hb, hml, hown, hts⟩ (r_X7_emitF l dC dI L kd tys fr_40 H.size g.2.2.2.1 q3_ mq3_ kq3_ a_50 ma_50 ka_50 a_51 ma_51 ka_51 x_52 bx_52 T_ hG_46 (12 : Int32) r_40 (g.fcts [2, 1, 0] rfl)) (cwV 2 hts (gV_ t_1301 t_1204 t_1205 t_191 t_1206) rfl rfl rfl (by decide +kernel) ⟨(Nat.le_of_ble_eq_true rfl), (Nat.le_of_ble_eq_true rfl)⟩) (pre3V g hK mq3_ kq3_ (by decide) (q := (RX7, TX7, 19)) rfl) rfl rfl hl.1 rfl (lv_room (Nat.le_of_ble_eq_true rfl)) dX2_readStatement_86 ⟨(Nat.le_of_ble_eq_true rfl), (Nat.le_of_ble_eq_true rfl)⟩) g hK (by decide) (by decide) (fx' := [(7, 5, q3_, .ref a_51), (7, 4, q3_, .ref a_50), (7, 15, q3_, .int x_42), (6, 10, q5_, .int y_33), (8, 6, q0_, .int 1201), (8, 8, q0_, .int x_24), (2, 0, a0_, .ref q0_), (2, 1, a0_, .ref q1_), (2, 2, a0_, .ref q2_), (2, 3, a0_, .ref q3_), (2, 4, a0_, .ref q4_), (2, 5, a0_, .ref q5_), (0, 0, q2_, .ref q0_), (0, 1, q2_, .ref q1_), (5, 0, q1_, .ref q3_), (5, 1, q1_, .ref q9_), (2, 11, a0_, .int y0_)]) rfl (fun fr_53 H locs hp hMr_53 g => ?_)
      obtain ⟨hG_54, x_55, h_56, hF_57⟩ := hp
      have hG_58 := eOK.frame hMr_53 go_.2.2.2.1 mq2_ kq2_ (by decide) (by decide) hG_49
      have g := g.more hF_57
      refine lv_iload_n hx hb dX2_readStatement_89 rfl (lv_at hl 0 rfl) ?_
      by_cases e_59 : r_1 = 22
      · refine lv_topi (fun z_60 ez_60 => ?_)
        obtain rfl : z_60 = 22 := ez_60.trans e_59
        have kb_22 : bd 22 22 (22 : Int32) := ⟨by decide, by decide⟩
        have b_61 : bd 22 22 r_1 := eqX (eq_f e_59) (bdT r_1) kb_22 (by decide)
        refine lv_tableIn (off := 38) (tgt := 128) hx hb dX2_readStatement_90 (by decide) (by decide) rfl (by decide) ?_
        refine lv_aload_n hx hb dX2_readStatement_128 rfl (lv_at hl 1 rfl) ?_
        have kb_1201 : bd 1201 1201 (1201 : Int32) := ⟨by decide, by decide⟩
        have go_ := g
        refine g_callv (va_runV (As := []) (rest := []) ⟨hx, hb, hml, hown, hts⟩ (r_X2_readLet l dC dI L kd tys fr_53 H.size g.2.2.2.1 a0_ ma0_ ka0_ q0_ mq0_ kq0_ q1_ mq1_ kq1_ q2_ mq2_ kq2_ q3_ mq3_ kq3_ q9_ mq9_ kq9_ 1201 kb_1201 x_24 h_25 T_ hG_54 hG_58 (g.fcts [7, 8, 9, 10, 13, 14, 15, 16, 5, 6] rfl)) (cwV 0 hts (gV_ t_1363 t_1365 t_44 t_183 t_1366) rfl rfl rfl (by decide +kernel) ⟨(Nat.le_of_ble_eq_true rfl), (Nat.le_of_ble_eq_true rfl)⟩) (pre3V g hK ma0_ ka0_ (by decide) (q := (RX2, TX2, 16)) rfl) rfl rfl hl.1 rfl (lv_room (Nat.le_of_ble_eq_true rfl)) dX2_readStatement_129 ⟨(Nat.le_of_ble_eq_true rfl), (Nat.le_of_ble_eq_true rfl)⟩) g hK (by decide) (by decide) (fx' := [(7, 5, q3_, .ref a_51), (7, 4, q3_, .ref a_50), (7, 15, q3_, .int x_42), (6, 10, q5_, .int y_33), (8, 8, q0_, .int x_24), (2, 0, a0_, .ref q0_), (2, 1, a0_, .ref q1_), (2, 2, a0_, .ref q2_), (2, 3, a0_, .ref q3_), (2, 4, a0_, .ref q4_), (2, 5, a0_, .ref q5_), (0, 0, q2_, .ref q0_), (0, 1, q2_, .ref q1_), (5, 0, q1_, .ref q3_), (5, 1, q1_, .ref q9_), (2, 11, a0_, .int y0_)]) rfl (fun fr_62 H locs hp hMr_62 g => ?_)
        obtain ⟨hG_63, x_64, h_65, hF_66⟩ := hp
        have hG_67 := eOK.frame hMr_62 go_.2.2.2.1 mq2_ kq2_ (by decide) (by decide) hG_58
        have g := g.more hF_66
        refine lv_goto (tgt := 191) hx hb dX2_readStatement_132 (by decide) ?_
        subst hQ
        exact W.vret hx hb hr (fun t ht hW => ⟨⟨_, rfl, Or.inr (⟨hG_63, hG_67, x_64, h_65, x_24, h_25, (g.fcts [0, 11] rfl)⟩), q3_of g hK ht hW⟩, g.2.2.1.F ht⟩) g.2.2.1.2.2 dX2_readStatement_191
      by_cases e_68 : r_1 = 23
      · refine lv_topi (fun z_69 ez_69 => ?_)
        obtain rfl : z_69 = 23 := ez_69.trans e_68
        have kb_23 : bd 23 23 (23 : Int32) := ⟨by decide, by decide⟩
        have b_70 : bd 23 23 r_1 := eqX (eq_f e_68) (bdT r_1) kb_23 (by decide)
        refine lv_tableIn (off := 45) (tgt := 135) hx hb dX2_readStatement_90 (by decide) (by decide) rfl (by decide) ?_
        refine lv_aload_n hx hb dX2_readStatement_135 rfl (lv_at hl 1 rfl) ?_
        refine lv_iload_n hx hb dX2_readStatement_136 rfl (lv_at hl 0 rfl) ?_
        have kb_1201 : bd 1201 1201 (1201 : Int32) := ⟨by decide, by decide⟩
        have go_ := g
        refine g_callv (va_runV (As := [.int r_1]) (rest := []) ⟨hx, hb, hml, hown, hts⟩ (r_X2_readTest l dC dI L kd tys fr_53 H.size g.2.2.2.1 a0_ ma0_ ka0_ r_1 q0_ mq0_ kq0_ q1_ mq1_ kq1_ q2_ mq2_ kq2_ q3_ mq3_ kq3_ q9_ mq9_ kq9_ 1201 kb_1201 x_24 h_25 T_ hG_54 hG_58 (g.fcts [7, 8, 9, 10, 13, 14, 15, 16, 5, 6] rfl)) (cwV 1 hts (gV_ t_1367 t_1369 t_45 t_183 t_1370) rfl rfl rfl (by decide +kernel) ⟨(Nat.le_of_ble_eq_true rfl), (Nat.le_of_ble_eq_true rfl)⟩) (pre3V g hK ma0_ ka0_ (by decide) (q := (RX2, TX2, 16)) rfl) rfl rfl hl.1 rfl (lv_room (Nat.le_of_ble_eq_true rfl)) dX2_readStatement_137 ⟨(Nat.le_of_ble_eq_true rfl), (Nat.le_of_ble_eq_true rfl)⟩) g hK (by decide) (by decide) (fx' := [(7, 5, q3_, .ref a_51), (7, 4, q3_, .ref a_50), (7, 15, q3_, .int x_42), (6, 10, q5_, .int y_33), (8, 8, q0_, .int x_24), (2, 0, a0_, .ref q0_), (2, 1, a0_, .ref q1_), (2, 2, a0_, .ref q2_), (2, 3, a0_, .ref q3_), (2, 4, a0_, .ref q4_), (2, 5, a0_, .ref q5_), (0, 0, q2_, .ref q0_), (0, 1, q2_, .ref q1_), (5, 0, q1_, .ref q3_), (5, 1, q1_, .ref q9_), (2, 11, a0_, .int y0_)]) rfl (fun fr_71 H locs hp hMr_71 g => ?_)
        obtain ⟨hG_72, hF_73⟩ := hp
        have hG_74 := eOK.frame hMr_71 go_.2.2.2.1 mq2_ kq2_ (by decide) (by decide) hG_58
        have g := g.more hF_73
        refine lv_goto (tgt := 191) hx hb dX2_readStatement_140 (by decide) ?_
        subst hQ
        exact W.vret hx hb hr (fun t ht hW => ⟨⟨_, rfl, Or.inr (⟨hG_72, hG_74, 1201, kb_1201, x_24, h_25, (g.fcts [0, 11] rfl)⟩), q3_of g hK ht hW⟩, g.2.2.1.F ht⟩) g.2.2.1.2.2 dX2_readStatement_191
      by_cases e_75 : r_1 = 24
      · refine lv_topi (fun z_76 ez_76 => ?_)
        obtain rfl : z_76 = 24 := ez_76.trans e_75
        have kb_24 : bd 24 24 (24 : Int32) := ⟨by decide, by decide⟩
        have b_77 : bd 24 24 r_1 := eqX (eq_f e_75) (bdT r_1) kb_24 (by decide)
        refine lv_tableIn (off := 67) (tgt := 157) hx hb dX2_readStatement_90 (by decide) (by decide) rfl (by decide) ?_
        refine lv_iload_n hx hb dX2_readStatement_157 rfl (lv_at hl 0 rfl) ?_
        refine lv_bipush (v := 11) hx hb dX2_readStatement_158 (by decide) ?_
        have kb_11 : bd 11 11 (11 : Int32) := ⟨by decide, by decide⟩
        refine lv_icmp_ne (tgt := 173) hx hb dX2_readStatement_160 (by decide) (fun c_78 => ?_) (fun c_78 => ?_)
        · have fc_78 := neq_f c_78
          refine lv_aload_n hx hb dX2_readStatement_173 rfl (lv_at hl 1 rfl) ?_
          have kb_1201 : bd 1201 1201 (1201 : Int32) := ⟨by decide, by decide⟩
          have go_ := g
          refine g_calli (va_runV (As := []) (rest := []) ⟨hx, hb, hml, hown, hts⟩ (r_X2_findNamed l dC dI L kd tys fr_53 H.size g.2.2.2.1 a0_ ma0_ ka0_ q0_ mq0_ kq0_ q1_ mq1_ kq1_ q3_ mq3_ kq3_ q4_ mq4_ kq4_ q9_ mq9_ kq9_ 1201 kb_1201 x_24 h_25 (g.fcts [7, 8, 10, 11, 16, 5, 6] rfl)) (cwV 0 hts (gV_ t_1388 t_1390 t_49 t_183 t_1391) rfl rfl rfl (by decide +kernel) ⟨(Nat.le_of_ble_eq_true rfl), (Nat.le_of_ble_eq_true rfl)⟩) (pre3V g hK ma0_ ka0_ (by decide) (q := (RX2, TX2, 16)) rfl) rfl rfl hl.1 rfl (lv_room (Nat.le_of_ble_eq_true rfl)) dX2_readStatement_174 ⟨(Nat.le_of_ble_eq_true rfl), (Nat.le_of_ble_eq_true rfl)⟩) g hK (by decide) (by decide) (fx' := [(7, 6, q3_, .int x_55), (7, 5, q3_, .ref a_51), (7, 4, q3_, .ref a_50), (7, 15, q3_, .int x_42), (6, 10, q5_, .int y_33), (8, 8, q0_, .int x_24), (2, 0, a0_, .ref q0_), (2, 1, a0_, .ref q1_), (2, 2, a0_, .ref q2_), (2, 3, a0_, .ref q3_), (2, 4, a0_, .ref q4_), (2, 5, a0_, .ref q5_), (0, 0, q2_, .ref q0_), (0, 1, q2_, .ref q1_), (5, 0, q1_, .ref q3_), (5, 1, q1_, .ref q9_), (2, 11, a0_, .int y0_)]) rfl (fun r_79 fr_79 H locs hp hMr_79 g => ?_)
          obtain ⟨h_80, x_81, h_82, hF_83⟩ := hp
          have hG_84 := dOK.frame hMr_79 go_.2.2.2.1 mq3_ kq3_ (by decide) (by decide) hG_54
          have hG_85 := eOK.frame hMr_79 go_.2.2.2.1 mq2_ kq2_ (by decide) (by decide) hG_58
          have g := g.more hF_83
          have kb_0 : bd 0 0 (0 : Int32) := ⟨by decide, by decide⟩
          refine lv_if_eq (tgt := 187) hx hb dX2_readStatement_177 (by decide) (fun c_86 => ?_) (fun c_86 => ?_)
          · have fc_86 := eq_f c_86
            have b_87 : bd 0 0 r_79 := eqX fc_86 h_80 kb_0 (by decide)
            refine lv_aload_n hx hb dX2_readStatement_187 rfl (lv_at hl 1 rfl) ?_
            have go_ := g
            refine g_callv (va_runV (As := []) (rest := []) ⟨hx, hb, hml, hown, hts⟩ (r_X2_readAssignment l dC dI L kd tys fr_79 H.size g.2.2.2.1 a0_ ma0_ ka0_ q0_ mq0_ kq0_ q1_ mq1_ kq1_ q2_ mq2_ kq2_ q3_ mq3_ kq3_ q4_ mq4_ kq4_ q9_ mq9_ kq9_ x_81 h_82 x_24 h_25 T_ hG_84 hG_85 (g.fcts [7, 8, 9, 10, 11, 13, 14, 15, 16, 0, 6] rfl)) (cwV 0 hts (gV_ t_1397 t_1399 t_51 t_183 t_1400) rfl rfl rfl (by decide +kernel) ⟨(Nat.le_of_ble_eq_true rfl), (Nat.le_of_ble_eq_true rfl)⟩) (pre3V g hK ma0_ ka0_ (by decide) (q := (RX2, TX2, 16)) rfl) rfl rfl hl.1 rfl (lv_room (Nat.le_of_ble_eq_true rfl)) dX2_readStatement_188 ⟨(Nat.le_of_ble_eq_true rfl), (Nat.le_of_ble_eq_true rfl)⟩) g hK (by decide) (by decide) (fx' := [(7, 5, q3_, .ref a_51), (7, 4, q3_, .ref a_50), (7, 15, q3_, .int x_42), (6, 10, q5_, .int y_33), (8, 8, q0_, .int x_24), (2, 0, a0_, .ref q0_), (2, 1, a0_, .ref q1_), (2, 2, a0_, .ref q2_), (2, 3, a0_, .ref q3_), (2, 4, a0_, .ref q4_), (2, 5, a0_, .ref q5_), (0, 0, q2_, .ref q0_), (0, 1, q2_, .ref q1_), (5, 0, q1_, .ref q3_), (5, 1, q1_, .ref q9_), (2, 11, a0_, .int y0_)]) rfl (fun fr_88 H locs hp hMr_88 g => ?_)
            obtain ⟨hG_89, x_90, h_91, hF_92⟩ := hp
            have hG_93 := eOK.frame hMr_88 go_.2.2.2.1 mq2_ kq2_ (by decide) (by decide) hG_85
            have g := g.more hF_92
            subst hQ
            exact W.vret hx hb hr (fun t ht hW => ⟨⟨_, rfl, Or.inr (⟨hG_89, hG_93, x_90, h_91, x_24, h_25, (g.fcts [0, 11] rfl)⟩), q3_of g hK ht hW⟩, g.2.2.1.F ht⟩) g.2.2.1.2.2 dX2_readStatement_191
          · have fc_86 := neq_f c_86
            have b_94 : bd 1 1 r_79 := neX fc_86 h_80 kb_0 (by decide)
            refine lv_aload_n hx hb dX2_readStatement_180 rfl (lv_at hl 1 rfl) ?_
            have go_ := g
            refine g_callv (va_runV (As := []) (rest := []) ⟨hx, hb, hml, hown, hts⟩ (r_X2_readArguments_3 l dC dI L kd tys fr_79 H.size g.2.2.2.1 a0_ ma0_ ka0_ q0_ mq0_ kq0_ q1_ mq1_ kq1_ q2_ mq2_ kq2_ q3_ mq3_ kq3_ q9_ mq9_ kq9_ x_81 h_82 x_24 h_25 T_ hG_84 hG_85 (g.fcts [7, 8, 9, 10, 13, 14, 15, 16, 0, 6] rfl)) (cwV 0 hts (gV_ t_1393 t_1395 t_50 t_183 t_1396) rfl rfl rfl (by decide +kernel) ⟨(Nat.le_of_ble_eq_true rfl), (Nat.le_of_ble_eq_true rfl)⟩) (pre3V g hK ma0_ ka0_ (by decide) (q := (RX2, TX2, 16)) rfl) rfl rfl hl.1 rfl (lv_room (Nat.le_of_ble_eq_true rfl)) dX2_readStatement_181 ⟨(Nat.le_of_ble_eq_true rfl), (Nat.le_of_ble_eq_true rfl)⟩) g hK (by decide) (by decide) (fx' := [(7, 5, q3_, .ref a_51), (7, 4, q3_, .ref a_50), (7, 15, q3_, .int x_42), (6, 10, q5_, .int y_33), (8, 8, q0_, .int x_24), (2, 0, a0_, .ref q0_), (2, 1, a0_, .ref q1_), (2, 2, a0_, .ref q2_), (2, 3, a0_, .ref q3_), (2, 4, a0_, .ref q4_), (2, 5, a0_, .ref q5_), (0, 0, q2_, .ref q0_), (0, 1, q2_, .ref q1_), (5, 0, q1_, .ref q3_), (5, 1, q1_, .ref q9_), (2, 11, a0_, .int y0_)]) rfl (fun fr_95 H locs hp hMr_95 g => ?_)
            obtain ⟨hG_96, x_97, h_98, hF_99⟩ := hp
            have hG_100 := eOK.frame hMr_95 go_.2.2.2.1 mq2_ kq2_ (by decide) (by decide) hG_85
            have g := g.more hF_99
            refine lv_goto (tgt := 191) hx hb dX2_readStatement_184 (by decide) ?_
            subst hQ
            exact W.vret hx hb hr (fun t ht hW => ⟨⟨_, rfl, Or.inr (⟨hG_96, hG_100, x_97, h_98, x_24, h_25, (g.fcts [0, 5] rfl)⟩), q3_of g hK ht hW⟩, g.2.2.1.F ht⟩) g.2.2.1.2.2 dX2_readStatement_191
        · have fc_78 := eq_f c_78
          have b_101 : bd 24 11 r_1 := eqX fc_78 b_77 kb_11 (by decide)
          exact bd_no b_101 (by decide)
      by_cases e_102 : r_1 = 25
      · refine lv_topi (fun z_103 ez_103 => ?_)
        obtain rfl : z_103 = 25 := ez_103.trans e_102
        have kb_25 : bd 25 25 (25 : Int32) := ⟨by decide, by decide⟩
        have b_104 : bd 25 25 r_1 := eqX (eq_f e_102) (bdT r_1) kb_25 (by decide)
        refine lv_tableIn (off := 45) (tgt := 135) hx hb dX2_readStatement_90 (by decide) (by decide) rfl (by decide) ?_
        refine lv_aload_n hx hb dX2_readStatement_135 rfl (lv_at hl 1 rfl) ?_
        refine lv_iload_n hx hb dX2_readStatement_136 rfl (lv_at hl 0 rfl) ?_
        have kb_1201 : bd 1201 1201 (1201 : Int32) := ⟨by decide, by decide⟩
        have go_ := g
        refine g_callv (va_runV (As := [.int r_1]) (rest := []) ⟨hx, hb, hml, hown, hts⟩ (r_X2_readTest l dC dI L kd tys fr_53 H.size g.2.2.2.1 a0_ ma0_ ka0_ r_1 q0_ mq0_ kq0_ q1_ mq1_ kq1_ q2_ mq2_ kq2_ q3_ mq3_ kq3_ q9_ mq9_ kq9_ 1201 kb_1201 x_24 h_25 T_ hG_54 hG_58 (g.fcts [7, 8, 9, 10, 13, 14, 15, 16, 5, 6] rfl)) (cwV 1 hts (gV_ t_1367 t_1369 t_45 t_183 t_1370) rfl rfl rfl (by decide +kernel) ⟨(Nat.le_of_ble_eq_true rfl), (Nat.le_of_ble_eq_true rfl)⟩) (pre3V g hK ma0_ ka0_ (by decide) (q := (RX2, TX2, 16)) rfl) rfl rfl hl.1 rfl (lv_room (Nat.le_of_ble_eq_true rfl)) dX2_readStatement_137 ⟨(Nat.le_of_ble_eq_true rfl), (Nat.le_of_ble_eq_true rfl)⟩) g hK (by decide) (by decide) (fx' := [(7, 5, q3_, .ref a_51), (7, 4, q3_, .ref a_50), (7, 15, q3_, .int x_42), (6, 10, q5_, .int y_33), (8, 8, q0_, .int x_24), (2, 0, a0_, .ref q0_), (2, 1, a0_, .ref q1_), (2, 2, a0_, .ref q2_), (2, 3, a0_, .ref q3_), (2, 4, a0_, .ref q4_), (2, 5, a0_, .ref q5_), (0, 0, q2_, .ref q0_), (0, 1, q2_, .ref q1_), (5, 0, q1_, .ref q3_), (5, 1, q1_, .ref q9_), (2, 11, a0_, .int y0_)]) rfl (fun fr_105 H locs hp hMr_105 g => ?_)
        obtain ⟨hG_106, hF_107⟩ := hp
        have hG_108 := eOK.frame hMr_105 go_.2.2.2.1 mq2_ kq2_ (by decide) (by decide) hG_58
        have g := g.more hF_107
        refine lv_goto (tgt := 191) hx hb dX2_readStatement_140 (by decide) ?_
        subst hQ
        exact W.vret hx hb hr (fun t ht hW => ⟨⟨_, rfl, Or.inr (⟨hG_106, hG_108, 1201, kb_1201, x_24, h_25, (g.fcts [0, 11] rfl)⟩), q3_of g hK ht hW⟩, g.2.2.1.F ht⟩) g.2.2.1.2.2 dX2_readStatement_191
      by_cases e_109 : r_1 = 26
      · refine lv_topi (fun z_110 ez_110 => ?_)
        obtain rfl : z_110 = 26 := ez_110.trans e_109
        have kb_26 : bd 26 26 (26 : Int32) := ⟨by decide, by decide⟩
        have b_111 : bd 26 26 r_1 := eqX (eq_f e_109) (bdT r_1) kb_26 (by decide)
        refine lv_tableIn (off := 53) (tgt := 143) hx hb dX2_readStatement_90 (by decide) (by decide) rfl (by decide) ?_
        refine lv_aload_n hx hb dX2_readStatement_143 rfl (lv_at hl 1 rfl) ?_
        have kb_1201 : bd 1201 1201 (1201 : Int32) := ⟨by decide, by decide⟩
        have go_ := g
        refine g_callv (va_runV (As := []) (rest := []) ⟨hx, hb, hml, hown, hts⟩ (r_X2_readReturn l dC dI L kd tys fr_53 H.size g.2.2.2.1 a0_ ma0_ ka0_ q0_ mq0_ kq0_ q1_ mq1_ kq1_ q2_ mq2_ kq2_ q3_ mq3_ kq3_ q9_ mq9_ kq9_ 1201 kb_1201 x_24 h_25 T_ hG_54 hG_58 (g.fcts [7, 8, 9, 10, 13, 14, 15, 16, 5, 6] rfl)) (cwV 0 hts (gV_ t_1371 t_1373 t_46 t_183 t_1374) rfl rfl rfl (by decide +kernel) ⟨(Nat.le_of_ble_eq_true rfl), (Nat.le_of_ble_eq_true rfl)⟩) (pre3V g hK ma0_ ka0_ (by decide) (q := (RX2, TX2, 16)) rfl) rfl rfl hl.1 rfl (lv_room (Nat.le_of_ble_eq_true rfl)) dX2_readStatement_144 ⟨(Nat.le_of_ble_eq_true rfl), (Nat.le_of_ble_eq_true rfl)⟩) g hK (by decide) (by decide) (fx' := [(7, 5, q3_, .ref a_51), (7, 4, q3_, .ref a_50), (7, 15, q3_, .int x_42), (6, 10, q5_, .int y_33), (8, 8, q0_, .int x_24), (2, 0, a0_, .ref q0_), (2, 1, a0_, .ref q1_), (2, 2, a0_, .ref q2_), (2, 3, a0_, .ref q3_), (2, 4, a0_, .ref q4_), (2, 5, a0_, .ref q5_), (0, 0, q2_, .ref q0_), (0, 1, q2_, .ref q1_), (5, 0, q1_, .ref q3_), (5, 1, q1_, .ref q9_), (2, 11, a0_, .int y0_)]) rfl (fun fr_112 H locs hp hMr_112 g => ?_)
        obtain ⟨hG_113, x_114, h_115, hF_116⟩ := hp
        have hG_117 := eOK.frame hMr_112 go_.2.2.2.1 mq2_ kq2_ (by decide) (by decide) hG_58
        have g := g.more hF_116
        refine lv_goto (tgt := 191) hx hb dX2_readStatement_147 (by decide) ?_
        subst hQ
        exact W.vret hx hb hr (fun t ht hW => ⟨⟨_, rfl, Or.inr (⟨hG_113, hG_117, x_114, h_115, x_24, h_25, (g.fcts [0, 11] rfl)⟩), q3_of g hK ht hW⟩, g.2.2.1.F ht⟩) g.2.2.1.2.2 dX2_readStatement_191
      by_cases e_118 : r_1 = 27
      · refine lv_topi (fun z_119 ez_119 => ?_)
        obtain rfl : z_119 = 27 := ez_119.trans e_118
        have kb_27 : bd 27 27 (27 : Int32) := ⟨by decide, by decide⟩
        have b_120 : bd 27 27 r_1 := eqX (eq_f e_118) (bdT r_1) kb_27 (by decide)
        refine lv_tableIn (off := 60) (tgt := 150) hx hb dX2_readStatement_90 (by decide) (by decide) rfl (by decide) ?_
        refine lv_aload_n hx hb dX2_readStatement_150 rfl (lv_at hl 1 rfl) ?_
        have kb_1201 : bd 1201 1201 (1201 : Int32) := ⟨by decide, by decide⟩
        have go_ := g
        refine g_callv (va_runV (As := []) (rest := []) ⟨hx, hb, hml, hown, hts⟩ (r_X2_readThrow l dC dI L kd tys fr_53 H.size g.2.2.2.1 a0_ ma0_ ka0_ q0_ mq0_ kq0_ q3_ mq3_ kq3_ 1201 kb_1201 x_24 h_25 T_ hG_54 (g.fcts [7, 10, 5, 6] rfl)) (cwV 0 hts (gV_ t_1375 t_1377 t_47 t_183 t_1378) rfl rfl rfl (by decide +kernel) ⟨(Nat.le_of_ble_eq_true rfl), (Nat.le_of_ble_eq_true rfl)⟩) (pre3V g hK ma0_ ka0_ (by decide) (q := (RX2, TX2, 16)) rfl) rfl rfl hl.1 rfl (lv_room (Nat.le_of_ble_eq_true rfl)) dX2_readStatement_151 ⟨(Nat.le_of_ble_eq_true rfl), (Nat.le_of_ble_eq_true rfl)⟩) g hK (by decide) (by decide) (fx' := [(7, 5, q3_, .ref a_51), (7, 4, q3_, .ref a_50), (7, 15, q3_, .int x_42), (6, 10, q5_, .int y_33), (8, 8, q0_, .int x_24), (2, 0, a0_, .ref q0_), (2, 1, a0_, .ref q1_), (2, 2, a0_, .ref q2_), (2, 3, a0_, .ref q3_), (2, 4, a0_, .ref q4_), (2, 5, a0_, .ref q5_), (0, 0, q2_, .ref q0_), (0, 1, q2_, .ref q1_), (5, 0, q1_, .ref q3_), (5, 1, q1_, .ref q9_), (2, 11, a0_, .int y0_)]) rfl (fun fr_121 H locs hp hMr_121 g => ?_)
        obtain ⟨hG_122, x_123, h_124, x_125, h_126, hF_127⟩ := hp
        have hG_128 := eOK.frame hMr_121 go_.2.2.2.1 mq2_ kq2_ (by decide) (by decide) hG_58
        have g := g.more hF_127
        refine lv_goto (tgt := 191) hx hb dX2_readStatement_154 (by decide) ?_
        subst hQ
        exact W.vret hx hb hr (fun t ht hW => ⟨⟨_, rfl, Or.inr (⟨hG_122, hG_128, x_123, h_124, x_24, h_25, (g.fcts [0, 6] rfl)⟩), q3_of g hK ht hW⟩, g.2.2.1.F ht⟩) g.2.2.1.2.2 dX2_readStatement_191
      refine lv_tableOut (tgt := 157) hx hb dX2_readStatement_90 (by have a0 : r_1.toInt ≠ 22 := fun h => e_59 (Int32.toInt_inj.mp (h.trans (by decide))); have a1 : r_1.toInt ≠ 23 := fun h => e_68 (Int32.toInt_inj.mp (h.trans (by decide))); have a2 : r_1.toInt ≠ 24 := fun h => e_75 (Int32.toInt_inj.mp (h.trans (by decide))); have a3 : r_1.toInt ≠ 25 := fun h => e_102 (Int32.toInt_inj.mp (h.trans (by decide))); have a4 : r_1.toInt ≠ 26 := fun h => e_109 (Int32.toInt_inj.mp (h.trans (by decide))); have a5 : r_1.toInt ≠ 27 := fun h => e_118 (Int32.toInt_inj.mp (h.trans (by decide))); omega) (by decide) ?_
      refine lv_iload_n hx hb dX2_readStatement_157 rfl (lv_at hl 0 rfl) ?_
      refine lv_bipush (v := 11) hx hb dX2_readStatement_158 (by decide) ?_
      have kb_11 : bd 11 11 (11 : Int32) := ⟨by decide, by decide⟩
      refine lv_icmp_ne (tgt := 173) hx hb dX2_readStatement_160 (by decide) (fun c_129 => ?_) (fun c_129 => ?_)
      · have fc_129 := neq_f c_129
        refine lv_aload_n hx hb dX2_readStatement_173 rfl (lv_at hl 1 rfl) ?_
        have kb_1201 : bd 1201 1201 (1201 : Int32) := ⟨by decide, by decide⟩
        have go_ := g
        refine g_calli (va_runV (As := []) (rest := []) ⟨hx, hb, hml, hown, hts⟩ (r_X2_findNamed l dC dI L kd tys fr_53 H.size g.2.2.2.1 a0_ ma0_ ka0_ q0_ mq0_ kq0_ q1_ mq1_ kq1_ q3_ mq3_ kq3_ q4_ mq4_ kq4_ q9_ mq9_ kq9_ 1201 kb_1201 x_24 h_25 (g.fcts [7, 8, 10, 11, 16, 5, 6] rfl)) (cwV 0 hts (gV_ t_1388 t_1390 t_49 t_183 t_1391) rfl rfl rfl (by decide +kernel) ⟨(Nat.le_of_ble_eq_true rfl), (Nat.le_of_ble_eq_true rfl)⟩) (pre3V g hK ma0_ ka0_ (by decide) (q := (RX2, TX2, 16)) rfl) rfl rfl hl.1 rfl (lv_room (Nat.le_of_ble_eq_true rfl)) dX2_readStatement_174 ⟨(Nat.le_of_ble_eq_true rfl), (Nat.le_of_ble_eq_true rfl)⟩) g hK (by decide) (by decide) (fx' := [(7, 6, q3_, .int x_55), (7, 5, q3_, .ref a_51), (7, 4, q3_, .ref a_50), (7, 15, q3_, .int x_42), (6, 10, q5_, .int y_33), (8, 8, q0_, .int x_24), (2, 0, a0_, .ref q0_), (2, 1, a0_, .ref q1_), (2, 2, a0_, .ref q2_), (2, 3, a0_, .ref q3_), (2, 4, a0_, .ref q4_), (2, 5, a0_, .ref q5_), (0, 0, q2_, .ref q0_), (0, 1, q2_, .ref q1_), (5, 0, q1_, .ref q3_), (5, 1, q1_, .ref q9_), (2, 11, a0_, .int y0_)]) rfl (fun r_130 fr_130 H locs hp hMr_130 g => ?_)
        obtain ⟨h_131, x_132, h_133, hF_134⟩ := hp
        have hG_135 := dOK.frame hMr_130 go_.2.2.2.1 mq3_ kq3_ (by decide) (by decide) hG_54
        have hG_136 := eOK.frame hMr_130 go_.2.2.2.1 mq2_ kq2_ (by decide) (by decide) hG_58
        have g := g.more hF_134
        have kb_0 : bd 0 0 (0 : Int32) := ⟨by decide, by decide⟩
        refine lv_if_eq (tgt := 187) hx hb dX2_readStatement_177 (by decide) (fun c_137 => ?_) (fun c_137 => ?_)
        · have fc_137 := eq_f c_137
          have b_138 : bd 0 0 r_130 := eqX fc_137 h_131 kb_0 (by decide)
          refine lv_aload_n hx hb dX2_readStatement_187 rfl (lv_at hl 1 rfl) ?_
          have go_ := g
          refine g_callv (va_runV (As := []) (rest := []) ⟨hx, hb, hml, hown, hts⟩ (r_X2_readAssignment l dC dI L kd tys fr_130 H.size g.2.2.2.1 a0_ ma0_ ka0_ q0_ mq0_ kq0_ q1_ mq1_ kq1_ q2_ mq2_ kq2_ q3_ mq3_ kq3_ q4_ mq4_ kq4_ q9_ mq9_ kq9_ x_132 h_133 x_24 h_25 T_ hG_135 hG_136 (g.fcts [7, 8, 9, 10, 11, 13, 14, 15, 16, 0, 6] rfl)) (cwV 0 hts (gV_ t_1397 t_1399 t_51 t_183 t_1400) rfl rfl rfl (by decide +kernel) ⟨(Nat.le_of_ble_eq_true rfl), (Nat.le_of_ble_eq_true rfl)⟩) (pre3V g hK ma0_ ka0_ (by decide) (q := (RX2, TX2, 16)) rfl) rfl rfl hl.1 rfl (lv_room (Nat.le_of_ble_eq_true rfl)) dX2_readStatement_188 ⟨(Nat.le_of_ble_eq_true rfl), (Nat.le_of_ble_eq_true rfl)⟩) g hK (by decide) (by decide) (fx' := [(7, 5, q3_, .ref a_51), (7, 4, q3_, .ref a_50), (7, 15, q3_, .int x_42), (6, 10, q5_, .int y_33), (8, 8, q0_, .int x_24), (2, 0, a0_, .ref q0_), (2, 1, a0_, .ref q1_), (2, 2, a0_, .ref q2_), (2, 3, a0_, .ref q3_), (2, 4, a0_, .ref q4_), (2, 5, a0_, .ref q5_), (0, 0, q2_, .ref q0_), (0, 1, q2_, .ref q1_), (5, 0, q1_, .ref q3_), (5, 1, q1_, .ref q9_), (2, 11, a0_, .int y0_)]) rfl (fun fr_139 H locs hp hMr_139 g => ?_)
          obtain ⟨hG_140, x_141, h_142, hF_143⟩ := hp
          have hG_144 := eOK.frame hMr_139 go_.2.2.2.1 mq2_ kq2_ (by decide) (by decide) hG_136
          have g := g.more hF_143
          subst hQ
          exact W.vret hx hb hr (fun t ht hW => ⟨⟨_, rfl, Or.inr (⟨hG_140, hG_144, x_141, h_142, x_24, h_25, (g.fcts [0, 11] rfl)⟩), q3_of g hK ht hW⟩, g.2.2.1.F ht⟩) g.2.2.1.2.2 dX2_readStatement_191
        · have fc_137 := neq_f c_137
          have b_145 : bd 1 1 r_130 := neX fc_137 h_131 kb_0 (by decide)
          refine lv_aload_n hx hb dX2_readStatement_180 rfl (lv_at hl 1 rfl) ?_
          have go_ := g
          refine g_callv (va_runV (As := []) (rest := []) ⟨hx, hb, hml, hown, hts⟩ (r_X2_readArguments_3 l dC dI L kd tys fr_130 H.size g.2.2.2.1 a0_ ma0_ ka0_ q0_ mq0_ kq0_ q1_ mq1_ kq1_ q2_ mq2_ kq2_ q3_ mq3_ kq3_ q9_ mq9_ kq9_ x_132 h_133 x_24 h_25 T_ hG_135 hG_136 (g.fcts [7, 8, 9, 10, 13, 14, 15, 16, 0, 6] rfl)) (cwV 0 hts (gV_ t_1393 t_1395 t_50 t_183 t_1396) rfl rfl rfl (by decide +kernel) ⟨(Nat.le_of_ble_eq_true rfl), (Nat.le_of_ble_eq_true rfl)⟩) (pre3V g hK ma0_ ka0_ (by decide) (q := (RX2, TX2, 16)) rfl) rfl rfl hl.1 rfl (lv_room (Nat.le_of_ble_eq_true rfl)) dX2_readStatement_181 ⟨(Nat.le_of_ble_eq_true rfl), (Nat.le_of_ble_eq_true rfl)⟩) g hK (by decide) (by decide) (fx' := [(7, 5, q3_, .ref a_51), (7, 4, q3_, .ref a_50), (7, 15, q3_, .int x_42), (6, 10, q5_, .int y_33), (8, 8, q0_, .int x_24), (2, 0, a0_, .ref q0_), (2, 1, a0_, .ref q1_), (2, 2, a0_, .ref q2_), (2, 3, a0_, .ref q3_), (2, 4, a0_, .ref q4_), (2, 5, a0_, .ref q5_), (0, 0, q2_, .ref q0_), (0, 1, q2_, .ref q1_), (5, 0, q1_, .ref q3_), (5, 1, q1_, .ref q9_), (2, 11, a0_, .int y0_)]) rfl (fun fr_146 H locs hp hMr_146 g => ?_)
          obtain ⟨hG_147, x_148, h_149, hF_150⟩ := hp
          have hG_151 := eOK.frame hMr_146 go_.2.2.2.1 mq2_ kq2_ (by decide) (by decide) hG_136
          have g := g.more hF_150
          refine lv_goto (tgt := 191) hx hb dX2_readStatement_184 (by decide) ?_
          subst hQ
          exact W.vret hx hb hr (fun t ht hW => ⟨⟨_, rfl, Or.inr (⟨hG_147, hG_151, x_148, h_149, x_24, h_25, (g.fcts [0, 5] rfl)⟩), q3_of g hK ht hW⟩, g.2.2.1.F ht⟩) g.2.2.1.2.2 dX2_readStatement_191
      · have fc_129 := eq_f c_129
        have b_152 : bd 11 11 r_1 := eqX fc_129 (bdT r_1) kb_11 (by decide)
        refine lv_aload_n hx hb dX2_readStatement_163 rfl (lv_at hl 1 rfl) ?_
        have kb_1201 : bd 1201 1201 (1201 : Int32) := ⟨by decide, by decide⟩
        have go_ := g
        refine g_calli (va_runV (As := []) (rest := []) ⟨hx, hb, hml, hown, hts⟩ (r_X2_findAbove l dC dI L kd tys fr_53 H.size g.2.2.2.1 a0_ ma0_ ka0_ q0_ mq0_ kq0_ q3_ mq3_ kq3_ q4_ mq4_ kq4_ 1201 kb_1201 x_24 h_25 (g.fcts [7, 10, 11, 5, 6] rfl)) (cwV 0 hts (gV_ t_1383 t_1385 t_48 t_183 t_1386) rfl rfl rfl (by decide +kernel) ⟨(Nat.le_of_ble_eq_true rfl), (Nat.le_of_ble_eq_true rfl)⟩) (pre3V g hK ma0_ ka0_ (by decide) (q := (RX2, TX2, 16)) rfl) rfl rfl hl.1 rfl (lv_room (Nat.le_of_ble_eq_true rfl)) dX2_readStatement_164 ⟨(Nat.le_of_ble_eq_true rfl), (Nat.le_of_ble_eq_true rfl)⟩) g hK (by decide) (by decide) (fx' := [(7, 6, q3_, .int x_55), (7, 5, q3_, .ref a_51), (7, 4, q3_, .ref a_50), (7, 15, q3_, .int x_42), (6, 10, q5_, .int y_33), (8, 8, q0_, .int x_24), (2, 0, a0_, .ref q0_), (2, 1, a0_, .ref q1_), (2, 2, a0_, .ref q2_), (2, 3, a0_, .ref q3_), (2, 4, a0_, .ref q4_), (2, 5, a0_, .ref q5_), (0, 0, q2_, .ref q0_), (0, 1, q2_, .ref q1_), (5, 0, q1_, .ref q3_), (5, 1, q1_, .ref q9_), (2, 11, a0_, .int y0_)]) rfl (fun r_153 fr_153 H locs hp hMr_153 g => ?_)
        obtain ⟨h_154, hF_155⟩ := hp
        have hG_156 := dOK.frame hMr_153 go_.2.2.2.1 mq3_ kq3_ (by decide) (by decide) hG_54
        have hG_157 := eOK.frame hMr_153 go_.2.2.2.1 mq2_ kq2_ (by decide) (by decide) hG_58
        obtain rfl : r_153 = 1 := h_154
        have g := g.more hF_155
        refine lv_if_eq (tgt := 187) hx hb dX2_readStatement_167 (by decide) (fun c_ => absurd c_ (by decide)) (fun c_ => ?_)
        refine lv_goto (tgt := 180) hx hb dX2_readStatement_170 (by decide) ?_
        refine lv_aload_n hx hb dX2_readStatement_180 rfl (lv_at hl 1 rfl) ?_
        have go_ := g
        refine g_callv (va_runV (As := []) (rest := []) ⟨hx, hb, hml, hown, hts⟩ (r_X2_readArguments_3 l dC dI L kd tys fr_153 H.size g.2.2.2.1 a0_ ma0_ ka0_ q0_ mq0_ kq0_ q1_ mq1_ kq1_ q2_ mq2_ kq2_ q3_ mq3_ kq3_ q9_ mq9_ kq9_ 1201 kb_1201 x_24 h_25 T_ hG_156 hG_157 (g.fcts [7, 8, 9, 10, 13, 14, 15, 16, 0, 6] rfl)) (cwV 0 hts (gV_ t_1393 t_1395 t_50 t_183 t_1396) rfl rfl rfl (by decide +kernel) ⟨(Nat.le_of_ble_eq_true rfl), (Nat.le_of_ble_eq_true rfl)⟩) (pre3V g hK ma0_ ka0_ (by decide) (q := (RX2, TX2, 16)) rfl) rfl rfl hl.1 rfl (lv_room (Nat.le_of_ble_eq_true rfl)) dX2_readStatement_181 ⟨(Nat.le_of_ble_eq_true rfl), (Nat.le_of_ble_eq_true rfl)⟩) g hK (by decide) (by decide) (fx' := [(7, 5, q3_, .ref a_51), (7, 4, q3_, .ref a_50), (7, 15, q3_, .int x_42), (6, 10, q5_, .int y_33), (8, 8, q0_, .int x_24), (2, 0, a0_, .ref q0_), (2, 1, a0_, .ref q1_), (2, 2, a0_, .ref q2_), (2, 3, a0_, .ref q3_), (2, 4, a0_, .ref q4_), (2, 5, a0_, .ref q5_), (0, 0, q2_, .ref q0_), (0, 1, q2_, .ref q1_), (5, 0, q1_, .ref q3_), (5, 1, q1_, .ref q9_), (2, 11, a0_, .int y0_)]) rfl (fun fr_158 H locs hp hMr_158 g => ?_)
        obtain ⟨hG_159, x_160, h_161, hF_162⟩ := hp
        have hG_163 := eOK.frame hMr_158 go_.2.2.2.1 mq2_ kq2_ (by decide) (by decide) hG_157
        have g := g.more hF_162
        refine lv_goto (tgt := 191) hx hb dX2_readStatement_184 (by decide) ?_
        subst hQ
        exact W.vret hx hb hr (fun t ht hW => ⟨⟨_, rfl, Or.inr (⟨hG_159, hG_163, x_160, h_161, x_24, h_25, (g.fcts [0, 5] rfl)⟩), q3_of g hK ht hW⟩, g.2.2.1.F ht⟩) g.2.2.1.2.2 dX2_readStatement_191
    · have hG_164 := bJx.frame hMr_8 go_.2.2.2.1 ma0_ ka0_ (by decide) (by decide) hG_2
      have hG_165 := dOK.frame hMr_8 go_.2.2.2.1 mq3_ kq3_ (by decide) (by decide) hG_3
      have hG_166 := cOK.frame hMr_8 go_.2.2.2.1 mq3_ kq3_ (by decide) (by decide) hG_4
      have hG_167 := jS.frame hMr_8 go_.2.2.2.1 mq3_ kq3_ (by decide) (by decide) hG_5
      have hG_168 := eOK.frame hMr_8 go_.2.2.2.1 mq2_ kq2_ (by decide) (by decide) hG_6
      obtain rfl : r_8 = 1 := h_10
      have b_169 : bd 3 27 r_1 := eqX rfl (bdT r_1) h_11 (by decide)
      refine lv_if_ne (tgt := 44) hx hb dX2_readStatement_23 (by decide) (fun c_ => ?_) (fun c_ => absurd c_ (by decide))
      refine lv_aload_n hx hb dX2_readStatement_44 rfl (lv_at hl 1 rfl) ?_
      refine g_getk (C := RX2) (T := TX2) (N := 16) hx hb hts (mc_ inX2) hown hK g rfl 5 (by decide) rfl (hts _ (List.mem_cons_of_mem _ t_421)) (fun _ h9 => h9) 5 rfl dX2_readStatement_45 ?_
      refine g_geti (C := RX6) (T := TX6) (N := 13) hx hb hts (mc_ inX6) hown hK g mq5_ kq5_ (by decide) rfl 10 (by decide) rfl (hts _ (List.mem_cons_of_mem _ t_588)) (fun _ h9 => h9) rfl dX2_readStatement_48 (fun x_170 bx_170 g => ?_)
      refine lv_bipush (v := 40) hx hb dX2_readStatement_51 (by decide) ?_
      have kb_40 : bd 40 40 (40 : Int32) := ⟨by decide, by decide⟩
      refine lv_icmp_lt (tgt := 60) hx hb dX2_readStatement_53 (by decide) (fun c_171 => ?_) (fun c_171 => ?_)
      · have fc_171 := lt_f c_171
        have b_172 : bd (-2147483648) 39 x_170 := ltL fc_171 (bdT x_170) kb_40 (by decide)
        refine lv_aload_n hx hb dX2_readStatement_60 rfl (lv_at hl 1 rfl) ?_
        refine g_getk (C := RX2) (T := TX2) (N := 16) hx hb hts (mc_ inX2) hown hK g rfl 5 (by decide) rfl (hts _ (List.mem_cons_of_mem _ t_421)) (fun _ h9 => h9) 6 rfl dX2_readStatement_61 ?_
        refine lv_dup hx hb dX2_readStatement_64 rfl ?_
        refine g_getk (C := RX6) (T := TX6) (N := 13) hx hb hts (mc_ inX6) hown hK g rfl 10 (by decide) rfl (hts _ (List.mem_cons_of_mem _ t_588)) (fun _ h9 => h9) 0 rfl dX2_readStatement_65 ?_
        refine lv_iconst (v := 1) hx hb dX2_readStatement_68 (by decide) ?_
        have kb_1 : bd 1 1 (1 : Int32) := ⟨by decide, by decide⟩
        refine lv_iadd hx hb dX2_readStatement_69 ?_
        refine lv_topi (fun y_173 ey_173 => ?_)
        have ty_173 := add_bd ey_173 b_172 kb_1 (by decide)
        have b_174 : bd (-2147483647) 40 y_173 := add_rg ty_173 b_172 kb_1 (by decide)
        have go_ := g
        refine g_put (C := RX6) (T := TX6) (N := 13) hx hb hts (mc_ inX6) tyX6 tyX6_ok nmX6 hown hK g mq5_ kq5_ (by decide) rfl 10 (by decide) (hts _ (List.mem_cons_of_mem _ t_588)) (fun _ h9 => h9) rfl rfl (okV_i (bd_sub b_174 (by decide))) rfl rfl (by decide) (Or.inr (Or.inl (by decide))) (fx' := [(2, 0, a0_, .ref q0_), (2, 1, a0_, .ref q1_), (2, 2, a0_, .ref q2_), (2, 3, a0_, .ref q3_), (2, 4, a0_, .ref q4_), (2, 5, a0_, .ref q5_), (0, 0, q2_, .ref q0_), (0, 1, q2_, .ref q1_), (5, 0, q1_, .ref q3_), (5, 1, q1_, .ref q9_), (2, 11, a0_, .int y0_), (8, 8, q0_, .int y1_)]) rfl dX2_readStatement_70 (fun f H locs hM_175 g => ?_)
        have hG_176 := bJx.frame hM_175 go_.2.2.2.1 ma0_ ka0_ (by decide) (by decide) hG_164
        have hG_177 := dOK.frame hM_175 go_.2.2.2.1 mq3_ kq3_ (by decide) (by decide) hG_165
        have hG_178 := cOK.frame hM_175 go_.2.2.2.1 mq3_ kq3_ (by decide) (by decide) hG_166
        have hG_179 := jS.frame hM_175 go_.2.2.2.1 mq3_ kq3_ (by decide) (by decide) hG_167
        have hG_180 := eOK.frame hM_175 go_.2.2.2.1 mq2_ kq2_ (by decide) (by decide) hG_168
        refine lv_aload_n hx hb dX2_readStatement_73 rfl (lv_at hl 1 rfl) ?_
        refine g_getk (C := RX2) (T := TX2) (N := 16) hx hb hts (mc_ inX2) hown hK g rfl 3 (by decide) rfl (hts _ (List.mem_cons_of_mem _ t_419)) (fun _ h9 => h9) 4 rfl dX2_readStatement_74 ?_
        refine lv_bipush (v := 12) hx hb dX2_readStatement_77 (by decide) ?_
        refine lv_aload_n hx hb dX2_readStatement_79 rfl (lv_at hl 1 rfl) ?_
        refine g_getk (C := RX2) (T := TX2) (N := 16) hx hb hts (mc_ inX2) hown hK g rfl 3 (by decide) rfl (hts _ (List.mem_cons_of_mem _ t_419)) (fun _ h9 => h9) 4 rfl dX2_readStatement_80 ?_
        have go_ := g
        refine g_calli (va_runV (As := []) (rest := [.int 12, .ref q3_]) ⟨hx, hb, hml, hown, hts⟩ (r_X7_addStatement l dC dI L kd tys f H.size g.2.2.2.1 q3_ mq3_ kq3_) (cwV 0 hts (gV_ t_1359 t_1360 t_1361 t_191 t_1362) rfl rfl rfl (by decide +kernel) ⟨(Nat.le_of_ble_eq_true rfl), (Nat.le_of_ble_eq_true rfl)⟩) (pre3V g hK mq3_ kq3_ (by decide) (q := (RX7, TX7, 19)) rfl) rfl rfl hl.1 rfl (lv_room (Nat.le_of_ble_eq_true rfl)) dX2_readStatement_83 ⟨(Nat.le_of_ble_eq_true rfl), (Nat.le_of_ble_eq_true rfl)⟩) g hK (by decide) (by decide) (fx' := [(6, 10, q5_, .int y_173), (2, 0, a0_, .ref q0_), (2, 1, a0_, .ref q1_), (2, 2, a0_, .ref q2_), (2, 3, a0_, .ref q3_), (2, 4, a0_, .ref q4_), (2, 5, a0_, .ref q5_), (0, 0, q2_, .ref q0_), (0, 1, q2_, .ref q1_), (5, 0, q1_, .ref q3_), (5, 1, q1_, .ref q9_), (2, 11, a0_, .int y0_), (8, 8, q0_, .int y1_)]) rfl (fun r_181 fr_181 H locs hp hMr_181 g => ?_)
        obtain ⟨h_182, x_183, h_184, hF_185⟩ := hp
        have hG_186 := bJx.frame hMr_181 go_.2.2.2.1 ma0_ ka0_ (by decide) (by decide) hG_176
        have hG_187 := dOK.frame hMr_181 go_.2.2.2.1 mq3_ kq3_ (by decide) (by decide) hG_177
        have hG_188 := cOK.frame hMr_181 go_.2.2.2.1 mq3_ kq3_ (by decide) (by decide) hG_178
        have hG_189 := jS.frame hMr_181 go_.2.2.2.1 mq3_ kq3_ (by decide) (by decide) hG_179
        have hG_190 := eOK.frame hMr_181 go_.2.2.2.1 mq2_ kq2_ (by decide) (by decide) hG_180
        have g := g.more hF_185
        obtain ⟨a_191, ma_191, ka_191, g⟩ := g_factr g mq3_ kq3_ (by decide) 4 rfl
        obtain ⟨a_192, ma_192, ka_192, g⟩ := g_factr g mq3_ kq3_ (by decide) 5 rfl
        obtain ⟨x_193, bx_193, g⟩ := g_facti g mq3_ kq3_ (by decide) 6 rfl
        have kb_12 : bd 12 12 (12 : Int32) := ⟨by decide, by decide⟩
        have go_ := g
        refine g_callv (va_runV (As := [.int 12, .int r_181]) (rest := []) ⟨hx, hb, hml, hown, hts⟩ (r_X7_emitN l dC dI L kd tys fr_181 H.size g.2.2.2.1 q3_ mq3_ kq3_ a_191 ma_191 ka_191 a_192 ma_192 ka_192 x_193 bx_193 T_ hG_187 (12 : Int32) r_181 (fun j9 => jOK fr_181 q3_ j9) hG_188 (fun _ h9 => h9) ⟨(fun h9 => ⟨(by have h9_0 := b_169; unfold bd at h9_0; have h9_1 := h_182; unfold bd at h9_1; have h9_2 := b_172; unfold bd at h9_2; have h9_3 := h_184; unfold bd at h9_3; have h9_4 := bx_193; unfold bd at h9_4; have h9_5 := by0_; unfold bd at h9_5; have h9_6 := by1_; unfold bd at h9_6; have h9_7 := b_174; unfold bd at h9_7; have h8_0 := kb_1; unfold bd at h8_0; have h8_1 := kb_12; unfold bd at h8_1; have h8_2 := kb_125; unfold bd at h8_2; have h8_3 := kb_40; unfold bd at h8_3; omega), (by have h9_0 := b_169; unfold bd at h9_0; have h9_1 := h_182; unfold bd at h9_1; have h9_2 := b_172; unfold bd at h9_2; have h9_3 := h_184; unfold bd at h9_3; have h9_4 := bx_193; unfold bd at h9_4; have h9_5 := by0_; unfold bd at h9_5; have h9_6 := by1_; unfold bd at h9_6; have h9_7 := b_174; unfold bd at h9_7; have h8_0 := kb_1; unfold bd at h8_0; have h8_1 := kb_12; unfold bd at h8_1; have h8_2 := kb_125; unfold bd at h8_2; have h8_3 := kb_40; unfold bd at h8_3; omega)⟩), (fun h9 => ⟨(by have h9_0 := b_169; unfold bd at h9_0; have h9_1 := h_182; unfold bd at h9_1; have h9_2 := b_172; unfold bd at h9_2; have h9_3 := h_184; unfold bd at h9_3; have h9_4 := bx_193; unfold bd at h9_4; have h9_5 := by0_; unfold bd at h9_5; have h9_6 := by1_; unfold bd at h9_6; have h9_7 := b_174; unfold bd at h9_7; have h8_0 := kb_1; unfold bd at h8_0; have h8_1 := kb_12; unfold bd at h8_1; have h8_2 := kb_125; unfold bd at h8_2; have h8_3 := kb_40; unfold bd at h8_3; omega), (by have h9_0 := b_169; unfold bd at h9_0; have h9_1 := h_182; unfold bd at h9_1; have h9_2 := b_172; unfold bd at h9_2; have h9_3 := h_184; unfold bd at h9_3; have h9_4 := bx_193; unfold bd at h9_4; have h9_5 := by0_; unfold bd at h9_5; have h9_6 := by1_; unfold bd at h9_6; have h9_7 := b_174; unfold bd at h9_7; have h8_0 := kb_1; unfold bd at h8_0; have h8_1 := kb_12; unfold bd at h8_1; have h8_2 := kb_125; unfold bd at h8_2; have h8_3 := kb_40; unfold bd at h8_3; omega)⟩), (fun h9 => ⟨(by have h9_0 := b_169; unfold bd at h9_0; have h9_1 := h_182; unfold bd at h9_1; have h9_2 := b_172; unfold bd at h9_2; have h9_3 := h_184; unfold bd at h9_3; have h9_4 := bx_193; unfold bd at h9_4; have h9_5 := by0_; unfold bd at h9_5; have h9_6 := by1_; unfold bd at h9_6; have h9_7 := b_174; unfold bd at h9_7; have h8_0 := kb_1; unfold bd at h8_0; have h8_1 := kb_12; unfold bd at h8_1; have h8_2 := kb_125; unfold bd at h8_2; have h8_3 := kb_40; unfold bd at h8_3; omega), (by have h9_0 := b_169; unfold bd at h9_0; have h9_1 := h_182; unfold bd at h9_1; have h9_2 := b_172; unfold bd at h9_2; have h9_3 := h_184; unfold bd at h9_3; have h9_4 := bx_193; unfold bd at h9_4; have h9_5 := by0_; unfold bd at h9_5; have h9_6 := by1_; unfold bd at h9_6; have h9_7 := b_174; unfold bd at h9_7; have h8_0 := kb_1; unfold bd at h8_0; have h8_1 := kb_12; unfold bd at h8_1; have h8_2 := kb_125; unfold bd at h8_2; have h8_3 := kb_40; unfold bd at h8_3; omega)⟩)⟩ (g.fcts [2, 1, 0] rfl)) (cwV 2 hts (gV_ t_1301 t_1204 t_1205 t_191 t_1206) rfl rfl rfl (by decide +kernel) ⟨(Nat.le_of_ble_eq_true rfl), (Nat.le_of_ble_eq_true rfl)⟩) (pre3V g hK mq3_ kq3_ (by decide) (q := (RX7, TX7, 19)) rfl) rfl rfl hl.1 rfl (lv_room (Nat.le_of_ble_eq_true rfl)) dX2_readStatement_86 ⟨(Nat.le_of_ble_eq_true rfl), (Nat.le_of_ble_eq_true rfl)⟩) g hK (by decide) (by decide) (fx' := [(7, 5, q3_, .ref a_192), (7, 4, q3_, .ref a_191), (7, 15, q3_, .int x_183), (6, 10, q5_, .int y_173), (2, 0, a0_, .ref q0_), (2, 1, a0_, .ref q1_), (2, 2, a0_, .ref q2_), (2, 3, a0_, .ref q3_), (2, 4, a0_, .ref q4_), (2, 5, a0_, .ref q5_), (0, 0, q2_, .ref q0_), (0, 1, q2_, .ref q1_), (5, 0, q1_, .ref q3_), (5, 1, q1_, .ref q9_), (2, 11, a0_, .int y0_), (8, 8, q0_, .int y1_)]) rfl (fun fr_194 H locs hp hMr_194 g => ?_)
        obtain ⟨hG_195, hG_196, hG_197, hx_198, x_199, h_200, hF_201⟩ := hp
        have hG_202 := eOK.frame hMr_194 go_.2.2.2.1 mq2_ kq2_ (by decide) (by decide) hG_190
        have g := g.more hF_201
        have hs_203 := jS.mv hG_189 hG_197
        have hG_204 := bJx.mv hG_186 hMr_194 go_.2.2.2.1 ma0_ ka0_ (by decide) (by decide) (((hMr_194 a0_ ma0_).1 3 (by rw [ka0_]; decide) (by rw [ka0_]; decide)).symm.trans (fx_at g (i := 8) rfl).2.2.2) hG_197
        refine lv_iload_n hx hb dX2_readStatement_89 rfl (lv_at hl 0 rfl) ?_
        by_cases e_205 : r_1 = 22
        · refine lv_topi (fun z_206 ez_206 => ?_)
          obtain rfl : z_206 = 22 := ez_206.trans e_205
          have kb_22 : bd 22 22 (22 : Int32) := ⟨by decide, by decide⟩
          have b_207 : bd 22 22 r_1 := eqX (eq_f e_205) b_169 kb_22 (by decide)
          refine lv_tableIn (off := 38) (tgt := 128) hx hb dX2_readStatement_90 (by decide) (by decide) rfl (by decide) ?_
          refine lv_aload_n hx hb dX2_readStatement_128 rfl (lv_at hl 1 rfl) ?_
          have go_ := g
          refine g_callv (va_runV (As := []) (rest := []) ⟨hx, hb, hml, hown, hts⟩ (r_X2_readLet_2 l dC dI L kd tys fr_194 H.size g.2.2.2.1 a0_ ma0_ ka0_ q0_ mq0_ kq0_ q1_ mq1_ kq1_ q2_ mq2_ kq2_ q3_ mq3_ kq3_ q9_ mq9_ kq9_ y1_ by1_ T_ (fun j9 => jOK fr_194 q3_ j9) hG_195 hG_196 (fun _ h9 => h9) hG_202 (g.fcts [5, 6, 7, 8, 11, 12, 13, 14, 16] rfl)) (cwV 0 hts (gV_ t_1363 t_1365 t_44 t_183 t_1366) rfl rfl rfl (by decide +kernel) ⟨(Nat.le_of_ble_eq_true rfl), (Nat.le_of_ble_eq_true rfl)⟩) (pre3V g hK ma0_ ka0_ (by decide) (q := (RX2, TX2, 16)) rfl) rfl rfl hl.1 rfl (lv_room (Nat.le_of_ble_eq_true rfl)) dX2_readStatement_129 ⟨(Nat.le_of_ble_eq_true rfl), (Nat.le_of_ble_eq_true rfl)⟩) g hK (by decide) (by decide) (fx' := [(7, 5, q3_, .ref a_192), (7, 4, q3_, .ref a_191), (7, 15, q3_, .int x_183), (6, 10, q5_, .int y_173), (2, 0, a0_, .ref q0_), (2, 1, a0_, .ref q1_), (2, 2, a0_, .ref q2_), (2, 3, a0_, .ref q3_), (2, 4, a0_, .ref q4_), (2, 5, a0_, .ref q5_), (0, 0, q2_, .ref q0_), (0, 1, q2_, .ref q1_), (5, 0, q1_, .ref q3_), (5, 1, q1_, .ref q9_), (2, 11, a0_, .int y0_)]) rfl (fun fr_208 H locs hp hMr_208 g => ?_)
          rcases hp with ⟨hG_209, hG_210, hG_211, hG_212, x_213, h_214, x_215, h_216, hF_217⟩ | ⟨hG_218, hG_219, x_220, h_221, x_222, h_223, hF_224⟩
          · have g := g.more hF_217
            have hs_225 := jS.mv hs_203 hG_211
            have hG_226 := bJx.mv hG_204 hMr_208 go_.2.2.2.1 ma0_ ka0_ (by decide) (by decide) (((hMr_208 a0_ ma0_).1 3 (by rw [ka0_]; decide) (by rw [ka0_]; decide)).symm.trans (fx_at g (i := 11) rfl).2.2.2) hG_211
            refine lv_goto (tgt := 191) hx hb dX2_readStatement_132 (by decide) ?_
            subst hQ
            exact W.vret hx hb hr (fun t ht hW => ⟨⟨_, rfl, Or.inl ⟨hG_226, hG_209, hG_210, hs_225, hG_212, x_213, h_214, (g.fcts [0, 1] rfl)⟩, q3_of g hK ht hW⟩, g.2.2.1.F ht⟩) g.2.2.1.2.2 dX2_readStatement_191
          · have g := g.more hF_224
            refine lv_goto (tgt := 191) hx hb dX2_readStatement_132 (by decide) ?_
            subst hQ
            exact W.vret hx hb hr (fun t ht hW => ⟨⟨_, rfl, Or.inr (⟨hG_218, hG_219, x_220, h_221, x_222, h_223, (g.fcts [0, 1] rfl)⟩), q3_of g hK ht hW⟩, g.2.2.1.F ht⟩) g.2.2.1.2.2 dX2_readStatement_191
        by_cases e_227 : r_1 = 23
        · refine lv_topi (fun z_228 ez_228 => ?_)
          obtain rfl : z_228 = 23 := ez_228.trans e_227
          have kb_23 : bd 23 23 (23 : Int32) := ⟨by decide, by decide⟩
          have b_229 : bd 23 23 r_1 := eqX (eq_f e_227) b_169 kb_23 (by decide)
          refine lv_tableIn (off := 45) (tgt := 135) hx hb dX2_readStatement_90 (by decide) (by decide) rfl (by decide) ?_
          refine lv_aload_n hx hb dX2_readStatement_135 rfl (lv_at hl 1 rfl) ?_
          refine lv_iload_n hx hb dX2_readStatement_136 rfl (lv_at hl 0 rfl) ?_
          have go_ := g
          refine g_callv (va_runV (As := [.int r_1]) (rest := []) ⟨hx, hb, hml, hown, hts⟩ (r_X2_readTest_2 l dC dI L kd tys fr_194 H.size g.2.2.2.1 a0_ ma0_ ka0_ r_1 q0_ mq0_ kq0_ q1_ mq1_ kq1_ q2_ mq2_ kq2_ q3_ mq3_ kq3_ q9_ mq9_ kq9_ y1_ by1_ T_ (fun j9 => jOK fr_194 q3_ j9) hG_204 hG_196 hG_195 (fun _ h9 => h9) hG_202 (g.fcts [5, 6, 7, 8, 11, 12, 13, 14, 16] rfl)) (cwV 1 hts (gV_ t_1367 t_1369 t_45 t_183 t_1370) rfl rfl rfl (by decide +kernel) ⟨(Nat.le_of_ble_eq_true rfl), (Nat.le_of_ble_eq_true rfl)⟩) (pre3V g hK ma0_ ka0_ (by decide) (q := (RX2, TX2, 16)) rfl) rfl rfl hl.1 rfl (lv_room (Nat.le_of_ble_eq_true rfl)) dX2_readStatement_137 ⟨(Nat.le_of_ble_eq_true rfl), (Nat.le_of_ble_eq_true rfl)⟩) g hK (by decide) (by decide) (fx' := [(7, 5, q3_, .ref a_192), (7, 4, q3_, .ref a_191), (7, 15, q3_, .int x_183), (6, 10, q5_, .int y_173), (2, 0, a0_, .ref q0_), (2, 1, a0_, .ref q1_), (2, 2, a0_, .ref q2_), (2, 3, a0_, .ref q3_), (2, 4, a0_, .ref q4_), (2, 5, a0_, .ref q5_), (0, 0, q2_, .ref q0_), (0, 1, q2_, .ref q1_), (5, 0, q1_, .ref q3_), (5, 1, q1_, .ref q9_)]) rfl (fun fr_230 H locs hp hMr_230 g => ?_)
          rcases hp with ⟨hG_231, hG_232, hG_233, hG_234, hG_235, x_236, h_237, x_238, h_239, hF_240⟩ | ⟨hG_241, hG_242, x_243, h_244, hF_245⟩
          · have g := g.more hF_240
            have hs_246 := jS.mv hs_203 hG_234
            refine lv_goto (tgt := 191) hx hb dX2_readStatement_140 (by decide) ?_
            subst hQ
            exact W.vret hx hb hr (fun t ht hW => ⟨⟨_, rfl, Or.inl ⟨hG_231, hG_233, hG_232, hs_246, hG_235, x_236, h_237, (g.fcts [0, 2] rfl)⟩, q3_of g hK ht hW⟩, g.2.2.1.F ht⟩) g.2.2.1.2.2 dX2_readStatement_191
          · have g := g.more hF_245
            refine lv_goto (tgt := 191) hx hb dX2_readStatement_140 (by decide) ?_
            have kb_1201 : bd 1201 1201 (1201 : Int32) := ⟨by decide, by decide⟩
            subst hQ
            exact W.vret hx hb hr (fun t ht hW => ⟨⟨_, rfl, Or.inr (⟨hG_241, hG_242, 1201, kb_1201, x_243, h_244, (g.fcts [0, 1] rfl)⟩), q3_of g hK ht hW⟩, g.2.2.1.F ht⟩) g.2.2.1.2.2 dX2_readStatement_191
        by_cases e_247 : r_1 = 24
        · refine lv_topi (fun z_248 ez_248 => ?_)
          obtain rfl : z_248 = 24 := ez_248.trans e_247
          have kb_24 : bd 24 24 (24 : Int32) := ⟨by decide, by decide⟩
          have b_249 : bd 24 24 r_1 := eqX (eq_f e_247) b_169 kb_24 (by decide)
          refine lv_tableIn (off := 67) (tgt := 157) hx hb dX2_readStatement_90 (by decide) (by decide) rfl (by decide) ?_
          refine lv_iload_n hx hb dX2_readStatement_157 rfl (lv_at hl 0 rfl) ?_
          refine lv_bipush (v := 11) hx hb dX2_readStatement_158 (by decide) ?_
          have kb_11 : bd 11 11 (11 : Int32) := ⟨by decide, by decide⟩
          refine lv_icmp_ne (tgt := 173) hx hb dX2_readStatement_160 (by decide) (fun c_250 => ?_) (fun c_250 => ?_)
          · have fc_250 := neq_f c_250
            refine lv_aload_n hx hb dX2_readStatement_173 rfl (lv_at hl 1 rfl) ?_
            have go_ := g
            refine g_calli (va_runV (As := []) (rest := []) ⟨hx, hb, hml, hown, hts⟩ (r_X2_findNamed_2 l dC dI L kd tys fr_194 H.size g.2.2.2.1 a0_ ma0_ ka0_ q0_ mq0_ kq0_ q1_ mq1_ kq1_ q3_ mq3_ kq3_ q4_ mq4_ kq4_ q9_ mq9_ kq9_ y1_ by1_ (g.fcts [5, 6, 8, 9, 14, 16] rfl)) (cwV 0 hts (gV_ t_1388 t_1390 t_49 t_183 t_1391) rfl rfl rfl (by decide +kernel) ⟨(Nat.le_of_ble_eq_true rfl), (Nat.le_of_ble_eq_true rfl)⟩) (pre3V g hK ma0_ ka0_ (by decide) (q := (RX2, TX2, 16)) rfl) rfl rfl hl.1 rfl (lv_room (Nat.le_of_ble_eq_true rfl)) dX2_readStatement_174 ⟨(Nat.le_of_ble_eq_true rfl), (Nat.le_of_ble_eq_true rfl)⟩) g hK (by decide) (by decide) (fx' := [(7, 6, q3_, .int x_199), (7, 5, q3_, .ref a_192), (7, 4, q3_, .ref a_191), (7, 15, q3_, .int x_183), (6, 10, q5_, .int y_173), (2, 0, a0_, .ref q0_), (2, 1, a0_, .ref q1_), (2, 2, a0_, .ref q2_), (2, 3, a0_, .ref q3_), (2, 4, a0_, .ref q4_), (2, 5, a0_, .ref q5_), (0, 0, q2_, .ref q0_), (0, 1, q2_, .ref q1_), (5, 0, q1_, .ref q3_), (5, 1, q1_, .ref q9_), (2, 11, a0_, .int y0_)]) rfl (fun r_251 fr_251 H locs hp hMr_251 g => ?_)
            rcases hp with ⟨h_252, x_253, h_254, x_255, h_256, hF_257⟩ | ⟨h_258, x_259, h_260, hF_261⟩
            · have hG_262 := dOK.frame hMr_251 go_.2.2.2.1 mq3_ kq3_ (by decide) (by decide) hG_195
              have hG_263 := cOK.frame hMr_251 go_.2.2.2.1 mq3_ kq3_ (by decide) (by decide) hG_196
              have hG_264 := jS.frame hMr_251 go_.2.2.2.1 mq3_ kq3_ (by decide) (by decide) hs_203
              have hG_265 := eOK.frame hMr_251 go_.2.2.2.1 mq2_ kq2_ (by decide) (by decide) hG_202
              have hG_266 := bJx.frame hMr_251 go_.2.2.2.1 ma0_ ka0_ (by decide) (by decide) hG_204
              have g := g.more hF_257
              have kb_0 : bd 0 0 (0 : Int32) := ⟨by decide, by decide⟩
              refine lv_if_eq (tgt := 187) hx hb dX2_readStatement_177 (by decide) (fun c_267 => ?_) (fun c_267 => ?_)
              · have fc_267 := eq_f c_267
                have b_268 : bd 0 0 r_251 := eqX fc_267 h_252 kb_0 (by decide)
                refine lv_aload_n hx hb dX2_readStatement_187 rfl (lv_at hl 1 rfl) ?_
                have go_ := g
                refine g_callv (va_runV (As := []) (rest := []) ⟨hx, hb, hml, hown, hts⟩ (r_X2_readAssignment_2 l dC dI L kd tys fr_251 H.size g.2.2.2.1 a0_ ma0_ ka0_ q0_ mq0_ kq0_ q1_ mq1_ kq1_ q2_ mq2_ kq2_ q3_ mq3_ kq3_ q4_ mq4_ kq4_ q9_ mq9_ kq9_ y1_ by1_ T_ (fun j9 => jOK fr_251 q3_ j9) hG_263 hG_262 (fun _ h9 => h9) hG_265 (g.fcts [8, 9, 10, 11, 12, 14, 15, 16, 17, 2] rfl)) (cwV 0 hts (gV_ t_1397 t_1399 t_51 t_183 t_1400) rfl rfl rfl (by decide +kernel) ⟨(Nat.le_of_ble_eq_true rfl), (Nat.le_of_ble_eq_true rfl)⟩) (pre3V g hK ma0_ ka0_ (by decide) (q := (RX2, TX2, 16)) rfl) rfl rfl hl.1 rfl (lv_room (Nat.le_of_ble_eq_true rfl)) dX2_readStatement_188 ⟨(Nat.le_of_ble_eq_true rfl), (Nat.le_of_ble_eq_true rfl)⟩) g hK (by decide) (by decide) (fx' := [(2, 15, a0_, .int x_253), (7, 5, q3_, .ref a_192), (7, 4, q3_, .ref a_191), (7, 15, q3_, .int x_183), (6, 10, q5_, .int y_173), (2, 0, a0_, .ref q0_), (2, 1, a0_, .ref q1_), (2, 2, a0_, .ref q2_), (2, 3, a0_, .ref q3_), (2, 4, a0_, .ref q4_), (2, 5, a0_, .ref q5_), (0, 0, q2_, .ref q0_), (0, 1, q2_, .ref q1_), (5, 0, q1_, .ref q3_), (5, 1, q1_, .ref q9_), (2, 11, a0_, .int y0_)]) rfl (fun fr_269 H locs hp hMr_269 g => ?_)
                rcases hp with ⟨hG_270, hG_271, hG_272, hG_273, x_274, h_275, hF_276⟩ | ⟨hG_277, hG_278, x_279, h_280, x_281, h_282, hF_283⟩
                · have g := g.more hF_276
                  have hs_284 := jS.mv hG_264 hG_272
                  have hG_285 := bJx.mv hG_266 hMr_269 go_.2.2.2.1 ma0_ ka0_ (by decide) (by decide) (((hMr_269 a0_ ma0_).1 3 (by rw [ka0_]; decide) (by rw [ka0_]; decide)).symm.trans (fx_at g (i := 11) rfl).2.2.2) hG_272
                  subst hQ
                  exact W.vret hx hb hr (fun t ht hW => ⟨⟨_, rfl, Or.inl ⟨hG_285, hG_271, hG_270, hs_284, hG_273, x_274, h_275, (g.fcts [0, 1] rfl)⟩, q3_of g hK ht hW⟩, g.2.2.1.F ht⟩) g.2.2.1.2.2 dX2_readStatement_191
                · have g := g.more hF_283
                  subst hQ
                  exact W.vret hx hb hr (fun t ht hW => ⟨⟨_, rfl, Or.inr (⟨hG_277, hG_278, x_279, h_280, x_281, h_282, (g.fcts [0, 1] rfl)⟩), q3_of g hK ht hW⟩, g.2.2.1.F ht⟩) g.2.2.1.2.2 dX2_readStatement_191
              · have fc_267 := neq_f c_267
                have b_286 : bd 1 1 r_251 := neX fc_267 h_252 kb_0 (by decide)
                refine lv_aload_n hx hb dX2_readStatement_180 rfl (lv_at hl 1 rfl) ?_
                have go_ := g
                refine g_callv (va_runV (As := []) (rest := []) ⟨hx, hb, hml, hown, hts⟩ (r_X2_readArguments_2 l dC dI L kd tys fr_251 H.size g.2.2.2.1 a0_ ma0_ ka0_ q0_ mq0_ kq0_ q1_ mq1_ kq1_ q2_ mq2_ kq2_ q3_ mq3_ kq3_ q9_ mq9_ kq9_ y1_ by1_ T_ (fun j9 => jOK fr_251 q3_ j9) hG_263 hG_262 (fun _ h9 => h9) hG_265 (g.fcts [8, 9, 10, 11, 14, 15, 16, 17, 2] rfl)) (cwV 0 hts (gV_ t_1393 t_1395 t_50 t_183 t_1396) rfl rfl rfl (by decide +kernel) ⟨(Nat.le_of_ble_eq_true rfl), (Nat.le_of_ble_eq_true rfl)⟩) (pre3V g hK ma0_ ka0_ (by decide) (q := (RX2, TX2, 16)) rfl) rfl rfl hl.1 rfl (lv_room (Nat.le_of_ble_eq_true rfl)) dX2_readStatement_181 ⟨(Nat.le_of_ble_eq_true rfl), (Nat.le_of_ble_eq_true rfl)⟩) g hK (by decide) (by decide) (fx' := [(2, 15, a0_, .int x_253), (7, 5, q3_, .ref a_192), (7, 4, q3_, .ref a_191), (7, 15, q3_, .int x_183), (6, 10, q5_, .int y_173), (2, 0, a0_, .ref q0_), (2, 1, a0_, .ref q1_), (2, 2, a0_, .ref q2_), (2, 3, a0_, .ref q3_), (2, 4, a0_, .ref q4_), (2, 5, a0_, .ref q5_), (0, 0, q2_, .ref q0_), (0, 1, q2_, .ref q1_), (5, 0, q1_, .ref q3_), (5, 1, q1_, .ref q9_), (2, 11, a0_, .int y0_)]) rfl (fun fr_287 H locs hp hMr_287 g => ?_)
                rcases hp with ⟨hG_288, hG_289, hG_290, hG_291, x_292, h_293, hF_294⟩ | ⟨hG_295, hG_296, x_297, h_298, x_299, h_300, hF_301⟩
                · have g := g.more hF_294
                  have hs_302 := jS.mv hG_264 hG_290
                  have hG_303 := bJx.mv hG_266 hMr_287 go_.2.2.2.1 ma0_ ka0_ (by decide) (by decide) (((hMr_287 a0_ ma0_).1 3 (by rw [ka0_]; decide) (by rw [ka0_]; decide)).symm.trans (fx_at g (i := 10) rfl).2.2.2) hG_290
                  refine lv_goto (tgt := 191) hx hb dX2_readStatement_184 (by decide) ?_
                  subst hQ
                  exact W.vret hx hb hr (fun t ht hW => ⟨⟨_, rfl, Or.inl ⟨hG_303, hG_289, hG_288, hs_302, hG_291, x_292, h_293, (g.fcts [0, 1] rfl)⟩, q3_of g hK ht hW⟩, g.2.2.1.F ht⟩) g.2.2.1.2.2 dX2_readStatement_191
                · have g := g.more hF_301
                  refine lv_goto (tgt := 191) hx hb dX2_readStatement_184 (by decide) ?_
                  subst hQ
                  exact W.vret hx hb hr (fun t ht hW => ⟨⟨_, rfl, Or.inr (⟨hG_295, hG_296, x_297, h_298, x_299, h_300, (g.fcts [0, 1] rfl)⟩), q3_of g hK ht hW⟩, g.2.2.1.F ht⟩) g.2.2.1.2.2 dX2_readStatement_191
            · have hG_304 := dOK.frame hMr_251 go_.2.2.2.1 mq3_ kq3_ (by decide) (by decide) hG_195
              have hG_305 := cOK.frame hMr_251 go_.2.2.2.1 mq3_ kq3_ (by decide) (by decide) hG_196
              have hG_306 := jS.frame hMr_251 go_.2.2.2.1 mq3_ kq3_ (by decide) (by decide) hs_203
              have hG_307 := eOK.frame hMr_251 go_.2.2.2.1 mq2_ kq2_ (by decide) (by decide) hG_202
              have hG_308 := bJx.frame hMr_251 go_.2.2.2.1 ma0_ ka0_ (by decide) (by decide) hG_204
              have g := g.more hF_261
              have kb_0 : bd 0 0 (0 : Int32) := ⟨by decide, by decide⟩
              refine lv_if_eq (tgt := 187) hx hb dX2_readStatement_177 (by decide) (fun c_309 => ?_) (fun c_309 => ?_)
              · have fc_309 := eq_f c_309
                have b_310 : bd 0 0 r_251 := eqX fc_309 h_258 kb_0 (by decide)
                refine lv_aload_n hx hb dX2_readStatement_187 rfl (lv_at hl 1 rfl) ?_
                have kb_1201 : bd 1201 1201 (1201 : Int32) := ⟨by decide, by decide⟩
                have go_ := g
                refine g_callv (va_runV (As := []) (rest := []) ⟨hx, hb, hml, hown, hts⟩ (r_X2_readAssignment l dC dI L kd tys fr_251 H.size g.2.2.2.1 a0_ ma0_ ka0_ q0_ mq0_ kq0_ q1_ mq1_ kq1_ q2_ mq2_ kq2_ q3_ mq3_ kq3_ q4_ mq4_ kq4_ q9_ mq9_ kq9_ 1201 kb_1201 x_259 h_260 T_ hG_304 hG_307 (g.fcts [7, 8, 9, 10, 11, 13, 14, 15, 16, 0, 1] rfl)) (cwV 0 hts (gV_ t_1397 t_1399 t_51 t_183 t_1400) rfl rfl rfl (by decide +kernel) ⟨(Nat.le_of_ble_eq_true rfl), (Nat.le_of_ble_eq_true rfl)⟩) (pre3V g hK ma0_ ka0_ (by decide) (q := (RX2, TX2, 16)) rfl) rfl rfl hl.1 rfl (lv_room (Nat.le_of_ble_eq_true rfl)) dX2_readStatement_188 ⟨(Nat.le_of_ble_eq_true rfl), (Nat.le_of_ble_eq_true rfl)⟩) g hK (by decide) (by decide) (fx' := [(8, 8, q0_, .int x_259), (7, 5, q3_, .ref a_192), (7, 4, q3_, .ref a_191), (7, 15, q3_, .int x_183), (6, 10, q5_, .int y_173), (2, 0, a0_, .ref q0_), (2, 1, a0_, .ref q1_), (2, 2, a0_, .ref q2_), (2, 3, a0_, .ref q3_), (2, 4, a0_, .ref q4_), (2, 5, a0_, .ref q5_), (0, 0, q2_, .ref q0_), (0, 1, q2_, .ref q1_), (5, 0, q1_, .ref q3_), (5, 1, q1_, .ref q9_), (2, 11, a0_, .int y0_)]) rfl (fun fr_311 H locs hp hMr_311 g => ?_)
                obtain ⟨hG_312, x_313, h_314, hF_315⟩ := hp
                have hG_316 := eOK.frame hMr_311 go_.2.2.2.1 mq2_ kq2_ (by decide) (by decide) hG_307
                have g := g.more hF_315
                subst hQ
                exact W.vret hx hb hr (fun t ht hW => ⟨⟨_, rfl, Or.inr (⟨hG_312, hG_316, x_313, h_314, x_259, h_260, (g.fcts [0, 7] rfl)⟩), q3_of g hK ht hW⟩, g.2.2.1.F ht⟩) g.2.2.1.2.2 dX2_readStatement_191
              · have fc_309 := neq_f c_309
                have b_317 : bd 1 1 r_251 := neX fc_309 h_258 kb_0 (by decide)
                refine lv_aload_n hx hb dX2_readStatement_180 rfl (lv_at hl 1 rfl) ?_
                have kb_1201 : bd 1201 1201 (1201 : Int32) := ⟨by decide, by decide⟩
                have go_ := g
                refine g_callv (va_runV (As := []) (rest := []) ⟨hx, hb, hml, hown, hts⟩ (r_X2_readArguments_3 l dC dI L kd tys fr_251 H.size g.2.2.2.1 a0_ ma0_ ka0_ q0_ mq0_ kq0_ q1_ mq1_ kq1_ q2_ mq2_ kq2_ q3_ mq3_ kq3_ q9_ mq9_ kq9_ 1201 kb_1201 x_259 h_260 T_ hG_304 hG_307 (g.fcts [7, 8, 9, 10, 13, 14, 15, 16, 0, 1] rfl)) (cwV 0 hts (gV_ t_1393 t_1395 t_50 t_183 t_1396) rfl rfl rfl (by decide +kernel) ⟨(Nat.le_of_ble_eq_true rfl), (Nat.le_of_ble_eq_true rfl)⟩) (pre3V g hK ma0_ ka0_ (by decide) (q := (RX2, TX2, 16)) rfl) rfl rfl hl.1 rfl (lv_room (Nat.le_of_ble_eq_true rfl)) dX2_readStatement_181 ⟨(Nat.le_of_ble_eq_true rfl), (Nat.le_of_ble_eq_true rfl)⟩) g hK (by decide) (by decide) (fx' := [(8, 8, q0_, .int x_259), (7, 5, q3_, .ref a_192), (7, 4, q3_, .ref a_191), (7, 15, q3_, .int x_183), (6, 10, q5_, .int y_173), (2, 0, a0_, .ref q0_), (2, 1, a0_, .ref q1_), (2, 2, a0_, .ref q2_), (2, 3, a0_, .ref q3_), (2, 4, a0_, .ref q4_), (2, 5, a0_, .ref q5_), (0, 0, q2_, .ref q0_), (0, 1, q2_, .ref q1_), (5, 0, q1_, .ref q3_), (5, 1, q1_, .ref q9_), (2, 11, a0_, .int y0_)]) rfl (fun fr_318 H locs hp hMr_318 g => ?_)
                obtain ⟨hG_319, x_320, h_321, hF_322⟩ := hp
                have hG_323 := eOK.frame hMr_318 go_.2.2.2.1 mq2_ kq2_ (by decide) (by decide) hG_307
                have g := g.more hF_322
                refine lv_goto (tgt := 191) hx hb dX2_readStatement_184 (by decide) ?_
                subst hQ
                exact W.vret hx hb hr (fun t ht hW => ⟨⟨_, rfl, Or.inr (⟨hG_319, hG_323, x_320, h_321, x_259, h_260, (g.fcts [0, 1] rfl)⟩), q3_of g hK ht hW⟩, g.2.2.1.F ht⟩) g.2.2.1.2.2 dX2_readStatement_191
          · have fc_250 := eq_f c_250
            have b_324 : bd 24 11 r_1 := eqX fc_250 b_249 kb_11 (by decide)
            exact bd_no b_324 (by decide)
        by_cases e_325 : r_1 = 25
        · refine lv_topi (fun z_326 ez_326 => ?_)
          obtain rfl : z_326 = 25 := ez_326.trans e_325
          have kb_25 : bd 25 25 (25 : Int32) := ⟨by decide, by decide⟩
          have b_327 : bd 25 25 r_1 := eqX (eq_f e_325) b_169 kb_25 (by decide)
          refine lv_tableIn (off := 45) (tgt := 135) hx hb dX2_readStatement_90 (by decide) (by decide) rfl (by decide) ?_
          refine lv_aload_n hx hb dX2_readStatement_135 rfl (lv_at hl 1 rfl) ?_
          refine lv_iload_n hx hb dX2_readStatement_136 rfl (lv_at hl 0 rfl) ?_
          have go_ := g
          refine g_callv (va_runV (As := [.int r_1]) (rest := []) ⟨hx, hb, hml, hown, hts⟩ (r_X2_readTest_2 l dC dI L kd tys fr_194 H.size g.2.2.2.1 a0_ ma0_ ka0_ r_1 q0_ mq0_ kq0_ q1_ mq1_ kq1_ q2_ mq2_ kq2_ q3_ mq3_ kq3_ q9_ mq9_ kq9_ y1_ by1_ T_ (fun j9 => jOK fr_194 q3_ j9) hG_204 hG_196 hG_195 (fun _ h9 => h9) hG_202 (g.fcts [5, 6, 7, 8, 11, 12, 13, 14, 16] rfl)) (cwV 1 hts (gV_ t_1367 t_1369 t_45 t_183 t_1370) rfl rfl rfl (by decide +kernel) ⟨(Nat.le_of_ble_eq_true rfl), (Nat.le_of_ble_eq_true rfl)⟩) (pre3V g hK ma0_ ka0_ (by decide) (q := (RX2, TX2, 16)) rfl) rfl rfl hl.1 rfl (lv_room (Nat.le_of_ble_eq_true rfl)) dX2_readStatement_137 ⟨(Nat.le_of_ble_eq_true rfl), (Nat.le_of_ble_eq_true rfl)⟩) g hK (by decide) (by decide) (fx' := [(7, 5, q3_, .ref a_192), (7, 4, q3_, .ref a_191), (7, 15, q3_, .int x_183), (6, 10, q5_, .int y_173), (2, 0, a0_, .ref q0_), (2, 1, a0_, .ref q1_), (2, 2, a0_, .ref q2_), (2, 3, a0_, .ref q3_), (2, 4, a0_, .ref q4_), (2, 5, a0_, .ref q5_), (0, 0, q2_, .ref q0_), (0, 1, q2_, .ref q1_), (5, 0, q1_, .ref q3_), (5, 1, q1_, .ref q9_)]) rfl (fun fr_328 H locs hp hMr_328 g => ?_)
          rcases hp with ⟨hG_329, hG_330, hG_331, hG_332, hG_333, x_334, h_335, x_336, h_337, hF_338⟩ | ⟨hG_339, hG_340, x_341, h_342, hF_343⟩
          · have g := g.more hF_338
            have hs_344 := jS.mv hs_203 hG_332
            refine lv_goto (tgt := 191) hx hb dX2_readStatement_140 (by decide) ?_
            subst hQ
            exact W.vret hx hb hr (fun t ht hW => ⟨⟨_, rfl, Or.inl ⟨hG_329, hG_331, hG_330, hs_344, hG_333, x_334, h_335, (g.fcts [0, 2] rfl)⟩, q3_of g hK ht hW⟩, g.2.2.1.F ht⟩) g.2.2.1.2.2 dX2_readStatement_191
          · have g := g.more hF_343
            refine lv_goto (tgt := 191) hx hb dX2_readStatement_140 (by decide) ?_
            have kb_1201 : bd 1201 1201 (1201 : Int32) := ⟨by decide, by decide⟩
            subst hQ
            exact W.vret hx hb hr (fun t ht hW => ⟨⟨_, rfl, Or.inr (⟨hG_339, hG_340, 1201, kb_1201, x_341, h_342, (g.fcts [0, 1] rfl)⟩), q3_of g hK ht hW⟩, g.2.2.1.F ht⟩) g.2.2.1.2.2 dX2_readStatement_191
        by_cases e_345 : r_1 = 26
        · refine lv_topi (fun z_346 ez_346 => ?_)
          obtain rfl : z_346 = 26 := ez_346.trans e_345
          have kb_26 : bd 26 26 (26 : Int32) := ⟨by decide, by decide⟩
          have b_347 : bd 26 26 r_1 := eqX (eq_f e_345) b_169 kb_26 (by decide)
          refine lv_tableIn (off := 53) (tgt := 143) hx hb dX2_readStatement_90 (by decide) (by decide) rfl (by decide) ?_
          refine lv_aload_n hx hb dX2_readStatement_143 rfl (lv_at hl 1 rfl) ?_
          have go_ := g
          refine g_callv (va_runV (As := []) (rest := []) ⟨hx, hb, hml, hown, hts⟩ (r_X2_readReturn_2 l dC dI L kd tys fr_194 H.size g.2.2.2.1 a0_ ma0_ ka0_ q0_ mq0_ kq0_ q1_ mq1_ kq1_ q2_ mq2_ kq2_ q3_ mq3_ kq3_ q9_ mq9_ kq9_ y1_ by1_ T_ (fun j9 => jOK fr_194 q3_ j9) hG_196 hG_195 (fun _ h9 => h9) hG_202 (g.fcts [5, 6, 7, 8, 11, 12, 13, 14, 16] rfl)) (cwV 0 hts (gV_ t_1371 t_1373 t_46 t_183 t_1374) rfl rfl rfl (by decide +kernel) ⟨(Nat.le_of_ble_eq_true rfl), (Nat.le_of_ble_eq_true rfl)⟩) (pre3V g hK ma0_ ka0_ (by decide) (q := (RX2, TX2, 16)) rfl) rfl rfl hl.1 rfl (lv_room (Nat.le_of_ble_eq_true rfl)) dX2_readStatement_144 ⟨(Nat.le_of_ble_eq_true rfl), (Nat.le_of_ble_eq_true rfl)⟩) g hK (by decide) (by decide) (fx' := [(7, 5, q3_, .ref a_192), (7, 4, q3_, .ref a_191), (7, 15, q3_, .int x_183), (6, 10, q5_, .int y_173), (2, 0, a0_, .ref q0_), (2, 1, a0_, .ref q1_), (2, 2, a0_, .ref q2_), (2, 3, a0_, .ref q3_), (2, 4, a0_, .ref q4_), (2, 5, a0_, .ref q5_), (0, 0, q2_, .ref q0_), (0, 1, q2_, .ref q1_), (5, 0, q1_, .ref q3_), (5, 1, q1_, .ref q9_), (2, 11, a0_, .int y0_)]) rfl (fun fr_348 H locs hp hMr_348 g => ?_)
          rcases hp with ⟨hG_349, hG_350, hG_351, hG_352, x_353, h_354, hF_355⟩ | ⟨hG_356, hG_357, x_358, h_359, x_360, h_361, hF_362⟩
          · have g := g.more hF_355
            have hs_363 := jS.mv hs_203 hG_351
            have hG_364 := bJx.mv hG_204 hMr_348 go_.2.2.2.1 ma0_ ka0_ (by decide) (by decide) (((hMr_348 a0_ ma0_).1 3 (by rw [ka0_]; decide) (by rw [ka0_]; decide)).symm.trans (fx_at g (i := 10) rfl).2.2.2) hG_351
            refine lv_goto (tgt := 191) hx hb dX2_readStatement_147 (by decide) ?_
            subst hQ
            exact W.vret hx hb hr (fun t ht hW => ⟨⟨_, rfl, Or.inl ⟨hG_364, hG_350, hG_349, hs_363, hG_352, x_353, h_354, (g.fcts [0, 1] rfl)⟩, q3_of g hK ht hW⟩, g.2.2.1.F ht⟩) g.2.2.1.2.2 dX2_readStatement_191
          · have g := g.more hF_362
            refine lv_goto (tgt := 191) hx hb dX2_readStatement_147 (by decide) ?_
            subst hQ
            exact W.vret hx hb hr (fun t ht hW => ⟨⟨_, rfl, Or.inr (⟨hG_356, hG_357, x_358, h_359, x_360, h_361, (g.fcts [0, 1] rfl)⟩), q3_of g hK ht hW⟩, g.2.2.1.F ht⟩) g.2.2.1.2.2 dX2_readStatement_191
        by_cases e_365 : r_1 = 27
        · refine lv_topi (fun z_366 ez_366 => ?_)
          obtain rfl : z_366 = 27 := ez_366.trans e_365
          have kb_27 : bd 27 27 (27 : Int32) := ⟨by decide, by decide⟩
          have b_367 : bd 27 27 r_1 := eqX (eq_f e_365) b_169 kb_27 (by decide)
          refine lv_tableIn (off := 60) (tgt := 150) hx hb dX2_readStatement_90 (by decide) (by decide) rfl (by decide) ?_
          refine lv_aload_n hx hb dX2_readStatement_150 rfl (lv_at hl 1 rfl) ?_
          have go_ := g
          refine g_callv (va_runV (As := []) (rest := []) ⟨hx, hb, hml, hown, hts⟩ (r_X2_readThrow_2 l dC dI L kd tys fr_194 H.size g.2.2.2.1 a0_ ma0_ ka0_ q0_ mq0_ kq0_ q3_ mq3_ kq3_ y1_ by1_ T_ (fun j9 => jOK fr_194 q3_ j9) hG_196 hG_195 (fun _ h9 => h9) (g.fcts [5, 8, 16] rfl)) (cwV 0 hts (gV_ t_1375 t_1377 t_47 t_183 t_1378) rfl rfl rfl (by decide +kernel) ⟨(Nat.le_of_ble_eq_true rfl), (Nat.le_of_ble_eq_true rfl)⟩) (pre3V g hK ma0_ ka0_ (by decide) (q := (RX2, TX2, 16)) rfl) rfl rfl hl.1 rfl (lv_room (Nat.le_of_ble_eq_true rfl)) dX2_readStatement_151 ⟨(Nat.le_of_ble_eq_true rfl), (Nat.le_of_ble_eq_true rfl)⟩) g hK (by decide) (by decide) (fx' := [(7, 5, q3_, .ref a_192), (7, 4, q3_, .ref a_191), (7, 15, q3_, .int x_183), (6, 10, q5_, .int y_173), (2, 0, a0_, .ref q0_), (2, 1, a0_, .ref q1_), (2, 2, a0_, .ref q2_), (2, 3, a0_, .ref q3_), (2, 4, a0_, .ref q4_), (2, 5, a0_, .ref q5_), (0, 0, q2_, .ref q0_), (0, 1, q2_, .ref q1_), (5, 0, q1_, .ref q3_), (5, 1, q1_, .ref q9_), (2, 11, a0_, .int y0_)]) rfl (fun fr_368 H locs hp hMr_368 g => ?_)
          rcases hp with ⟨hG_369, hG_370, hG_371, x_372, h_373, x_374, h_375, hF_376⟩ | ⟨hG_377, hG_378, hG_379, x_380, h_381, x_382, h_383, x_384, h_385, hF_386⟩
          · have hG_387 := eOK.frame hMr_368 go_.2.2.2.1 mq2_ kq2_ (by decide) (by decide) hG_202
            have g := g.more hF_376
            have hs_388 := jS.mv hs_203 hG_371
            have hG_389 := bJx.mv hG_204 hMr_368 go_.2.2.2.1 ma0_ ka0_ (by decide) (by decide) (((hMr_368 a0_ ma0_).1 3 (by rw [ka0_]; decide) (by rw [ka0_]; decide)).symm.trans (fx_at g (i := 10) rfl).2.2.2) hG_371
            refine lv_goto (tgt := 191) hx hb dX2_readStatement_154 (by decide) ?_
            subst hQ
            exact W.vret hx hb hr (fun t ht hW => ⟨⟨_, rfl, Or.inl ⟨hG_389, hG_370, hG_369, hs_388, hG_387, x_372, h_373, (g.fcts [0, 1] rfl)⟩, q3_of g hK ht hW⟩, g.2.2.1.F ht⟩) g.2.2.1.2.2 dX2_readStatement_191
          · have hG_390 := eOK.frame hMr_368 go_.2.2.2.1 mq2_ kq2_ (by decide) (by decide) hG_202
            have g := g.more hF_386
            have hs_391 := jS.mv hs_203 hG_379
            have hG_392 := bJx.mv hG_204 hMr_368 go_.2.2.2.1 ma0_ ka0_ (by decide) (by decide) (((hMr_368 a0_ ma0_).1 3 (by rw [ka0_]; decide) (by rw [ka0_]; decide)).symm.trans (fx_at g (i := 10) rfl).2.2.2) hG_379
            refine lv_goto (tgt := 191) hx hb dX2_readStatement_154 (by decide) ?_
            subst hQ
            exact W.vret hx hb hr (fun t ht hW => ⟨⟨_, rfl, Or.inr (⟨hG_378, hG_390, x_380, h_381, x_382, h_383, (g.fcts [0, 1] rfl)⟩), q3_of g hK ht hW⟩, g.2.2.1.F ht⟩) g.2.2.1.2.2 dX2_readStatement_191
        refine lv_tableOut (tgt := 157) hx hb dX2_readStatement_90 (by have a0 : r_1.toInt ≠ 22 := fun h => e_205 (Int32.toInt_inj.mp (h.trans (by decide))); have a1 : r_1.toInt ≠ 23 := fun h => e_227 (Int32.toInt_inj.mp (h.trans (by decide))); have a2 : r_1.toInt ≠ 24 := fun h => e_247 (Int32.toInt_inj.mp (h.trans (by decide))); have a3 : r_1.toInt ≠ 25 := fun h => e_325 (Int32.toInt_inj.mp (h.trans (by decide))); have a4 : r_1.toInt ≠ 26 := fun h => e_345 (Int32.toInt_inj.mp (h.trans (by decide))); have a5 : r_1.toInt ≠ 27 := fun h => e_365 (Int32.toInt_inj.mp (h.trans (by decide))); omega) (by decide) ?_
        refine lv_iload_n hx hb dX2_readStatement_157 rfl (lv_at hl 0 rfl) ?_
        refine lv_bipush (v := 11) hx hb dX2_readStatement_158 (by decide) ?_
        have kb_11 : bd 11 11 (11 : Int32) := ⟨by decide, by decide⟩
        refine lv_icmp_ne (tgt := 173) hx hb dX2_readStatement_160 (by decide) (fun c_393 => ?_) (fun c_393 => ?_)
        · have fc_393 := neq_f c_393
          refine lv_aload_n hx hb dX2_readStatement_173 rfl (lv_at hl 1 rfl) ?_
          have go_ := g
          refine g_calli (va_runV (As := []) (rest := []) ⟨hx, hb, hml, hown, hts⟩ (r_X2_findNamed_2 l dC dI L kd tys fr_194 H.size g.2.2.2.1 a0_ ma0_ ka0_ q0_ mq0_ kq0_ q1_ mq1_ kq1_ q3_ mq3_ kq3_ q4_ mq4_ kq4_ q9_ mq9_ kq9_ y1_ by1_ (g.fcts [5, 6, 8, 9, 14, 16] rfl)) (cwV 0 hts (gV_ t_1388 t_1390 t_49 t_183 t_1391) rfl rfl rfl (by decide +kernel) ⟨(Nat.le_of_ble_eq_true rfl), (Nat.le_of_ble_eq_true rfl)⟩) (pre3V g hK ma0_ ka0_ (by decide) (q := (RX2, TX2, 16)) rfl) rfl rfl hl.1 rfl (lv_room (Nat.le_of_ble_eq_true rfl)) dX2_readStatement_174 ⟨(Nat.le_of_ble_eq_true rfl), (Nat.le_of_ble_eq_true rfl)⟩) g hK (by decide) (by decide) (fx' := [(7, 6, q3_, .int x_199), (7, 5, q3_, .ref a_192), (7, 4, q3_, .ref a_191), (7, 15, q3_, .int x_183), (6, 10, q5_, .int y_173), (2, 0, a0_, .ref q0_), (2, 1, a0_, .ref q1_), (2, 2, a0_, .ref q2_), (2, 3, a0_, .ref q3_), (2, 4, a0_, .ref q4_), (2, 5, a0_, .ref q5_), (0, 0, q2_, .ref q0_), (0, 1, q2_, .ref q1_), (5, 0, q1_, .ref q3_), (5, 1, q1_, .ref q9_), (2, 11, a0_, .int y0_)]) rfl (fun r_394 fr_394 H locs hp hMr_394 g => ?_)
          rcases hp with ⟨h_395, x_396, h_397, x_398, h_399, hF_400⟩ | ⟨h_401, x_402, h_403, hF_404⟩
          · have hG_405 := dOK.frame hMr_394 go_.2.2.2.1 mq3_ kq3_ (by decide) (by decide) hG_195
            have hG_406 := cOK.frame hMr_394 go_.2.2.2.1 mq3_ kq3_ (by decide) (by decide) hG_196
            have hG_407 := jS.frame hMr_394 go_.2.2.2.1 mq3_ kq3_ (by decide) (by decide) hs_203
            have hG_408 := eOK.frame hMr_394 go_.2.2.2.1 mq2_ kq2_ (by decide) (by decide) hG_202
            have hG_409 := bJx.frame hMr_394 go_.2.2.2.1 ma0_ ka0_ (by decide) (by decide) hG_204
            have g := g.more hF_400
            have kb_0 : bd 0 0 (0 : Int32) := ⟨by decide, by decide⟩
            refine lv_if_eq (tgt := 187) hx hb dX2_readStatement_177 (by decide) (fun c_410 => ?_) (fun c_410 => ?_)
            · have fc_410 := eq_f c_410
              have b_411 : bd 0 0 r_394 := eqX fc_410 h_395 kb_0 (by decide)
              refine lv_aload_n hx hb dX2_readStatement_187 rfl (lv_at hl 1 rfl) ?_
              have go_ := g
              refine g_callv (va_runV (As := []) (rest := []) ⟨hx, hb, hml, hown, hts⟩ (r_X2_readAssignment_2 l dC dI L kd tys fr_394 H.size g.2.2.2.1 a0_ ma0_ ka0_ q0_ mq0_ kq0_ q1_ mq1_ kq1_ q2_ mq2_ kq2_ q3_ mq3_ kq3_ q4_ mq4_ kq4_ q9_ mq9_ kq9_ y1_ by1_ T_ (fun j9 => jOK fr_394 q3_ j9) hG_406 hG_405 (fun _ h9 => h9) hG_408 (g.fcts [8, 9, 10, 11, 12, 14, 15, 16, 17, 2] rfl)) (cwV 0 hts (gV_ t_1397 t_1399 t_51 t_183 t_1400) rfl rfl rfl (by decide +kernel) ⟨(Nat.le_of_ble_eq_true rfl), (Nat.le_of_ble_eq_true rfl)⟩) (pre3V g hK ma0_ ka0_ (by decide) (q := (RX2, TX2, 16)) rfl) rfl rfl hl.1 rfl (lv_room (Nat.le_of_ble_eq_true rfl)) dX2_readStatement_188 ⟨(Nat.le_of_ble_eq_true rfl), (Nat.le_of_ble_eq_true rfl)⟩) g hK (by decide) (by decide) (fx' := [(2, 15, a0_, .int x_396), (7, 5, q3_, .ref a_192), (7, 4, q3_, .ref a_191), (7, 15, q3_, .int x_183), (6, 10, q5_, .int y_173), (2, 0, a0_, .ref q0_), (2, 1, a0_, .ref q1_), (2, 2, a0_, .ref q2_), (2, 3, a0_, .ref q3_), (2, 4, a0_, .ref q4_), (2, 5, a0_, .ref q5_), (0, 0, q2_, .ref q0_), (0, 1, q2_, .ref q1_), (5, 0, q1_, .ref q3_), (5, 1, q1_, .ref q9_), (2, 11, a0_, .int y0_)]) rfl (fun fr_412 H locs hp hMr_412 g => ?_)
              rcases hp with ⟨hG_413, hG_414, hG_415, hG_416, x_417, h_418, hF_419⟩ | ⟨hG_420, hG_421, x_422, h_423, x_424, h_425, hF_426⟩
              · have g := g.more hF_419
                have hs_427 := jS.mv hG_407 hG_415
                have hG_428 := bJx.mv hG_409 hMr_412 go_.2.2.2.1 ma0_ ka0_ (by decide) (by decide) (((hMr_412 a0_ ma0_).1 3 (by rw [ka0_]; decide) (by rw [ka0_]; decide)).symm.trans (fx_at g (i := 11) rfl).2.2.2) hG_415
                subst hQ
                exact W.vret hx hb hr (fun t ht hW => ⟨⟨_, rfl, Or.inl ⟨hG_428, hG_414, hG_413, hs_427, hG_416, x_417, h_418, (g.fcts [0, 1] rfl)⟩, q3_of g hK ht hW⟩, g.2.2.1.F ht⟩) g.2.2.1.2.2 dX2_readStatement_191
              · have g := g.more hF_426
                subst hQ
                exact W.vret hx hb hr (fun t ht hW => ⟨⟨_, rfl, Or.inr (⟨hG_420, hG_421, x_422, h_423, x_424, h_425, (g.fcts [0, 1] rfl)⟩), q3_of g hK ht hW⟩, g.2.2.1.F ht⟩) g.2.2.1.2.2 dX2_readStatement_191
            · have fc_410 := neq_f c_410
              have b_429 : bd 1 1 r_394 := neX fc_410 h_395 kb_0 (by decide)
              refine lv_aload_n hx hb dX2_readStatement_180 rfl (lv_at hl 1 rfl) ?_
              have go_ := g
              refine g_callv (va_runV (As := []) (rest := []) ⟨hx, hb, hml, hown, hts⟩ (r_X2_readArguments_2 l dC dI L kd tys fr_394 H.size g.2.2.2.1 a0_ ma0_ ka0_ q0_ mq0_ kq0_ q1_ mq1_ kq1_ q2_ mq2_ kq2_ q3_ mq3_ kq3_ q9_ mq9_ kq9_ y1_ by1_ T_ (fun j9 => jOK fr_394 q3_ j9) hG_406 hG_405 (fun _ h9 => h9) hG_408 (g.fcts [8, 9, 10, 11, 14, 15, 16, 17, 2] rfl)) (cwV 0 hts (gV_ t_1393 t_1395 t_50 t_183 t_1396) rfl rfl rfl (by decide +kernel) ⟨(Nat.le_of_ble_eq_true rfl), (Nat.le_of_ble_eq_true rfl)⟩) (pre3V g hK ma0_ ka0_ (by decide) (q := (RX2, TX2, 16)) rfl) rfl rfl hl.1 rfl (lv_room (Nat.le_of_ble_eq_true rfl)) dX2_readStatement_181 ⟨(Nat.le_of_ble_eq_true rfl), (Nat.le_of_ble_eq_true rfl)⟩) g hK (by decide) (by decide) (fx' := [(2, 15, a0_, .int x_396), (7, 5, q3_, .ref a_192), (7, 4, q3_, .ref a_191), (7, 15, q3_, .int x_183), (6, 10, q5_, .int y_173), (2, 0, a0_, .ref q0_), (2, 1, a0_, .ref q1_), (2, 2, a0_, .ref q2_), (2, 3, a0_, .ref q3_), (2, 4, a0_, .ref q4_), (2, 5, a0_, .ref q5_), (0, 0, q2_, .ref q0_), (0, 1, q2_, .ref q1_), (5, 0, q1_, .ref q3_), (5, 1, q1_, .ref q9_), (2, 11, a0_, .int y0_)]) rfl (fun fr_430 H locs hp hMr_430 g => ?_)
              rcases hp with ⟨hG_431, hG_432, hG_433, hG_434, x_435, h_436, hF_437⟩ | ⟨hG_438, hG_439, x_440, h_441, x_442, h_443, hF_444⟩
              · have g := g.more hF_437
                have hs_445 := jS.mv hG_407 hG_433
                have hG_446 := bJx.mv hG_409 hMr_430 go_.2.2.2.1 ma0_ ka0_ (by decide) (by decide) (((hMr_430 a0_ ma0_).1 3 (by rw [ka0_]; decide) (by rw [ka0_]; decide)).symm.trans (fx_at g (i := 10) rfl).2.2.2) hG_433
                refine lv_goto (tgt := 191) hx hb dX2_readStatement_184 (by decide) ?_
                subst hQ
                exact W.vret hx hb hr (fun t ht hW => ⟨⟨_, rfl, Or.inl ⟨hG_446, hG_432, hG_431, hs_445, hG_434, x_435, h_436, (g.fcts [0, 1] rfl)⟩, q3_of g hK ht hW⟩, g.2.2.1.F ht⟩) g.2.2.1.2.2 dX2_readStatement_191
              · have g := g.more hF_444
                refine lv_goto (tgt := 191) hx hb dX2_readStatement_184 (by decide) ?_
                subst hQ
                exact W.vret hx hb hr (fun t ht hW => ⟨⟨_, rfl, Or.inr (⟨hG_438, hG_439, x_440, h_441, x_442, h_443, (g.fcts [0, 1] rfl)⟩), q3_of g hK ht hW⟩, g.2.2.1.F ht⟩) g.2.2.1.2.2 dX2_readStatement_191
          · have hG_447 := dOK.frame hMr_394 go_.2.2.2.1 mq3_ kq3_ (by decide) (by decide) hG_195
            have hG_448 := cOK.frame hMr_394 go_.2.2.2.1 mq3_ kq3_ (by decide) (by decide) hG_196
            have hG_449 := jS.frame hMr_394 go_.2.2.2.1 mq3_ kq3_ (by decide) (by decide) hs_203
            have hG_450 := eOK.frame hMr_394 go_.2.2.2.1 mq2_ kq2_ (by decide) (by decide) hG_202
            have hG_451 := bJx.frame hMr_394 go_.2.2.2.1 ma0_ ka0_ (by decide) (by decide) hG_204
            have g := g.more hF_404
            have kb_0 : bd 0 0 (0 : Int32) := ⟨by decide, by decide⟩
            refine lv_if_eq (tgt := 187) hx hb dX2_readStatement_177 (by decide) (fun c_452 => ?_) (fun c_452 => ?_)
            · have fc_452 := eq_f c_452
              have b_453 : bd 0 0 r_394 := eqX fc_452 h_401 kb_0 (by decide)
              refine lv_aload_n hx hb dX2_readStatement_187 rfl (lv_at hl 1 rfl) ?_
              have kb_1201 : bd 1201 1201 (1201 : Int32) := ⟨by decide, by decide⟩
              have go_ := g
              refine g_callv (va_runV (As := []) (rest := []) ⟨hx, hb, hml, hown, hts⟩ (r_X2_readAssignment l dC dI L kd tys fr_394 H.size g.2.2.2.1 a0_ ma0_ ka0_ q0_ mq0_ kq0_ q1_ mq1_ kq1_ q2_ mq2_ kq2_ q3_ mq3_ kq3_ q4_ mq4_ kq4_ q9_ mq9_ kq9_ 1201 kb_1201 x_402 h_403 T_ hG_447 hG_450 (g.fcts [7, 8, 9, 10, 11, 13, 14, 15, 16, 0, 1] rfl)) (cwV 0 hts (gV_ t_1397 t_1399 t_51 t_183 t_1400) rfl rfl rfl (by decide +kernel) ⟨(Nat.le_of_ble_eq_true rfl), (Nat.le_of_ble_eq_true rfl)⟩) (pre3V g hK ma0_ ka0_ (by decide) (q := (RX2, TX2, 16)) rfl) rfl rfl hl.1 rfl (lv_room (Nat.le_of_ble_eq_true rfl)) dX2_readStatement_188 ⟨(Nat.le_of_ble_eq_true rfl), (Nat.le_of_ble_eq_true rfl)⟩) g hK (by decide) (by decide) (fx' := [(8, 8, q0_, .int x_402), (7, 5, q3_, .ref a_192), (7, 4, q3_, .ref a_191), (7, 15, q3_, .int x_183), (6, 10, q5_, .int y_173), (2, 0, a0_, .ref q0_), (2, 1, a0_, .ref q1_), (2, 2, a0_, .ref q2_), (2, 3, a0_, .ref q3_), (2, 4, a0_, .ref q4_), (2, 5, a0_, .ref q5_), (0, 0, q2_, .ref q0_), (0, 1, q2_, .ref q1_), (5, 0, q1_, .ref q3_), (5, 1, q1_, .ref q9_), (2, 11, a0_, .int y0_)]) rfl (fun fr_454 H locs hp hMr_454 g => ?_)
              obtain ⟨hG_455, x_456, h_457, hF_458⟩ := hp
              have hG_459 := eOK.frame hMr_454 go_.2.2.2.1 mq2_ kq2_ (by decide) (by decide) hG_450
              have g := g.more hF_458
              subst hQ
              exact W.vret hx hb hr (fun t ht hW => ⟨⟨_, rfl, Or.inr (⟨hG_455, hG_459, x_456, h_457, x_402, h_403, (g.fcts [0, 7] rfl)⟩), q3_of g hK ht hW⟩, g.2.2.1.F ht⟩) g.2.2.1.2.2 dX2_readStatement_191
            · have fc_452 := neq_f c_452
              have b_460 : bd 1 1 r_394 := neX fc_452 h_401 kb_0 (by decide)
              refine lv_aload_n hx hb dX2_readStatement_180 rfl (lv_at hl 1 rfl) ?_
              have kb_1201 : bd 1201 1201 (1201 : Int32) := ⟨by decide, by decide⟩
              have go_ := g
              refine g_callv (va_runV (As := []) (rest := []) ⟨hx, hb, hml, hown, hts⟩ (r_X2_readArguments_3 l dC dI L kd tys fr_394 H.size g.2.2.2.1 a0_ ma0_ ka0_ q0_ mq0_ kq0_ q1_ mq1_ kq1_ q2_ mq2_ kq2_ q3_ mq3_ kq3_ q9_ mq9_ kq9_ 1201 kb_1201 x_402 h_403 T_ hG_447 hG_450 (g.fcts [7, 8, 9, 10, 13, 14, 15, 16, 0, 1] rfl)) (cwV 0 hts (gV_ t_1393 t_1395 t_50 t_183 t_1396) rfl rfl rfl (by decide +kernel) ⟨(Nat.le_of_ble_eq_true rfl), (Nat.le_of_ble_eq_true rfl)⟩) (pre3V g hK ma0_ ka0_ (by decide) (q := (RX2, TX2, 16)) rfl) rfl rfl hl.1 rfl (lv_room (Nat.le_of_ble_eq_true rfl)) dX2_readStatement_181 ⟨(Nat.le_of_ble_eq_true rfl), (Nat.le_of_ble_eq_true rfl)⟩) g hK (by decide) (by decide) (fx' := [(8, 8, q0_, .int x_402), (7, 5, q3_, .ref a_192), (7, 4, q3_, .ref a_191), (7, 15, q3_, .int x_183), (6, 10, q5_, .int y_173), (2, 0, a0_, .ref q0_), (2, 1, a0_, .ref q1_), (2, 2, a0_, .ref q2_), (2, 3, a0_, .ref q3_), (2, 4, a0_, .ref q4_), (2, 5, a0_, .ref q5_), (0, 0, q2_, .ref q0_), (0, 1, q2_, .ref q1_), (5, 0, q1_, .ref q3_), (5, 1, q1_, .ref q9_), (2, 11, a0_, .int y0_)]) rfl (fun fr_461 H locs hp hMr_461 g => ?_)
              obtain ⟨hG_462, x_463, h_464, hF_465⟩ := hp
              have hG_466 := eOK.frame hMr_461 go_.2.2.2.1 mq2_ kq2_ (by decide) (by decide) hG_450
              have g := g.more hF_465
              refine lv_goto (tgt := 191) hx hb dX2_readStatement_184 (by decide) ?_
              subst hQ
              exact W.vret hx hb hr (fun t ht hW => ⟨⟨_, rfl, Or.inr (⟨hG_462, hG_466, x_463, h_464, x_402, h_403, (g.fcts [0, 1] rfl)⟩), q3_of g hK ht hW⟩, g.2.2.1.F ht⟩) g.2.2.1.2.2 dX2_readStatement_191
        · have fc_393 := eq_f c_393
          have b_467 : bd 11 11 r_1 := eqX fc_393 b_169 kb_11 (by decide)
          refine lv_aload_n hx hb dX2_readStatement_163 rfl (lv_at hl 1 rfl) ?_
          have go_ := g
          refine g_calli (va_runV (As := []) (rest := []) ⟨hx, hb, hml, hown, hts⟩ (r_X2_findAbove_2 l dC dI L kd tys fr_194 H.size g.2.2.2.1 a0_ ma0_ ka0_ q0_ mq0_ kq0_ q3_ mq3_ kq3_ q4_ mq4_ kq4_ y1_ by1_ (g.fcts [5, 8, 9, 16] rfl)) (cwV 0 hts (gV_ t_1383 t_1385 t_48 t_183 t_1386) rfl rfl rfl (by decide +kernel) ⟨(Nat.le_of_ble_eq_true rfl), (Nat.le_of_ble_eq_true rfl)⟩) (pre3V g hK ma0_ ka0_ (by decide) (q := (RX2, TX2, 16)) rfl) rfl rfl hl.1 rfl (lv_room (Nat.le_of_ble_eq_true rfl)) dX2_readStatement_164 ⟨(Nat.le_of_ble_eq_true rfl), (Nat.le_of_ble_eq_true rfl)⟩) g hK (by decide) (by decide) (fx' := [(7, 6, q3_, .int x_199), (7, 5, q3_, .ref a_192), (7, 4, q3_, .ref a_191), (7, 15, q3_, .int x_183), (6, 10, q5_, .int y_173), (2, 0, a0_, .ref q0_), (2, 1, a0_, .ref q1_), (2, 2, a0_, .ref q2_), (2, 3, a0_, .ref q3_), (2, 4, a0_, .ref q4_), (2, 5, a0_, .ref q5_), (0, 0, q2_, .ref q0_), (0, 1, q2_, .ref q1_), (5, 0, q1_, .ref q3_), (5, 1, q1_, .ref q9_), (2, 11, a0_, .int y0_)]) rfl (fun r_468 fr_468 H locs hp hMr_468 g => ?_)
          rcases hp with ⟨h_469, x_470, h_471, x_472, h_473, x_474, h_475, x_476, h_477, hF_478⟩ | ⟨h_479, x_480, h_481, hF_482⟩
          · have hG_483 := dOK.frame hMr_468 go_.2.2.2.1 mq3_ kq3_ (by decide) (by decide) hG_195
            have hG_484 := cOK.frame hMr_468 go_.2.2.2.1 mq3_ kq3_ (by decide) (by decide) hG_196
            have hG_485 := jS.frame hMr_468 go_.2.2.2.1 mq3_ kq3_ (by decide) (by decide) hs_203
            have hG_486 := eOK.frame hMr_468 go_.2.2.2.1 mq2_ kq2_ (by decide) (by decide) hG_202
            have hG_487 := bJx.frame hMr_468 go_.2.2.2.1 ma0_ ka0_ (by decide) (by decide) hG_204
            obtain rfl : r_468 = 1 := h_469
            have g := g.more hF_478
            refine lv_if_eq (tgt := 187) hx hb dX2_readStatement_167 (by decide) (fun c_ => absurd c_ (by decide)) (fun c_ => ?_)
            refine lv_goto (tgt := 180) hx hb dX2_readStatement_170 (by decide) ?_
            refine lv_aload_n hx hb dX2_readStatement_180 rfl (lv_at hl 1 rfl) ?_
            have go_ := g
            refine g_callv (va_runV (As := []) (rest := []) ⟨hx, hb, hml, hown, hts⟩ (r_X2_readArguments_2 l dC dI L kd tys fr_468 H.size g.2.2.2.1 a0_ ma0_ ka0_ q0_ mq0_ kq0_ q1_ mq1_ kq1_ q2_ mq2_ kq2_ q3_ mq3_ kq3_ q9_ mq9_ kq9_ y1_ by1_ T_ (fun j9 => jOK fr_468 q3_ j9) hG_484 hG_483 (fun _ h9 => h9) hG_486 (g.fcts [11, 12, 13, 14, 17, 18, 19, 20, 3] rfl)) (cwV 0 hts (gV_ t_1393 t_1395 t_50 t_183 t_1396) rfl rfl rfl (by decide +kernel) ⟨(Nat.le_of_ble_eq_true rfl), (Nat.le_of_ble_eq_true rfl)⟩) (pre3V g hK ma0_ ka0_ (by decide) (q := (RX2, TX2, 16)) rfl) rfl rfl hl.1 rfl (lv_room (Nat.le_of_ble_eq_true rfl)) dX2_readStatement_181 ⟨(Nat.le_of_ble_eq_true rfl), (Nat.le_of_ble_eq_true rfl)⟩) g hK (by decide) (by decide) (fx' := [(2, 14, a0_, .int x_472), (2, 12, a0_, .int 18), (7, 1, q3_, .int x_474), (9, 1, q4_, .int x_476), (7, 5, q3_, .ref a_192), (7, 4, q3_, .ref a_191), (7, 15, q3_, .int x_183), (6, 10, q5_, .int y_173), (2, 0, a0_, .ref q0_), (2, 1, a0_, .ref q1_), (2, 2, a0_, .ref q2_), (2, 3, a0_, .ref q3_), (2, 4, a0_, .ref q4_), (2, 5, a0_, .ref q5_), (0, 0, q2_, .ref q0_), (0, 1, q2_, .ref q1_), (5, 0, q1_, .ref q3_), (5, 1, q1_, .ref q9_), (2, 11, a0_, .int y0_)]) rfl (fun fr_488 H locs hp hMr_488 g => ?_)
            rcases hp with ⟨hG_489, hG_490, hG_491, hG_492, x_493, h_494, hF_495⟩ | ⟨hG_496, hG_497, x_498, h_499, x_500, h_501, hF_502⟩
            · have g := g.more hF_495
              have hs_503 := jS.mv hG_485 hG_491
              have hG_504 := bJx.mv hG_487 hMr_488 go_.2.2.2.1 ma0_ ka0_ (by decide) (by decide) (((hMr_488 a0_ ma0_).1 3 (by rw [ka0_]; decide) (by rw [ka0_]; decide)).symm.trans (fx_at g (i := 13) rfl).2.2.2) hG_491
              refine lv_goto (tgt := 191) hx hb dX2_readStatement_184 (by decide) ?_
              subst hQ
              exact W.vret hx hb hr (fun t ht hW => ⟨⟨_, rfl, Or.inl ⟨hG_504, hG_490, hG_489, hs_503, hG_492, x_493, h_494, (g.fcts [0, 1] rfl)⟩, q3_of g hK ht hW⟩, g.2.2.1.F ht⟩) g.2.2.1.2.2 dX2_readStatement_191
            · have g := g.more hF_502
              refine lv_goto (tgt := 191) hx hb dX2_readStatement_184 (by decide) ?_
              subst hQ
              exact W.vret hx hb hr (fun t ht hW => ⟨⟨_, rfl, Or.inr (⟨hG_496, hG_497, x_498, h_499, x_500, h_501, (g.fcts [0, 1] rfl)⟩), q3_of g hK ht hW⟩, g.2.2.1.F ht⟩) g.2.2.1.2.2 dX2_readStatement_191
          · have hG_505 := dOK.frame hMr_468 go_.2.2.2.1 mq3_ kq3_ (by decide) (by decide) hG_195
            have hG_506 := cOK.frame hMr_468 go_.2.2.2.1 mq3_ kq3_ (by decide) (by decide) hG_196
            have hG_507 := jS.frame hMr_468 go_.2.2.2.1 mq3_ kq3_ (by decide) (by decide) hs_203
            have hG_508 := eOK.frame hMr_468 go_.2.2.2.1 mq2_ kq2_ (by decide) (by decide) hG_202
            have hG_509 := bJx.frame hMr_468 go_.2.2.2.1 ma0_ ka0_ (by decide) (by decide) hG_204
            obtain rfl : r_468 = 1 := h_479
            have g := g.more hF_482
            refine lv_if_eq (tgt := 187) hx hb dX2_readStatement_167 (by decide) (fun c_ => absurd c_ (by decide)) (fun c_ => ?_)
            refine lv_goto (tgt := 180) hx hb dX2_readStatement_170 (by decide) ?_
            refine lv_aload_n hx hb dX2_readStatement_180 rfl (lv_at hl 1 rfl) ?_
            have kb_1201 : bd 1201 1201 (1201 : Int32) := ⟨by decide, by decide⟩
            have go_ := g
            refine g_callv (va_runV (As := []) (rest := []) ⟨hx, hb, hml, hown, hts⟩ (r_X2_readArguments_3 l dC dI L kd tys fr_468 H.size g.2.2.2.1 a0_ ma0_ ka0_ q0_ mq0_ kq0_ q1_ mq1_ kq1_ q2_ mq2_ kq2_ q3_ mq3_ kq3_ q9_ mq9_ kq9_ 1201 kb_1201 x_480 h_481 T_ hG_505 hG_508 (g.fcts [7, 8, 9, 10, 13, 14, 15, 16, 0, 1] rfl)) (cwV 0 hts (gV_ t_1393 t_1395 t_50 t_183 t_1396) rfl rfl rfl (by decide +kernel) ⟨(Nat.le_of_ble_eq_true rfl), (Nat.le_of_ble_eq_true rfl)⟩) (pre3V g hK ma0_ ka0_ (by decide) (q := (RX2, TX2, 16)) rfl) rfl rfl hl.1 rfl (lv_room (Nat.le_of_ble_eq_true rfl)) dX2_readStatement_181 ⟨(Nat.le_of_ble_eq_true rfl), (Nat.le_of_ble_eq_true rfl)⟩) g hK (by decide) (by decide) (fx' := [(8, 8, q0_, .int x_480), (7, 5, q3_, .ref a_192), (7, 4, q3_, .ref a_191), (7, 15, q3_, .int x_183), (6, 10, q5_, .int y_173), (2, 0, a0_, .ref q0_), (2, 1, a0_, .ref q1_), (2, 2, a0_, .ref q2_), (2, 3, a0_, .ref q3_), (2, 4, a0_, .ref q4_), (2, 5, a0_, .ref q5_), (0, 0, q2_, .ref q0_), (0, 1, q2_, .ref q1_), (5, 0, q1_, .ref q3_), (5, 1, q1_, .ref q9_), (2, 11, a0_, .int y0_)]) rfl (fun fr_510 H locs hp hMr_510 g => ?_)
            obtain ⟨hG_511, x_512, h_513, hF_514⟩ := hp
            have hG_515 := eOK.frame hMr_510 go_.2.2.2.1 mq2_ kq2_ (by decide) (by decide) hG_508
            have g := g.more hF_514
            refine lv_goto (tgt := 191) hx hb dX2_readStatement_184 (by decide) ?_
            subst hQ
            exact W.vret hx hb hr (fun t ht hW => ⟨⟨_, rfl, Or.inr (⟨hG_511, hG_515, x_512, h_513, x_480, h_481, (g.fcts [0, 1] rfl)⟩), q3_of g hK ht hW⟩, g.2.2.1.F ht⟩) g.2.2.1.2.2 dX2_readStatement_191
      · have fc_171 := nlt_f c_171
        have b_516 : bd 40 2147483647 x_170 := leR fc_171 kb_40 (bdT x_170) (by decide)
        refine lv_aload_n hx hb dX2_readStatement_56 rfl (lv_at hl 1 rfl) ?_
        have go_ := g
        refine g_callv (va_runV (As := []) (rest := []) ⟨hx, hb, hml, hown, hts⟩ (r_X2_refuseStatement l dC dI L kd tys fr_8 H.size g.2.2.2.1 a0_ ma0_ ka0_ q0_ mq0_ kq0_ q1_ mq1_ kq1_ q3_ mq3_ kq3_ q4_ mq4_ kq4_ q9_ mq9_ kq9_ y1_ by1_ (g.fcts [1, 2, 4, 5, 10, 12] rfl)) (cwV 0 hts (gV_ t_1354 t_1356 t_43 t_183 t_1357) rfl rfl rfl (by decide +kernel) ⟨(Nat.le_of_ble_eq_true rfl), (Nat.le_of_ble_eq_true rfl)⟩) (pre3V g hK ma0_ ka0_ (by decide) (q := (RX2, TX2, 16)) rfl) rfl rfl hl.1 rfl (lv_room (Nat.le_of_ble_eq_true rfl)) dX2_readStatement_57 ⟨(Nat.le_of_ble_eq_true rfl), (Nat.le_of_ble_eq_true rfl)⟩) g hK (by decide) (by decide) (fx' := [(6, 10, q5_, .int x_170), (2, 0, a0_, .ref q0_), (2, 1, a0_, .ref q1_), (2, 2, a0_, .ref q2_), (2, 3, a0_, .ref q3_), (2, 4, a0_, .ref q4_), (2, 5, a0_, .ref q5_), (0, 0, q2_, .ref q0_), (0, 1, q2_, .ref q1_), (5, 0, q1_, .ref q3_), (5, 1, q1_, .ref q9_), (2, 11, a0_, .int y0_)]) rfl (fun fr_517 H locs hp hMr_517 g => ?_)
        obtain ⟨x_518, h_519, hF_520⟩ := hp
        have hG_521 := bJx.frame hMr_517 go_.2.2.2.1 ma0_ ka0_ (by decide) (by decide) hG_164
        have hG_522 := dOK.frame hMr_517 go_.2.2.2.1 mq3_ kq3_ (by decide) (by decide) hG_165
        have hG_523 := cOK.frame hMr_517 go_.2.2.2.1 mq3_ kq3_ (by decide) (by decide) hG_166
        have hG_524 := jS.frame hMr_517 go_.2.2.2.1 mq3_ kq3_ (by decide) (by decide) hG_167
        have hG_525 := eOK.frame hMr_517 go_.2.2.2.1 mq2_ kq2_ (by decide) (by decide) hG_168
        have g := g.more hF_520
        refine lv_aload_n hx hb dX2_readStatement_60 rfl (lv_at hl 1 rfl) ?_
        refine g_getk (C := RX2) (T := TX2) (N := 16) hx hb hts (mc_ inX2) hown hK g rfl 5 (by decide) rfl (hts _ (List.mem_cons_of_mem _ t_421)) (fun _ h9 => h9) 8 rfl dX2_readStatement_61 ?_
        refine lv_dup hx hb dX2_readStatement_64 rfl ?_
        refine g_getk (C := RX6) (T := TX6) (N := 13) hx hb hts (mc_ inX6) hown hK g rfl 10 (by decide) rfl (hts _ (List.mem_cons_of_mem _ t_588)) (fun _ h9 => h9) 2 rfl dX2_readStatement_65 ?_
        refine lv_iconst (v := 1) hx hb dX2_readStatement_68 (by decide) ?_
        have kb_1 : bd 1 1 (1 : Int32) := ⟨by decide, by decide⟩
        refine lv_iadd hx hb dX2_readStatement_69 ?_
        refine lv_topi (fun y_526 ey_526 => ?_)
        have go_ := g
        refine g_put (C := RX6) (T := TX6) (N := 13) hx hb hts (mc_ inX6) tyX6 tyX6_ok nmX6 hown hK g mq5_ kq5_ (by decide) rfl 10 (by decide) (hts _ (List.mem_cons_of_mem _ t_588)) (fun _ h9 => h9) rfl rfl (okV_i (bdT y_526)) rfl rfl (by decide) (Or.inr (Or.inl (by decide))) (fx' := [(8, 6, q0_, .int 1201), (8, 8, q0_, .int x_518), (2, 0, a0_, .ref q0_), (2, 1, a0_, .ref q1_), (2, 2, a0_, .ref q2_), (2, 3, a0_, .ref q3_), (2, 4, a0_, .ref q4_), (2, 5, a0_, .ref q5_), (0, 0, q2_, .ref q0_), (0, 1, q2_, .ref q1_), (5, 0, q1_, .ref q3_), (5, 1, q1_, .ref q9_), (2, 11, a0_, .int y0_)]) rfl dX2_readStatement_70 (fun f H locs hM_527 g => ?_)
        have hG_528 := bJx.frame hM_527 go_.2.2.2.1 ma0_ ka0_ (by decide) (by decide) hG_521
        have hG_529 := dOK.frame hM_527 go_.2.2.2.1 mq3_ kq3_ (by decide) (by decide) hG_522
        have hG_530 := cOK.frame hM_527 go_.2.2.2.1 mq3_ kq3_ (by decide) (by decide) hG_523
        have hG_531 := jS.frame hM_527 go_.2.2.2.1 mq3_ kq3_ (by decide) (by decide) hG_524
        have hG_532 := eOK.frame hM_527 go_.2.2.2.1 mq2_ kq2_ (by decide) (by decide) hG_525
        refine lv_aload_n hx hb dX2_readStatement_73 rfl (lv_at hl 1 rfl) ?_
        refine g_getk (C := RX2) (T := TX2) (N := 16) hx hb hts (mc_ inX2) hown hK g rfl 3 (by decide) rfl (hts _ (List.mem_cons_of_mem _ t_419)) (fun _ h9 => h9) 6 rfl dX2_readStatement_74 ?_
        refine lv_bipush (v := 12) hx hb dX2_readStatement_77 (by decide) ?_
        refine lv_aload_n hx hb dX2_readStatement_79 rfl (lv_at hl 1 rfl) ?_
        refine g_getk (C := RX2) (T := TX2) (N := 16) hx hb hts (mc_ inX2) hown hK g rfl 3 (by decide) rfl (hts _ (List.mem_cons_of_mem _ t_419)) (fun _ h9 => h9) 6 rfl dX2_readStatement_80 ?_
        have go_ := g
        refine g_calli (va_runV (As := []) (rest := [.int 12, .ref q3_]) ⟨hx, hb, hml, hown, hts⟩ (r_X7_addStatement l dC dI L kd tys f H.size g.2.2.2.1 q3_ mq3_ kq3_) (cwV 0 hts (gV_ t_1359 t_1360 t_1361 t_191 t_1362) rfl rfl rfl (by decide +kernel) ⟨(Nat.le_of_ble_eq_true rfl), (Nat.le_of_ble_eq_true rfl)⟩) (pre3V g hK mq3_ kq3_ (by decide) (q := (RX7, TX7, 19)) rfl) rfl rfl hl.1 rfl (lv_room (Nat.le_of_ble_eq_true rfl)) dX2_readStatement_83 ⟨(Nat.le_of_ble_eq_true rfl), (Nat.le_of_ble_eq_true rfl)⟩) g hK (by decide) (by decide) (fx' := [(6, 10, q5_, .int y_526), (8, 6, q0_, .int 1201), (8, 8, q0_, .int x_518), (2, 0, a0_, .ref q0_), (2, 1, a0_, .ref q1_), (2, 2, a0_, .ref q2_), (2, 3, a0_, .ref q3_), (2, 4, a0_, .ref q4_), (2, 5, a0_, .ref q5_), (0, 0, q2_, .ref q0_), (0, 1, q2_, .ref q1_), (5, 0, q1_, .ref q3_), (5, 1, q1_, .ref q9_), (2, 11, a0_, .int y0_)]) rfl (fun r_533 fr_533 H locs hp hMr_533 g => ?_)
        obtain ⟨h_534, x_535, h_536, hF_537⟩ := hp
        have hG_538 := bJx.frame hMr_533 go_.2.2.2.1 ma0_ ka0_ (by decide) (by decide) hG_528
        have hG_539 := dOK.frame hMr_533 go_.2.2.2.1 mq3_ kq3_ (by decide) (by decide) hG_529
        have hG_540 := cOK.frame hMr_533 go_.2.2.2.1 mq3_ kq3_ (by decide) (by decide) hG_530
        have hG_541 := jS.frame hMr_533 go_.2.2.2.1 mq3_ kq3_ (by decide) (by decide) hG_531
        have hG_542 := eOK.frame hMr_533 go_.2.2.2.1 mq2_ kq2_ (by decide) (by decide) hG_532
        have g := g.more hF_537
        obtain ⟨a_543, ma_543, ka_543, g⟩ := g_factr g mq3_ kq3_ (by decide) 4 rfl
        obtain ⟨a_544, ma_544, ka_544, g⟩ := g_factr g mq3_ kq3_ (by decide) 5 rfl
        obtain ⟨x_545, bx_545, g⟩ := g_facti g mq3_ kq3_ (by decide) 6 rfl
        have go_ := g
        refine g_callv (va_runV (As := [.int 12, .int r_533]) (rest := []) ⟨hx, hb, hml, hown, hts⟩ (r_X7_emitF l dC dI L kd tys fr_533 H.size g.2.2.2.1 q3_ mq3_ kq3_ a_543 ma_543 ka_543 a_544 ma_544 ka_544 x_545 bx_545 T_ hG_539 (12 : Int32) r_533 (g.fcts [2, 1, 0] rfl)) (cwV 2 hts (gV_ t_1301 t_1204 t_1205 t_191 t_1206) rfl rfl rfl (by decide +kernel) ⟨(Nat.le_of_ble_eq_true rfl), (Nat.le_of_ble_eq_true rfl)⟩) (pre3V g hK mq3_ kq3_ (by decide) (q := (RX7, TX7, 19)) rfl) rfl rfl hl.1 rfl (lv_room (Nat.le_of_ble_eq_true rfl)) dX2_readStatement_86 ⟨(Nat.le_of_ble_eq_true rfl), (Nat.le_of_ble_eq_true rfl)⟩) g hK (by decide) (by decide) (fx' := [(7, 5, q3_, .ref a_544), (7, 4, q3_, .ref a_543), (7, 15, q3_, .int x_535), (6, 10, q5_, .int y_526), (8, 6, q0_, .int 1201), (8, 8, q0_, .int x_518), (2, 0, a0_, .ref q0_), (2, 1, a0_, .ref q1_), (2, 2, a0_, .ref q2_), (2, 3, a0_, .ref q3_), (2, 4, a0_, .ref q4_), (2, 5, a0_, .ref q5_), (0, 0, q2_, .ref q0_), (0, 1, q2_, .ref q1_), (5, 0, q1_, .ref q3_), (5, 1, q1_, .ref q9_), (2, 11, a0_, .int y0_)]) rfl (fun fr_546 H locs hp hMr_546 g => ?_)
        obtain ⟨hG_547, x_548, h_549, hF_550⟩ := hp
        have hG_551 := eOK.frame hMr_546 go_.2.2.2.1 mq2_ kq2_ (by decide) (by decide) hG_542
        have g := g.more hF_550
        refine lv_iload_n hx hb dX2_readStatement_89 rfl (lv_at hl 0 rfl) ?_
        by_cases e_552 : r_1 = 22
        · refine lv_topi (fun z_553 ez_553 => ?_)
          obtain rfl : z_553 = 22 := ez_553.trans e_552
          have kb_22 : bd 22 22 (22 : Int32) := ⟨by decide, by decide⟩
          have b_554 : bd 22 22 r_1 := eqX (eq_f e_552) b_169 kb_22 (by decide)
          refine lv_tableIn (off := 38) (tgt := 128) hx hb dX2_readStatement_90 (by decide) (by decide) rfl (by decide) ?_
          refine lv_aload_n hx hb dX2_readStatement_128 rfl (lv_at hl 1 rfl) ?_
          have kb_1201 : bd 1201 1201 (1201 : Int32) := ⟨by decide, by decide⟩
          have go_ := g
          refine g_callv (va_runV (As := []) (rest := []) ⟨hx, hb, hml, hown, hts⟩ (r_X2_readLet l dC dI L kd tys fr_546 H.size g.2.2.2.1 a0_ ma0_ ka0_ q0_ mq0_ kq0_ q1_ mq1_ kq1_ q2_ mq2_ kq2_ q3_ mq3_ kq3_ q9_ mq9_ kq9_ 1201 kb_1201 x_518 h_519 T_ hG_547 hG_551 (g.fcts [7, 8, 9, 10, 13, 14, 15, 16, 5, 6] rfl)) (cwV 0 hts (gV_ t_1363 t_1365 t_44 t_183 t_1366) rfl rfl rfl (by decide +kernel) ⟨(Nat.le_of_ble_eq_true rfl), (Nat.le_of_ble_eq_true rfl)⟩) (pre3V g hK ma0_ ka0_ (by decide) (q := (RX2, TX2, 16)) rfl) rfl rfl hl.1 rfl (lv_room (Nat.le_of_ble_eq_true rfl)) dX2_readStatement_129 ⟨(Nat.le_of_ble_eq_true rfl), (Nat.le_of_ble_eq_true rfl)⟩) g hK (by decide) (by decide) (fx' := [(7, 5, q3_, .ref a_544), (7, 4, q3_, .ref a_543), (7, 15, q3_, .int x_535), (6, 10, q5_, .int y_526), (8, 8, q0_, .int x_518), (2, 0, a0_, .ref q0_), (2, 1, a0_, .ref q1_), (2, 2, a0_, .ref q2_), (2, 3, a0_, .ref q3_), (2, 4, a0_, .ref q4_), (2, 5, a0_, .ref q5_), (0, 0, q2_, .ref q0_), (0, 1, q2_, .ref q1_), (5, 0, q1_, .ref q3_), (5, 1, q1_, .ref q9_), (2, 11, a0_, .int y0_)]) rfl (fun fr_555 H locs hp hMr_555 g => ?_)
          obtain ⟨hG_556, x_557, h_558, hF_559⟩ := hp
          have hG_560 := eOK.frame hMr_555 go_.2.2.2.1 mq2_ kq2_ (by decide) (by decide) hG_551
          have g := g.more hF_559
          refine lv_goto (tgt := 191) hx hb dX2_readStatement_132 (by decide) ?_
          subst hQ
          exact W.vret hx hb hr (fun t ht hW => ⟨⟨_, rfl, Or.inr (⟨hG_556, hG_560, x_557, h_558, x_518, h_519, (g.fcts [0, 11] rfl)⟩), q3_of g hK ht hW⟩, g.2.2.1.F ht⟩) g.2.2.1.2.2 dX2_readStatement_191
        by_cases e_561 : r_1 = 23
        · refine lv_topi (fun z_562 ez_562 => ?_)
          obtain rfl : z_562 = 23 := ez_562.trans e_561
          have kb_23 : bd 23 23 (23 : Int32) := ⟨by decide, by decide⟩
          have b_563 : bd 23 23 r_1 := eqX (eq_f e_561) b_169 kb_23 (by decide)
          refine lv_tableIn (off := 45) (tgt := 135) hx hb dX2_readStatement_90 (by decide) (by decide) rfl (by decide) ?_
          refine lv_aload_n hx hb dX2_readStatement_135 rfl (lv_at hl 1 rfl) ?_
          refine lv_iload_n hx hb dX2_readStatement_136 rfl (lv_at hl 0 rfl) ?_
          have kb_1201 : bd 1201 1201 (1201 : Int32) := ⟨by decide, by decide⟩
          have go_ := g
          refine g_callv (va_runV (As := [.int r_1]) (rest := []) ⟨hx, hb, hml, hown, hts⟩ (r_X2_readTest l dC dI L kd tys fr_546 H.size g.2.2.2.1 a0_ ma0_ ka0_ r_1 q0_ mq0_ kq0_ q1_ mq1_ kq1_ q2_ mq2_ kq2_ q3_ mq3_ kq3_ q9_ mq9_ kq9_ 1201 kb_1201 x_518 h_519 T_ hG_547 hG_551 (g.fcts [7, 8, 9, 10, 13, 14, 15, 16, 5, 6] rfl)) (cwV 1 hts (gV_ t_1367 t_1369 t_45 t_183 t_1370) rfl rfl rfl (by decide +kernel) ⟨(Nat.le_of_ble_eq_true rfl), (Nat.le_of_ble_eq_true rfl)⟩) (pre3V g hK ma0_ ka0_ (by decide) (q := (RX2, TX2, 16)) rfl) rfl rfl hl.1 rfl (lv_room (Nat.le_of_ble_eq_true rfl)) dX2_readStatement_137 ⟨(Nat.le_of_ble_eq_true rfl), (Nat.le_of_ble_eq_true rfl)⟩) g hK (by decide) (by decide) (fx' := [(7, 5, q3_, .ref a_544), (7, 4, q3_, .ref a_543), (7, 15, q3_, .int x_535), (6, 10, q5_, .int y_526), (8, 8, q0_, .int x_518), (2, 0, a0_, .ref q0_), (2, 1, a0_, .ref q1_), (2, 2, a0_, .ref q2_), (2, 3, a0_, .ref q3_), (2, 4, a0_, .ref q4_), (2, 5, a0_, .ref q5_), (0, 0, q2_, .ref q0_), (0, 1, q2_, .ref q1_), (5, 0, q1_, .ref q3_), (5, 1, q1_, .ref q9_), (2, 11, a0_, .int y0_)]) rfl (fun fr_564 H locs hp hMr_564 g => ?_)
          obtain ⟨hG_565, hF_566⟩ := hp
          have hG_567 := eOK.frame hMr_564 go_.2.2.2.1 mq2_ kq2_ (by decide) (by decide) hG_551
          have g := g.more hF_566
          refine lv_goto (tgt := 191) hx hb dX2_readStatement_140 (by decide) ?_
          subst hQ
          exact W.vret hx hb hr (fun t ht hW => ⟨⟨_, rfl, Or.inr (⟨hG_565, hG_567, 1201, kb_1201, x_518, h_519, (g.fcts [0, 11] rfl)⟩), q3_of g hK ht hW⟩, g.2.2.1.F ht⟩) g.2.2.1.2.2 dX2_readStatement_191
        by_cases e_568 : r_1 = 24
        · refine lv_topi (fun z_569 ez_569 => ?_)
          obtain rfl : z_569 = 24 := ez_569.trans e_568
          have kb_24 : bd 24 24 (24 : Int32) := ⟨by decide, by decide⟩
          have b_570 : bd 24 24 r_1 := eqX (eq_f e_568) b_169 kb_24 (by decide)
          refine lv_tableIn (off := 67) (tgt := 157) hx hb dX2_readStatement_90 (by decide) (by decide) rfl (by decide) ?_
          refine lv_iload_n hx hb dX2_readStatement_157 rfl (lv_at hl 0 rfl) ?_
          refine lv_bipush (v := 11) hx hb dX2_readStatement_158 (by decide) ?_
          have kb_11 : bd 11 11 (11 : Int32) := ⟨by decide, by decide⟩
          refine lv_icmp_ne (tgt := 173) hx hb dX2_readStatement_160 (by decide) (fun c_571 => ?_) (fun c_571 => ?_)
          · have fc_571 := neq_f c_571
            refine lv_aload_n hx hb dX2_readStatement_173 rfl (lv_at hl 1 rfl) ?_
            have kb_1201 : bd 1201 1201 (1201 : Int32) := ⟨by decide, by decide⟩
            have go_ := g
            refine g_calli (va_runV (As := []) (rest := []) ⟨hx, hb, hml, hown, hts⟩ (r_X2_findNamed l dC dI L kd tys fr_546 H.size g.2.2.2.1 a0_ ma0_ ka0_ q0_ mq0_ kq0_ q1_ mq1_ kq1_ q3_ mq3_ kq3_ q4_ mq4_ kq4_ q9_ mq9_ kq9_ 1201 kb_1201 x_518 h_519 (g.fcts [7, 8, 10, 11, 16, 5, 6] rfl)) (cwV 0 hts (gV_ t_1388 t_1390 t_49 t_183 t_1391) rfl rfl rfl (by decide +kernel) ⟨(Nat.le_of_ble_eq_true rfl), (Nat.le_of_ble_eq_true rfl)⟩) (pre3V g hK ma0_ ka0_ (by decide) (q := (RX2, TX2, 16)) rfl) rfl rfl hl.1 rfl (lv_room (Nat.le_of_ble_eq_true rfl)) dX2_readStatement_174 ⟨(Nat.le_of_ble_eq_true rfl), (Nat.le_of_ble_eq_true rfl)⟩) g hK (by decide) (by decide) (fx' := [(7, 6, q3_, .int x_548), (7, 5, q3_, .ref a_544), (7, 4, q3_, .ref a_543), (7, 15, q3_, .int x_535), (6, 10, q5_, .int y_526), (8, 8, q0_, .int x_518), (2, 0, a0_, .ref q0_), (2, 1, a0_, .ref q1_), (2, 2, a0_, .ref q2_), (2, 3, a0_, .ref q3_), (2, 4, a0_, .ref q4_), (2, 5, a0_, .ref q5_), (0, 0, q2_, .ref q0_), (0, 1, q2_, .ref q1_), (5, 0, q1_, .ref q3_), (5, 1, q1_, .ref q9_), (2, 11, a0_, .int y0_)]) rfl (fun r_572 fr_572 H locs hp hMr_572 g => ?_)
            obtain ⟨h_573, x_574, h_575, hF_576⟩ := hp
            have hG_577 := dOK.frame hMr_572 go_.2.2.2.1 mq3_ kq3_ (by decide) (by decide) hG_547
            have hG_578 := eOK.frame hMr_572 go_.2.2.2.1 mq2_ kq2_ (by decide) (by decide) hG_551
            have g := g.more hF_576
            have kb_0 : bd 0 0 (0 : Int32) := ⟨by decide, by decide⟩
            refine lv_if_eq (tgt := 187) hx hb dX2_readStatement_177 (by decide) (fun c_579 => ?_) (fun c_579 => ?_)
            · have fc_579 := eq_f c_579
              have b_580 : bd 0 0 r_572 := eqX fc_579 h_573 kb_0 (by decide)
              refine lv_aload_n hx hb dX2_readStatement_187 rfl (lv_at hl 1 rfl) ?_
              have go_ := g
              refine g_callv (va_runV (As := []) (rest := []) ⟨hx, hb, hml, hown, hts⟩ (r_X2_readAssignment l dC dI L kd tys fr_572 H.size g.2.2.2.1 a0_ ma0_ ka0_ q0_ mq0_ kq0_ q1_ mq1_ kq1_ q2_ mq2_ kq2_ q3_ mq3_ kq3_ q4_ mq4_ kq4_ q9_ mq9_ kq9_ x_574 h_575 x_518 h_519 T_ hG_577 hG_578 (g.fcts [7, 8, 9, 10, 11, 13, 14, 15, 16, 0, 6] rfl)) (cwV 0 hts (gV_ t_1397 t_1399 t_51 t_183 t_1400) rfl rfl rfl (by decide +kernel) ⟨(Nat.le_of_ble_eq_true rfl), (Nat.le_of_ble_eq_true rfl)⟩) (pre3V g hK ma0_ ka0_ (by decide) (q := (RX2, TX2, 16)) rfl) rfl rfl hl.1 rfl (lv_room (Nat.le_of_ble_eq_true rfl)) dX2_readStatement_188 ⟨(Nat.le_of_ble_eq_true rfl), (Nat.le_of_ble_eq_true rfl)⟩) g hK (by decide) (by decide) (fx' := [(7, 5, q3_, .ref a_544), (7, 4, q3_, .ref a_543), (7, 15, q3_, .int x_535), (6, 10, q5_, .int y_526), (8, 8, q0_, .int x_518), (2, 0, a0_, .ref q0_), (2, 1, a0_, .ref q1_), (2, 2, a0_, .ref q2_), (2, 3, a0_, .ref q3_), (2, 4, a0_, .ref q4_), (2, 5, a0_, .ref q5_), (0, 0, q2_, .ref q0_), (0, 1, q2_, .ref q1_), (5, 0, q1_, .ref q3_), (5, 1, q1_, .ref q9_), (2, 11, a0_, .int y0_)]) rfl (fun fr_581 H locs hp hMr_581 g => ?_)
              obtain ⟨hG_582, x_583, h_584, hF_585⟩ := hp
              have hG_586 := eOK.frame hMr_581 go_.2.2.2.1 mq2_ kq2_ (by decide) (by decide) hG_578
              have g := g.more hF_585
              subst hQ
              exact W.vret hx hb hr (fun t ht hW => ⟨⟨_, rfl, Or.inr (⟨hG_582, hG_586, x_583, h_584, x_518, h_519, (g.fcts [0, 11] rfl)⟩), q3_of g hK ht hW⟩, g.2.2.1.F ht⟩) g.2.2.1.2.2 dX2_readStatement_191
            · have fc_579 := neq_f c_579
              have b_587 : bd 1 1 r_572 := neX fc_579 h_573 kb_0 (by decide)
              refine lv_aload_n hx hb dX2_readStatement_180 rfl (lv_at hl 1 rfl) ?_
              have go_ := g
              refine g_callv (va_runV (As := []) (rest := []) ⟨hx, hb, hml, hown, hts⟩ (r_X2_readArguments_3 l dC dI L kd tys fr_572 H.size g.2.2.2.1 a0_ ma0_ ka0_ q0_ mq0_ kq0_ q1_ mq1_ kq1_ q2_ mq2_ kq2_ q3_ mq3_ kq3_ q9_ mq9_ kq9_ x_574 h_575 x_518 h_519 T_ hG_577 hG_578 (g.fcts [7, 8, 9, 10, 13, 14, 15, 16, 0, 6] rfl)) (cwV 0 hts (gV_ t_1393 t_1395 t_50 t_183 t_1396) rfl rfl rfl (by decide +kernel) ⟨(Nat.le_of_ble_eq_true rfl), (Nat.le_of_ble_eq_true rfl)⟩) (pre3V g hK ma0_ ka0_ (by decide) (q := (RX2, TX2, 16)) rfl) rfl rfl hl.1 rfl (lv_room (Nat.le_of_ble_eq_true rfl)) dX2_readStatement_181 ⟨(Nat.le_of_ble_eq_true rfl), (Nat.le_of_ble_eq_true rfl)⟩) g hK (by decide) (by decide) (fx' := [(7, 5, q3_, .ref a_544), (7, 4, q3_, .ref a_543), (7, 15, q3_, .int x_535), (6, 10, q5_, .int y_526), (8, 8, q0_, .int x_518), (2, 0, a0_, .ref q0_), (2, 1, a0_, .ref q1_), (2, 2, a0_, .ref q2_), (2, 3, a0_, .ref q3_), (2, 4, a0_, .ref q4_), (2, 5, a0_, .ref q5_), (0, 0, q2_, .ref q0_), (0, 1, q2_, .ref q1_), (5, 0, q1_, .ref q3_), (5, 1, q1_, .ref q9_), (2, 11, a0_, .int y0_)]) rfl (fun fr_588 H locs hp hMr_588 g => ?_)
              obtain ⟨hG_589, x_590, h_591, hF_592⟩ := hp
              have hG_593 := eOK.frame hMr_588 go_.2.2.2.1 mq2_ kq2_ (by decide) (by decide) hG_578
              have g := g.more hF_592
              refine lv_goto (tgt := 191) hx hb dX2_readStatement_184 (by decide) ?_
              subst hQ
              exact W.vret hx hb hr (fun t ht hW => ⟨⟨_, rfl, Or.inr (⟨hG_589, hG_593, x_590, h_591, x_518, h_519, (g.fcts [0, 5] rfl)⟩), q3_of g hK ht hW⟩, g.2.2.1.F ht⟩) g.2.2.1.2.2 dX2_readStatement_191
          · have fc_571 := eq_f c_571
            have b_594 : bd 24 11 r_1 := eqX fc_571 b_570 kb_11 (by decide)
            exact bd_no b_594 (by decide)
        by_cases e_595 : r_1 = 25
        · refine lv_topi (fun z_596 ez_596 => ?_)
          obtain rfl : z_596 = 25 := ez_596.trans e_595
          have kb_25 : bd 25 25 (25 : Int32) := ⟨by decide, by decide⟩
          have b_597 : bd 25 25 r_1 := eqX (eq_f e_595) b_169 kb_25 (by decide)
          refine lv_tableIn (off := 45) (tgt := 135) hx hb dX2_readStatement_90 (by decide) (by decide) rfl (by decide) ?_
          refine lv_aload_n hx hb dX2_readStatement_135 rfl (lv_at hl 1 rfl) ?_
          refine lv_iload_n hx hb dX2_readStatement_136 rfl (lv_at hl 0 rfl) ?_
          have kb_1201 : bd 1201 1201 (1201 : Int32) := ⟨by decide, by decide⟩
          have go_ := g
          refine g_callv (va_runV (As := [.int r_1]) (rest := []) ⟨hx, hb, hml, hown, hts⟩ (r_X2_readTest l dC dI L kd tys fr_546 H.size g.2.2.2.1 a0_ ma0_ ka0_ r_1 q0_ mq0_ kq0_ q1_ mq1_ kq1_ q2_ mq2_ kq2_ q3_ mq3_ kq3_ q9_ mq9_ kq9_ 1201 kb_1201 x_518 h_519 T_ hG_547 hG_551 (g.fcts [7, 8, 9, 10, 13, 14, 15, 16, 5, 6] rfl)) (cwV 1 hts (gV_ t_1367 t_1369 t_45 t_183 t_1370) rfl rfl rfl (by decide +kernel) ⟨(Nat.le_of_ble_eq_true rfl), (Nat.le_of_ble_eq_true rfl)⟩) (pre3V g hK ma0_ ka0_ (by decide) (q := (RX2, TX2, 16)) rfl) rfl rfl hl.1 rfl (lv_room (Nat.le_of_ble_eq_true rfl)) dX2_readStatement_137 ⟨(Nat.le_of_ble_eq_true rfl), (Nat.le_of_ble_eq_true rfl)⟩) g hK (by decide) (by decide) (fx' := [(7, 5, q3_, .ref a_544), (7, 4, q3_, .ref a_543), (7, 15, q3_, .int x_535), (6, 10, q5_, .int y_526), (8, 8, q0_, .int x_518), (2, 0, a0_, .ref q0_), (2, 1, a0_, .ref q1_), (2, 2, a0_, .ref q2_), (2, 3, a0_, .ref q3_), (2, 4, a0_, .ref q4_), (2, 5, a0_, .ref q5_), (0, 0, q2_, .ref q0_), (0, 1, q2_, .ref q1_), (5, 0, q1_, .ref q3_), (5, 1, q1_, .ref q9_), (2, 11, a0_, .int y0_)]) rfl (fun fr_598 H locs hp hMr_598 g => ?_)
          obtain ⟨hG_599, hF_600⟩ := hp
          have hG_601 := eOK.frame hMr_598 go_.2.2.2.1 mq2_ kq2_ (by decide) (by decide) hG_551
          have g := g.more hF_600
          refine lv_goto (tgt := 191) hx hb dX2_readStatement_140 (by decide) ?_
          subst hQ
          exact W.vret hx hb hr (fun t ht hW => ⟨⟨_, rfl, Or.inr (⟨hG_599, hG_601, 1201, kb_1201, x_518, h_519, (g.fcts [0, 11] rfl)⟩), q3_of g hK ht hW⟩, g.2.2.1.F ht⟩) g.2.2.1.2.2 dX2_readStatement_191
        by_cases e_602 : r_1 = 26
        · refine lv_topi (fun z_603 ez_603 => ?_)
          obtain rfl : z_603 = 26 := ez_603.trans e_602
          have kb_26 : bd 26 26 (26 : Int32) := ⟨by decide, by decide⟩
          have b_604 : bd 26 26 r_1 := eqX (eq_f e_602) b_169 kb_26 (by decide)
          refine lv_tableIn (off := 53) (tgt := 143) hx hb dX2_readStatement_90 (by decide) (by decide) rfl (by decide) ?_
          refine lv_aload_n hx hb dX2_readStatement_143 rfl (lv_at hl 1 rfl) ?_
          have kb_1201 : bd 1201 1201 (1201 : Int32) := ⟨by decide, by decide⟩
          have go_ := g
          refine g_callv (va_runV (As := []) (rest := []) ⟨hx, hb, hml, hown, hts⟩ (r_X2_readReturn l dC dI L kd tys fr_546 H.size g.2.2.2.1 a0_ ma0_ ka0_ q0_ mq0_ kq0_ q1_ mq1_ kq1_ q2_ mq2_ kq2_ q3_ mq3_ kq3_ q9_ mq9_ kq9_ 1201 kb_1201 x_518 h_519 T_ hG_547 hG_551 (g.fcts [7, 8, 9, 10, 13, 14, 15, 16, 5, 6] rfl)) (cwV 0 hts (gV_ t_1371 t_1373 t_46 t_183 t_1374) rfl rfl rfl (by decide +kernel) ⟨(Nat.le_of_ble_eq_true rfl), (Nat.le_of_ble_eq_true rfl)⟩) (pre3V g hK ma0_ ka0_ (by decide) (q := (RX2, TX2, 16)) rfl) rfl rfl hl.1 rfl (lv_room (Nat.le_of_ble_eq_true rfl)) dX2_readStatement_144 ⟨(Nat.le_of_ble_eq_true rfl), (Nat.le_of_ble_eq_true rfl)⟩) g hK (by decide) (by decide) (fx' := [(7, 5, q3_, .ref a_544), (7, 4, q3_, .ref a_543), (7, 15, q3_, .int x_535), (6, 10, q5_, .int y_526), (8, 8, q0_, .int x_518), (2, 0, a0_, .ref q0_), (2, 1, a0_, .ref q1_), (2, 2, a0_, .ref q2_), (2, 3, a0_, .ref q3_), (2, 4, a0_, .ref q4_), (2, 5, a0_, .ref q5_), (0, 0, q2_, .ref q0_), (0, 1, q2_, .ref q1_), (5, 0, q1_, .ref q3_), (5, 1, q1_, .ref q9_), (2, 11, a0_, .int y0_)]) rfl (fun fr_605 H locs hp hMr_605 g => ?_)
          obtain ⟨hG_606, x_607, h_608, hF_609⟩ := hp
          have hG_610 := eOK.frame hMr_605 go_.2.2.2.1 mq2_ kq2_ (by decide) (by decide) hG_551
          have g := g.more hF_609
          refine lv_goto (tgt := 191) hx hb dX2_readStatement_147 (by decide) ?_
          subst hQ
          exact W.vret hx hb hr (fun t ht hW => ⟨⟨_, rfl, Or.inr (⟨hG_606, hG_610, x_607, h_608, x_518, h_519, (g.fcts [0, 11] rfl)⟩), q3_of g hK ht hW⟩, g.2.2.1.F ht⟩) g.2.2.1.2.2 dX2_readStatement_191
        by_cases e_611 : r_1 = 27
        · refine lv_topi (fun z_612 ez_612 => ?_)
          obtain rfl : z_612 = 27 := ez_612.trans e_611
          have kb_27 : bd 27 27 (27 : Int32) := ⟨by decide, by decide⟩
          have b_613 : bd 27 27 r_1 := eqX (eq_f e_611) b_169 kb_27 (by decide)
          refine lv_tableIn (off := 60) (tgt := 150) hx hb dX2_readStatement_90 (by decide) (by decide) rfl (by decide) ?_
          refine lv_aload_n hx hb dX2_readStatement_150 rfl (lv_at hl 1 rfl) ?_
          have kb_1201 : bd 1201 1201 (1201 : Int32) := ⟨by decide, by decide⟩
          have go_ := g
          refine g_callv (va_runV (As := []) (rest := []) ⟨hx, hb, hml, hown, hts⟩ (r_X2_readThrow l dC dI L kd tys fr_546 H.size g.2.2.2.1 a0_ ma0_ ka0_ q0_ mq0_ kq0_ q3_ mq3_ kq3_ 1201 kb_1201 x_518 h_519 T_ hG_547 (g.fcts [7, 10, 5, 6] rfl)) (cwV 0 hts (gV_ t_1375 t_1377 t_47 t_183 t_1378) rfl rfl rfl (by decide +kernel) ⟨(Nat.le_of_ble_eq_true rfl), (Nat.le_of_ble_eq_true rfl)⟩) (pre3V g hK ma0_ ka0_ (by decide) (q := (RX2, TX2, 16)) rfl) rfl rfl hl.1 rfl (lv_room (Nat.le_of_ble_eq_true rfl)) dX2_readStatement_151 ⟨(Nat.le_of_ble_eq_true rfl), (Nat.le_of_ble_eq_true rfl)⟩) g hK (by decide) (by decide) (fx' := [(7, 5, q3_, .ref a_544), (7, 4, q3_, .ref a_543), (7, 15, q3_, .int x_535), (6, 10, q5_, .int y_526), (8, 8, q0_, .int x_518), (2, 0, a0_, .ref q0_), (2, 1, a0_, .ref q1_), (2, 2, a0_, .ref q2_), (2, 3, a0_, .ref q3_), (2, 4, a0_, .ref q4_), (2, 5, a0_, .ref q5_), (0, 0, q2_, .ref q0_), (0, 1, q2_, .ref q1_), (5, 0, q1_, .ref q3_), (5, 1, q1_, .ref q9_), (2, 11, a0_, .int y0_)]) rfl (fun fr_614 H locs hp hMr_614 g => ?_)
          obtain ⟨hG_615, x_616, h_617, x_618, h_619, hF_620⟩ := hp
          have hG_621 := eOK.frame hMr_614 go_.2.2.2.1 mq2_ kq2_ (by decide) (by decide) hG_551
          have g := g.more hF_620
          refine lv_goto (tgt := 191) hx hb dX2_readStatement_154 (by decide) ?_
          subst hQ
          exact W.vret hx hb hr (fun t ht hW => ⟨⟨_, rfl, Or.inr (⟨hG_615, hG_621, x_616, h_617, x_518, h_519, (g.fcts [0, 6] rfl)⟩), q3_of g hK ht hW⟩, g.2.2.1.F ht⟩) g.2.2.1.2.2 dX2_readStatement_191
        refine lv_tableOut (tgt := 157) hx hb dX2_readStatement_90 (by have a0 : r_1.toInt ≠ 22 := fun h => e_552 (Int32.toInt_inj.mp (h.trans (by decide))); have a1 : r_1.toInt ≠ 23 := fun h => e_561 (Int32.toInt_inj.mp (h.trans (by decide))); have a2 : r_1.toInt ≠ 24 := fun h => e_568 (Int32.toInt_inj.mp (h.trans (by decide))); have a3 : r_1.toInt ≠ 25 := fun h => e_595 (Int32.toInt_inj.mp (h.trans (by decide))); have a4 : r_1.toInt ≠ 26 := fun h => e_602 (Int32.toInt_inj.mp (h.trans (by decide))); have a5 : r_1.toInt ≠ 27 := fun h => e_611 (Int32.toInt_inj.mp (h.trans (by decide))); omega) (by decide) ?_
        refine lv_iload_n hx hb dX2_readStatement_157 rfl (lv_at hl 0 rfl) ?_
        refine lv_bipush (v := 11) hx hb dX2_readStatement_158 (by decide) ?_
        have kb_11 : bd 11 11 (11 : Int32) := ⟨by decide, by decide⟩
        refine lv_icmp_ne (tgt := 173) hx hb dX2_readStatement_160 (by decide) (fun c_622 => ?_) (fun c_622 => ?_)
        · have fc_622 := neq_f c_622
          refine lv_aload_n hx hb dX2_readStatement_173 rfl (lv_at hl 1 rfl) ?_
          have kb_1201 : bd 1201 1201 (1201 : Int32) := ⟨by decide, by decide⟩
          have go_ := g
          refine g_calli (va_runV (As := []) (rest := []) ⟨hx, hb, hml, hown, hts⟩ (r_X2_findNamed l dC dI L kd tys fr_546 H.size g.2.2.2.1 a0_ ma0_ ka0_ q0_ mq0_ kq0_ q1_ mq1_ kq1_ q3_ mq3_ kq3_ q4_ mq4_ kq4_ q9_ mq9_ kq9_ 1201 kb_1201 x_518 h_519 (g.fcts [7, 8, 10, 11, 16, 5, 6] rfl)) (cwV 0 hts (gV_ t_1388 t_1390 t_49 t_183 t_1391) rfl rfl rfl (by decide +kernel) ⟨(Nat.le_of_ble_eq_true rfl), (Nat.le_of_ble_eq_true rfl)⟩) (pre3V g hK ma0_ ka0_ (by decide) (q := (RX2, TX2, 16)) rfl) rfl rfl hl.1 rfl (lv_room (Nat.le_of_ble_eq_true rfl)) dX2_readStatement_174 ⟨(Nat.le_of_ble_eq_true rfl), (Nat.le_of_ble_eq_true rfl)⟩) g hK (by decide) (by decide) (fx' := [(7, 6, q3_, .int x_548), (7, 5, q3_, .ref a_544), (7, 4, q3_, .ref a_543), (7, 15, q3_, .int x_535), (6, 10, q5_, .int y_526), (8, 8, q0_, .int x_518), (2, 0, a0_, .ref q0_), (2, 1, a0_, .ref q1_), (2, 2, a0_, .ref q2_), (2, 3, a0_, .ref q3_), (2, 4, a0_, .ref q4_), (2, 5, a0_, .ref q5_), (0, 0, q2_, .ref q0_), (0, 1, q2_, .ref q1_), (5, 0, q1_, .ref q3_), (5, 1, q1_, .ref q9_), (2, 11, a0_, .int y0_)]) rfl (fun r_623 fr_623 H locs hp hMr_623 g => ?_)
          obtain ⟨h_624, x_625, h_626, hF_627⟩ := hp
          have hG_628 := dOK.frame hMr_623 go_.2.2.2.1 mq3_ kq3_ (by decide) (by decide) hG_547
          have hG_629 := eOK.frame hMr_623 go_.2.2.2.1 mq2_ kq2_ (by decide) (by decide) hG_551
          have g := g.more hF_627
          have kb_0 : bd 0 0 (0 : Int32) := ⟨by decide, by decide⟩
          refine lv_if_eq (tgt := 187) hx hb dX2_readStatement_177 (by decide) (fun c_630 => ?_) (fun c_630 => ?_)
          · have fc_630 := eq_f c_630
            have b_631 : bd 0 0 r_623 := eqX fc_630 h_624 kb_0 (by decide)
            refine lv_aload_n hx hb dX2_readStatement_187 rfl (lv_at hl 1 rfl) ?_
            have go_ := g
            refine g_callv (va_runV (As := []) (rest := []) ⟨hx, hb, hml, hown, hts⟩ (r_X2_readAssignment l dC dI L kd tys fr_623 H.size g.2.2.2.1 a0_ ma0_ ka0_ q0_ mq0_ kq0_ q1_ mq1_ kq1_ q2_ mq2_ kq2_ q3_ mq3_ kq3_ q4_ mq4_ kq4_ q9_ mq9_ kq9_ x_625 h_626 x_518 h_519 T_ hG_628 hG_629 (g.fcts [7, 8, 9, 10, 11, 13, 14, 15, 16, 0, 6] rfl)) (cwV 0 hts (gV_ t_1397 t_1399 t_51 t_183 t_1400) rfl rfl rfl (by decide +kernel) ⟨(Nat.le_of_ble_eq_true rfl), (Nat.le_of_ble_eq_true rfl)⟩) (pre3V g hK ma0_ ka0_ (by decide) (q := (RX2, TX2, 16)) rfl) rfl rfl hl.1 rfl (lv_room (Nat.le_of_ble_eq_true rfl)) dX2_readStatement_188 ⟨(Nat.le_of_ble_eq_true rfl), (Nat.le_of_ble_eq_true rfl)⟩) g hK (by decide) (by decide) (fx' := [(7, 5, q3_, .ref a_544), (7, 4, q3_, .ref a_543), (7, 15, q3_, .int x_535), (6, 10, q5_, .int y_526), (8, 8, q0_, .int x_518), (2, 0, a0_, .ref q0_), (2, 1, a0_, .ref q1_), (2, 2, a0_, .ref q2_), (2, 3, a0_, .ref q3_), (2, 4, a0_, .ref q4_), (2, 5, a0_, .ref q5_), (0, 0, q2_, .ref q0_), (0, 1, q2_, .ref q1_), (5, 0, q1_, .ref q3_), (5, 1, q1_, .ref q9_), (2, 11, a0_, .int y0_)]) rfl (fun fr_632 H locs hp hMr_632 g => ?_)
            obtain ⟨hG_633, x_634, h_635, hF_636⟩ := hp
            have hG_637 := eOK.frame hMr_632 go_.2.2.2.1 mq2_ kq2_ (by decide) (by decide) hG_629
            have g := g.more hF_636
            subst hQ
            exact W.vret hx hb hr (fun t ht hW => ⟨⟨_, rfl, Or.inr (⟨hG_633, hG_637, x_634, h_635, x_518, h_519, (g.fcts [0, 11] rfl)⟩), q3_of g hK ht hW⟩, g.2.2.1.F ht⟩) g.2.2.1.2.2 dX2_readStatement_191
          · have fc_630 := neq_f c_630
            have b_638 : bd 1 1 r_623 := neX fc_630 h_624 kb_0 (by decide)
            refine lv_aload_n hx hb dX2_readStatement_180 rfl (lv_at hl 1 rfl) ?_
            have go_ := g
            refine g_callv (va_runV (As := []) (rest := []) ⟨hx, hb, hml, hown, hts⟩ (r_X2_readArguments_3 l dC dI L kd tys fr_623 H.size g.2.2.2.1 a0_ ma0_ ka0_ q0_ mq0_ kq0_ q1_ mq1_ kq1_ q2_ mq2_ kq2_ q3_ mq3_ kq3_ q9_ mq9_ kq9_ x_625 h_626 x_518 h_519 T_ hG_628 hG_629 (g.fcts [7, 8, 9, 10, 13, 14, 15, 16, 0, 6] rfl)) (cwV 0 hts (gV_ t_1393 t_1395 t_50 t_183 t_1396) rfl rfl rfl (by decide +kernel) ⟨(Nat.le_of_ble_eq_true rfl), (Nat.le_of_ble_eq_true rfl)⟩) (pre3V g hK ma0_ ka0_ (by decide) (q := (RX2, TX2, 16)) rfl) rfl rfl hl.1 rfl (lv_room (Nat.le_of_ble_eq_true rfl)) dX2_readStatement_181 ⟨(Nat.le_of_ble_eq_true rfl), (Nat.le_of_ble_eq_true rfl)⟩) g hK (by decide) (by decide) (fx' := [(7, 5, q3_, .ref a_544), (7, 4, q3_, .ref a_543), (7, 15, q3_, .int x_535), (6, 10, q5_, .int y_526), (8, 8, q0_, .int x_518), (2, 0, a0_, .ref q0_), (2, 1, a0_, .ref q1_), (2, 2, a0_, .ref q2_), (2, 3, a0_, .ref q3_), (2, 4, a0_, .ref q4_), (2, 5, a0_, .ref q5_), (0, 0, q2_, .ref q0_), (0, 1, q2_, .ref q1_), (5, 0, q1_, .ref q3_), (5, 1, q1_, .ref q9_), (2, 11, a0_, .int y0_)]) rfl (fun fr_639 H locs hp hMr_639 g => ?_)
            obtain ⟨hG_640, x_641, h_642, hF_643⟩ := hp
            have hG_644 := eOK.frame hMr_639 go_.2.2.2.1 mq2_ kq2_ (by decide) (by decide) hG_629
            have g := g.more hF_643
            refine lv_goto (tgt := 191) hx hb dX2_readStatement_184 (by decide) ?_
            subst hQ
            exact W.vret hx hb hr (fun t ht hW => ⟨⟨_, rfl, Or.inr (⟨hG_640, hG_644, x_641, h_642, x_518, h_519, (g.fcts [0, 5] rfl)⟩), q3_of g hK ht hW⟩, g.2.2.1.F ht⟩) g.2.2.1.2.2 dX2_readStatement_191
        · have fc_622 := eq_f c_622
          have b_645 : bd 11 11 r_1 := eqX fc_622 b_169 kb_11 (by decide)
          refine lv_aload_n hx hb dX2_readStatement_163 rfl (lv_at hl 1 rfl) ?_
          have kb_1201 : bd 1201 1201 (1201 : Int32) := ⟨by decide, by decide⟩
          have go_ := g
          refine g_calli (va_runV (As := []) (rest := []) ⟨hx, hb, hml, hown, hts⟩ (r_X2_findAbove l dC dI L kd tys fr_546 H.size g.2.2.2.1 a0_ ma0_ ka0_ q0_ mq0_ kq0_ q3_ mq3_ kq3_ q4_ mq4_ kq4_ 1201 kb_1201 x_518 h_519 (g.fcts [7, 10, 11, 5, 6] rfl)) (cwV 0 hts (gV_ t_1383 t_1385 t_48 t_183 t_1386) rfl rfl rfl (by decide +kernel) ⟨(Nat.le_of_ble_eq_true rfl), (Nat.le_of_ble_eq_true rfl)⟩) (pre3V g hK ma0_ ka0_ (by decide) (q := (RX2, TX2, 16)) rfl) rfl rfl hl.1 rfl (lv_room (Nat.le_of_ble_eq_true rfl)) dX2_readStatement_164 ⟨(Nat.le_of_ble_eq_true rfl), (Nat.le_of_ble_eq_true rfl)⟩) g hK (by decide) (by decide) (fx' := [(7, 6, q3_, .int x_548), (7, 5, q3_, .ref a_544), (7, 4, q3_, .ref a_543), (7, 15, q3_, .int x_535), (6, 10, q5_, .int y_526), (8, 8, q0_, .int x_518), (2, 0, a0_, .ref q0_), (2, 1, a0_, .ref q1_), (2, 2, a0_, .ref q2_), (2, 3, a0_, .ref q3_), (2, 4, a0_, .ref q4_), (2, 5, a0_, .ref q5_), (0, 0, q2_, .ref q0_), (0, 1, q2_, .ref q1_), (5, 0, q1_, .ref q3_), (5, 1, q1_, .ref q9_), (2, 11, a0_, .int y0_)]) rfl (fun r_646 fr_646 H locs hp hMr_646 g => ?_)
          obtain ⟨h_647, hF_648⟩ := hp
          have hG_649 := dOK.frame hMr_646 go_.2.2.2.1 mq3_ kq3_ (by decide) (by decide) hG_547
          have hG_650 := eOK.frame hMr_646 go_.2.2.2.1 mq2_ kq2_ (by decide) (by decide) hG_551
          obtain rfl : r_646 = 1 := h_647
          have g := g.more hF_648
          refine lv_if_eq (tgt := 187) hx hb dX2_readStatement_167 (by decide) (fun c_ => absurd c_ (by decide)) (fun c_ => ?_)
          refine lv_goto (tgt := 180) hx hb dX2_readStatement_170 (by decide) ?_
          refine lv_aload_n hx hb dX2_readStatement_180 rfl (lv_at hl 1 rfl) ?_
          have go_ := g
          refine g_callv (va_runV (As := []) (rest := []) ⟨hx, hb, hml, hown, hts⟩ (r_X2_readArguments_3 l dC dI L kd tys fr_646 H.size g.2.2.2.1 a0_ ma0_ ka0_ q0_ mq0_ kq0_ q1_ mq1_ kq1_ q2_ mq2_ kq2_ q3_ mq3_ kq3_ q9_ mq9_ kq9_ 1201 kb_1201 x_518 h_519 T_ hG_649 hG_650 (g.fcts [7, 8, 9, 10, 13, 14, 15, 16, 0, 6] rfl)) (cwV 0 hts (gV_ t_1393 t_1395 t_50 t_183 t_1396) rfl rfl rfl (by decide +kernel) ⟨(Nat.le_of_ble_eq_true rfl), (Nat.le_of_ble_eq_true rfl)⟩) (pre3V g hK ma0_ ka0_ (by decide) (q := (RX2, TX2, 16)) rfl) rfl rfl hl.1 rfl (lv_room (Nat.le_of_ble_eq_true rfl)) dX2_readStatement_181 ⟨(Nat.le_of_ble_eq_true rfl), (Nat.le_of_ble_eq_true rfl)⟩) g hK (by decide) (by decide) (fx' := [(7, 5, q3_, .ref a_544), (7, 4, q3_, .ref a_543), (7, 15, q3_, .int x_535), (6, 10, q5_, .int y_526), (8, 8, q0_, .int x_518), (2, 0, a0_, .ref q0_), (2, 1, a0_, .ref q1_), (2, 2, a0_, .ref q2_), (2, 3, a0_, .ref q3_), (2, 4, a0_, .ref q4_), (2, 5, a0_, .ref q5_), (0, 0, q2_, .ref q0_), (0, 1, q2_, .ref q1_), (5, 0, q1_, .ref q3_), (5, 1, q1_, .ref q9_), (2, 11, a0_, .int y0_)]) rfl (fun fr_651 H locs hp hMr_651 g => ?_)
          obtain ⟨hG_652, x_653, h_654, hF_655⟩ := hp
          have hG_656 := eOK.frame hMr_651 go_.2.2.2.1 mq2_ kq2_ (by decide) (by decide) hG_650
          have g := g.more hF_655
          refine lv_goto (tgt := 191) hx hb dX2_readStatement_184 (by decide) ?_
          subst hQ
          exact W.vret hx hb hr (fun t ht hW => ⟨⟨_, rfl, Or.inr (⟨hG_652, hG_656, x_653, h_654, x_518, h_519, (g.fcts [0, 5] rfl)⟩), q3_of g hK ht hW⟩, g.2.2.1.F ht⟩) g.2.2.1.2.2 dX2_readStatement_191
  · have fc_7 := eq_f c_7
    have b_657 : bd 125 125 r_1 := eqX fc_7 (bdT r_1) kb_125 (by decide)
    refine lv_aload_n hx hb dX2_readStatement_14 rfl (lv_at hl 1 rfl) ?_
    have go_ := g
    refine g_callv (va_runV (As := []) (rest := []) ⟨hx, hb, hml, hown, hts⟩ (r_X2_closeBlock l dC dI L kd tys fr_1 H.size g.2.2.2.1 a0_ ma0_ ka0_ q0_ mq0_ kq0_ q3_ mq3_ kq3_ y0_ by0_ y1_ by1_ T_ (fun j9 => jOK fr_1 q3_ j9) hG_2 hG_4 hG_3 (fun _ h9 => h9) (g.fcts [0, 3, 10, 11] rfl)) (cwV 0 hts (gV_ t_1346 t_1348 t_42 t_183 t_1349) rfl rfl rfl (by decide +kernel) ⟨(Nat.le_of_ble_eq_true rfl), (Nat.le_of_ble_eq_true rfl)⟩) (pre3V g hK ma0_ ka0_ (by decide) (q := (RX2, TX2, 16)) rfl) rfl rfl hl.1 rfl (lv_room (Nat.le_of_ble_eq_true rfl)) dX2_readStatement_15 ⟨(Nat.le_of_ble_eq_true rfl), (Nat.le_of_ble_eq_true rfl)⟩) g hK (by decide) (by decide) (fx' := [(2, 0, a0_, .ref q0_), (2, 1, a0_, .ref q1_), (2, 2, a0_, .ref q2_), (2, 3, a0_, .ref q3_), (2, 4, a0_, .ref q4_), (2, 5, a0_, .ref q5_), (0, 0, q2_, .ref q0_), (0, 1, q2_, .ref q1_), (5, 0, q1_, .ref q3_), (5, 1, q1_, .ref q9_)]) rfl (fun fr_658 H locs hp hMr_658 g => ?_)
    rcases hp with ⟨hG_659, hG_660, hG_661, hG_662, x_663, h_664, hF_665⟩ | ⟨hG_666, hG_667, hG_668, hG_669, x_670, h_671, hF_672⟩
    · have hG_673 := eOK.frame hMr_658 go_.2.2.2.1 mq2_ kq2_ (by decide) (by decide) hG_6
      have g := g.more hF_665
      have hs_674 := jS.mv hG_5 hG_662
      subst hQ
      exact W.vret hx hb hr (fun t ht hW => ⟨⟨_, rfl, Or.inl ⟨hG_659, hG_661, hG_660, hs_674, hG_673, x_663, h_664, (g.fcts [0, 1] rfl)⟩, q3_of g hK ht hW⟩, g.2.2.1.F ht⟩) g.2.2.1.2.2 dX2_readStatement_18
    · have hG_675 := eOK.frame hMr_658 go_.2.2.2.1 mq2_ kq2_ (by decide) (by decide) hG_6
      have g := g.more hF_672
      have hs_676 := jS.mv hG_5 hG_669
      have kb_1201 : bd 1201 1201 (1201 : Int32) := ⟨by decide, by decide⟩
      subst hQ
      exact W.vret hx hb hr (fun t ht hW => ⟨⟨_, rfl, Or.inr (⟨hG_668, hG_675, 1201, kb_1201, x_670, h_671, (g.fcts [0, 1] rfl)⟩), q3_of g hK ht hW⟩, g.2.2.1.F ht⟩) g.2.2.1.2.2 dX2_readStatement_18
