set_option maxHeartbeats 4000000 in
set_option maxRecDepth 100000 in
theorem r_X2_readStatement (l : Launch) (dC : Nat → ClassId) (dI : Nat → Nat → Nat) (L : List Nat) (kd : Nat → Nat) (tys : List (ClassId × FieldType)) (f0 : Nat → va_E) (sz : Nat) (hWT : WT L kd tys f0) (a0_ : Nat) (ma0_ : a0_ ∈ L) (ka0_ : kd a0_ = 2) (q0_ : Nat) (mq0_ : q0_ ∈ L) (kq0_ : kd q0_ = 8) (q1_ : Nat) (mq1_ : q1_ ∈ L) (kq1_ : kd q1_ = 5) (q2_ : Nat) (mq2_ : q2_ ∈ L) (kq2_ : kd q2_ = 0) (q3_ : Nat) (mq3_ : q3_ ∈ L) (kq3_ : kd q3_ = 7) (q4_ : Nat) (mq4_ : q4_ ∈ L) (kq4_ : kd q4_ = 9) (q5_ : Nat) (mq5_ : q5_ ∈ L) (kq5_ : kd q5_ = 6) (q9_ : Nat) (mq9_ : q9_ ∈ L) (kq9_ : kd q9_ = 9) (y0_ : Int32) (by0_ : bd 1 8 y0_) (y1_ : Int32) (by1_ : bd 0 0 y1_) (T_ : Nat) (J_ : Int32 → Prop) (hGba0_ : bJx f0 a0_) (hGdq3_ : dOK L kd f0 q3_ T_) (hGcq3_ : cOK f0 q3_) (hGsq3_ : jS f0 q3_ J_) (hGeq2_ : eOK f0 q2_) (hfx : Fs L kd f0 [(2, 0, a0_, .ref q0_), (2, 1, a0_, .ref q1_), (2, 2, a0_, .ref q2_), (2, 3, a0_, .ref q3_), (2, 4, a0_, .ref q4_), (2, 5, a0_, .ref q5_), (0, 0, q2_, .ref q0_), (0, 1, q2_, .ref q1_), (5, 0, q1_, .ref q3_), (5, 1, q1_, .ref q9_), (2, 11, a0_, .int y0_), (8, 8, q0_, .int y1_)]) : Met l yX2_readStatement (.code yX2_readStatement cX2_readStatement 2 none :: lw_g) ({ frames := 5, cells := 0, slots := 0, locals := 122 }) (va_Pc [.ref a0_] (P3 (dC, dI) L tys f0 sz)) (va_Qv (fun (f : Nat → va_E) => (bJx f a0_ ∧ dOK L kd f q3_ T_ ∧ cOK f q3_ ∧ jS f q3_ J_ ∧ eOK f q2_ ∧ ∃ z0_ : Int32, bd 1 1201 z0_ ∧ Fs L kd f [(8, 6, q0_, .int z0_), (8, 8, q0_, .int y1_)]) ∨ (dOK L kd f q3_ T_ ∧ eOK f q2_ ∧ ∃ z0_ : Int32, bd 1201 1201 z0_ ∧ ∃ z1_ : Int32, bd 1 7 z1_ ∧ Fs L kd f [(8, 6, q0_, .int z0_), (8, 8, q0_, .int z1_)])) (Q3 (dC, dI) L kd tys [(0, 2), (0, 8), (0, 10), (0, 11), (0, 12), (0, 13), (2, 11), (2, 12), (2, 13), (2, 14), (2, 15), (5, 6), (6, 10), (7, 6), (7, 15), (7, 17), (7, 18), (8, 6), (8, 8), (8, 9)] [110, 111, 112, 113, 114, 115, 118, 119, 120, 121, 133, 138, 139, 146, 147] f0 sz) (pA L sz)) 0 0 (pA L sz) := by
  refine Met.ofW (cc := cX2_readStatement) (maxL := 2) (ret := none) (by decide) rfl ?_
  intro p e s m args below meth c s₁ B hml hv
  obtain ⟨rfl, hsz, hP, hK, hD0⟩ := hv
  have hx := B.exec
  have hb := B.bytes
  have hr := B.returns
  have hts := atoms_spec (ws := (.code yX2_readStatement cX2_readStatement 2 none :: lw_g)) B.pre
  have hown : s.vm.findClass RX2 = some m.cls := findClass_of_methodNamed B.named
  have hlocks := B.notSynchronized
  subst hsz
  have g : G3 (dC, dI) L kd tys s f0 [(0, 2), (0, 8), (0, 10), (0, 11), (0, 12), (0, 13), (2, 11), (2, 12), (2, 13), (2, 14), (2, 15), (5, 6), (6, 10), (7, 6), (7, 15), (7, 17), (7, 18), (8, 6), (8, 8), (8, 9)] [110, 111, 112, 113, 114, 115, 118, 119, 120, 121, 133, 138, 139, 146, 147] f0 s.heap [] [(2, 0, a0_, .ref q0_), (2, 1, a0_, .ref q1_), (2, 2, a0_, .ref q2_), (2, 3, a0_, .ref q3_), (2, 4, a0_, .ref q4_), (2, 5, a0_, .ref q5_), (0, 0, q2_, .ref q0_), (0, 1, q2_, .ref q1_), (5, 0, q1_, .ref q3_), (5, 1, q1_, .ref q9_), (2, 11, a0_, .int y0_), (8, 8, q0_, .int y1_)] := G3.start hP hD0 hWT hfx
  have hl := lv_entry ([.ref a0_]) (n := 2) (Nat.le_of_ble_eq_true rfl)
  rw [lg_entry_eq]
  generalize (lg_sl ([.ref a0_]) ++ List.replicate (2 - (lg_sl ([.ref a0_])).length) Slot.unset).toArray = ls at hl ⊢
  have hl : lv_has ls 2 [(0, .ref a0_)] := hl
  refine W_q (fun Q hQ => ?_)
  refine lv_aload_n hx hb dX2_readStatement_0 rfl (lv_at hl 0 rfl) ?_
  refine g_getk (C := RX2) (T := TX2) (N := 16) hx hb hts (mc_ inX2) hown hK g rfl 0 (by decide) rfl (hts _ (List.mem_cons_of_mem _ t_416)) (fun _ h9 => h9) 0 rfl dX2_readStatement_1 ?_
  have go_ := g
  refine g_calli (va_runV (As := []) (rest := []) ⟨hx, hb, hml, hown, hts⟩ (r_X8_kind l dC dI L kd tys f0 s.heap.size g.2.2.2.1 q0_ mq0_ kq0_) (cwV 0 hts (gV_ t_1118 t_1119 t_1120 t_184 t_1121) rfl rfl rfl (by decide +kernel) ⟨(Nat.le_of_ble_eq_true rfl), (Nat.le_of_ble_eq_true rfl)⟩) (pre3V g hK mq0_ kq0_ (by decide) (q := (RX8, TX8, 10)) rfl) rfl rfl hl.1 rfl (lv_room (Nat.le_of_ble_eq_true rfl)) dX2_readStatement_4 ⟨(Nat.le_of_ble_eq_true rfl), (Nat.le_of_ble_eq_true rfl)⟩) g hK (by decide) (by decide) (fx' := [(2, 0, a0_, .ref q0_), (2, 1, a0_, .ref q1_), (2, 2, a0_, .ref q2_), (2, 3, a0_, .ref q3_), (2, 4, a0_, .ref q4_), (2, 5, a0_, .ref q5_), (0, 0, q2_, .ref q0_), (0, 1, q2_, .ref q1_), (5, 0, q1_, .ref q3_), (5, 1, q1_, .ref q9_), (2, 11, a0_, .int y0_), (8, 8, q0_, .int y1_)]) rfl (fun r_1 fr_1 H locs hp hMr_1 g => ?_)
  have hG_2 := bJx.frame hMr_1 go_.2.2.2.1 ma0_ ka0_ (by decide) (by decide) hGba0_
  have hG_3 := dOK.frame hMr_1 go_.2.2.2.1 mq3_ kq3_ (by decide) (by decide) hGdq3_
  have hG_4 := cOK.frame hMr_1 go_.2.2.2.1 mq3_ kq3_ (by decide) (by decide) hGcq3_
  have hG_5 := jS.frame hMr_1 go_.2.2.2.1 mq3_ kq3_ (by decide) (by decide) hGsq3_
  have hG_6 := eOK.frame hMr_1 go_.2.2.2.1 mq2_ kq2_ (by decide) (by decide) hGeq2_
  refine lv_istore_n (lv' := [(1, .int r_1), (0, .ref a0_)]) hx hb dX2_readStatement_7 rfl hl (by decide) rfl (fun ls hl => ?_)
  refine lv_iload_n hx hb dX2_readStatement_8 rfl (lv_at hl 0 rfl) ?_
  refine lv_bipush (v := 125) hx hb dX2_readStatement_9 (by decide) ?_
  have kb_125 : bd 125 125 (125 : Int32) := ⟨by decide, by decide⟩
  refine lv_icmp_ne (tgt := 19) hx hb dX2_readStatement_11 (by decide) (fun c_7 => ?_) (fun c_7 => ?_)
  · have fc_7 := neq_f c_7
    refine lv_iload_n hx hb dX2_readStatement_19 rfl (lv_at hl 0 rfl) ?_
    have go_ := g
    refine g_calli (va_runS (As := [.int r_1]) (rest := []) ⟨hx, hb, hml, hown, hts⟩ (r_X2_startsStatement l dC dI L kd tys fr_1 H.size g.2.2.2.1 r_1) (va_cwS 1 hts (gS_ t_1351 t_1352 t_183 t_1353) rfl rfl rfl (by decide +kernel) ⟨(Nat.le_of_ble_eq_true rfl), (Nat.le_of_ble_eq_true rfl)⟩) (pre3S g hK) rfl rfl hl.1 rfl (lv_room (Nat.le_of_ble_eq_true rfl)) dX2_readStatement_20 ⟨(Nat.le_of_ble_eq_true rfl), (Nat.le_of_ble_eq_true rfl)⟩) g hK (by decide) (by decide) (fx' := [(2, 0, a0_, .ref q0_), (2, 1, a0_, .ref q1_), (2, 2, a0_, .ref q2_), (2, 3, a0_, .ref q3_), (2, 4, a0_, .ref q4_), (2, 5, a0_, .ref q5_), (0, 0, q2_, .ref q0_), (0, 1, q2_, .ref q1_), (5, 0, q1_, .ref q3_), (5, 1, q1_, .ref q9_), (2, 11, a0_, .int y0_), (8, 8, q0_, .int y1_)]) rfl (fun r_8 fr_8 H locs hp hMr_8 g => ?_)
    rcases hp with ⟨h_9, -⟩ | ⟨h_10, h_11, -⟩
    · have hG_12 := bJx.frame hMr_8 go_.2.2.2.1 ma0_ ka0_ (by decide) (by decide) hG_2
      have hG_13 := dOK.frame hMr_8 go_.2.2.2.1 mq3_ kq3_ (by decide) (by decide) hG_3
      have hG_14 := cOK.frame hMr_8 go_.2.2.2.1 mq3_ kq3_ (by decide) (by decide) hG_4
      have hG_15 := jS.frame hMr_8 go_.2.2.2.1 mq3_ kq3_ (by decide) (by decide) hG_5
      have hG_16 := eOK.frame hMr_8 go_.2.2.2.1 mq2_ kq2_ (by decide) (by decide) hG_6
      obtain rfl : r_8 = 0 := h_9
      refine lv_if_ne (tgt := 44) hx hb dX2_readStatement_23 (by decide) (fun c_ => absurd c_ (by decide)) (fun c_ => ?_)
      refine lv_aload_n hx hb dX2_readStatement_26 rfl (lv_at hl 1 rfl) ?_
      refine g_getk (C := RX2) (T := TX2) (N := 16) hx hb hts (mc_ inX2) hown hK g rfl 0 (by decide) rfl (hts _ (List.mem_cons_of_mem _ t_416)) (fun _ h9 => h9) 0 rfl dX2_readStatement_27 ?_
      refine lv_iconst (v := 1) hx hb dX2_readStatement_30 (by decide) ?_
      refine lv_aload_n hx hb dX2_readStatement_31 rfl (lv_at hl 1 rfl) ?_
      refine g_getk (C := RX2) (T := TX2) (N := 16) hx hb hts (mc_ inX2) hown hK g rfl 0 (by decide) rfl (hts _ (List.mem_cons_of_mem _ t_416)) (fun _ h9 => h9) 0 rfl dX2_readStatement_32 ?_
      have go_ := g
      refine g_calli (va_runV (As := []) (rest := [.int 1, .ref q0_]) ⟨hx, hb, hml, hown, hts⟩ (r_X8_place l dC dI L kd tys fr_8 H.size g.2.2.2.1 q0_ mq0_ kq0_) (cwV 0 hts (gV_ t_1110 t_1111 t_1112 t_184 t_1113) rfl rfl rfl (by decide +kernel) ⟨(Nat.le_of_ble_eq_true rfl), (Nat.le_of_ble_eq_true rfl)⟩) (pre3V g hK mq0_ kq0_ (by decide) (q := (RX8, TX8, 10)) rfl) rfl rfl hl.1 rfl (lv_room (Nat.le_of_ble_eq_true rfl)) dX2_readStatement_35 ⟨(Nat.le_of_ble_eq_true rfl), (Nat.le_of_ble_eq_true rfl)⟩) g hK (by decide) (by decide) (fx' := [(2, 0, a0_, .ref q0_), (2, 1, a0_, .ref q1_), (2, 2, a0_, .ref q2_), (2, 3, a0_, .ref q3_), (2, 4, a0_, .ref q4_), (2, 5, a0_, .ref q5_), (0, 0, q2_, .ref q0_), (0, 1, q2_, .ref q1_), (5, 0, q1_, .ref q3_), (5, 1, q1_, .ref q9_), (2, 11, a0_, .int y0_), (8, 8, q0_, .int y1_)]) rfl (fun r_17 fr_17 H locs hp hMr_17 g => ?_)
      have hG_18 := bJx.frame hMr_17 go_.2.2.2.1 ma0_ ka0_ (by decide) (by decide) hG_12
      have hG_19 := dOK.frame hMr_17 go_.2.2.2.1 mq3_ kq3_ (by decide) (by decide) hG_13
      have hG_20 := cOK.frame hMr_17 go_.2.2.2.1 mq3_ kq3_ (by decide) (by decide) hG_14
      have hG_21 := jS.frame hMr_17 go_.2.2.2.1 mq3_ kq3_ (by decide) (by decide) hG_15
      have hG_22 := eOK.frame hMr_17 go_.2.2.2.1 mq2_ kq2_ (by decide) (by decide) hG_16
      have kb_1 : bd 1 1 (1 : Int32) := ⟨by decide, by decide⟩
      have go_ := g
      refine g_callv (va_runV (As := [.int 1, .int r_17]) (rest := []) ⟨hx, hb, hml, hown, hts⟩ (r_X8_fail l dC dI L kd tys fr_17 H.size g.2.2.2.1 q0_ mq0_ kq0_ 1 (bd_sub kb_1 (by decide)) r_17 y1_ by1_ (g.fcts [11] rfl)) (cwV 2 hts (gV_ t_1122 t_1107 t_1108 t_184 t_1109) rfl rfl rfl (by decide +kernel) ⟨(Nat.le_of_ble_eq_true rfl), (Nat.le_of_ble_eq_true rfl)⟩) (pre3V g hK mq0_ kq0_ (by decide) (q := (RX8, TX8, 10)) rfl) rfl rfl hl.1 rfl (lv_room (Nat.le_of_ble_eq_true rfl)) dX2_readStatement_38 ⟨(Nat.le_of_ble_eq_true rfl), (Nat.le_of_ble_eq_true rfl)⟩) g hK (by decide) (by decide) (fx' := [(2, 0, a0_, .ref q0_), (2, 1, a0_, .ref q1_), (2, 2, a0_, .ref q2_), (2, 3, a0_, .ref q3_), (2, 4, a0_, .ref q4_), (2, 5, a0_, .ref q5_), (0, 0, q2_, .ref q0_), (0, 1, q2_, .ref q1_), (5, 0, q1_, .ref q3_), (5, 1, q1_, .ref q9_), (2, 11, a0_, .int y0_)]) rfl (fun fr_23 H locs hp hMr_23 g => ?_)
      obtain ⟨x_24, h_25, hF_26⟩ := hp
      have hG_27 := bJx.frame hMr_23 go_.2.2.2.1 ma0_ ka0_ (by decide) (by decide) hG_18
      have hG_28 := dOK.frame hMr_23 go_.2.2.2.1 mq3_ kq3_ (by decide) (by decide) hG_19
      have hG_29 := cOK.frame hMr_23 go_.2.2.2.1 mq3_ kq3_ (by decide) (by decide) hG_20
      have hG_30 := jS.frame hMr_23 go_.2.2.2.1 mq3_ kq3_ (by decide) (by decide) hG_21
      have hG_31 := eOK.frame hMr_23 go_.2.2.2.1 mq2_ kq2_ (by decide) (by decide) hG_22
      have g := g.more hF_26
      refine lv_goto (tgt := 60) hx hb dX2_readStatement_41 (by decide) ?_
      refine lv_aload_n hx hb dX2_readStatement_60 rfl (lv_at hl 1 rfl) ?_
      refine g_getk (C := RX2) (T := TX2) (N := 16) hx hb hts (mc_ inX2) hown hK g rfl 5 (by decide) rfl (hts _ (List.mem_cons_of_mem _ t_421)) (fun _ h9 => h9) 7 rfl dX2_readStatement_61 ?_
      refine lv_dup hx hb dX2_readStatement_64 rfl ?_
      refine g_geti (C := RX6) (T := TX6) (N := 13) hx hb hts (mc_ inX6) hown hK g mq5_ kq5_ (by decide) rfl 10 (by decide) rfl (hts _ (List.mem_cons_of_mem _ t_588)) (fun _ h9 => h9) rfl dX2_readStatement_65 (fun x_32 bx_32 g => ?_)
      refine lv_iconst (v := 1) hx hb dX2_readStatement_68 (by decide) ?_
      refine lv_iadd hx hb dX2_readStatement_69 ?_
      refine lv_topi (fun y_33 ey_33 => ?_)
      have go_ := g
      refine g_put (C := RX6) (T := TX6) (N := 13) hx hb hts (mc_ inX6) tyX6 tyX6_ok nmX6 hown hK g mq5_ kq5_ (by decide) rfl 10 (by decide) (hts _ (List.mem_cons_of_mem _ t_588)) (fun _ h9 => h9) rfl rfl (okV_i (bdT y_33)) rfl rfl (by decide) (Or.inr (Or.inl (by decide))) (fx' := [(8, 6, q0_, .int 1201), (8, 8, q0_, .int x_24), (2, 0, a0_, .ref q0_), (2, 1, a0_, .ref q1_), (2, 2, a0_, .ref q2_), (2, 3, a0_, .ref q3_), (2, 4, a0_, .ref q4_), (2, 5, a0_, .ref q5_), (0, 0, q2_, .ref q0_), (0, 1, q2_, .ref q1_), (5, 0, q1_, .ref q3_), (5, 1, q1_, .ref q9_), (2, 11, a0_, .int y0_)]) rfl dX2_readStatement_70 (fun f H locs hM_34 g => ?_)
      have hG_35 := bJx.frame hM_34 go_.2.2.2.1 ma0_ ka0_ (by decide) (by decide) hG_27
      have hG_36 := dOK.frame hM_34 go_.2.2.2.1 mq3_ kq3_ (by decide) (by decide) hG_28
      have hG_37 := cOK.frame hM_34 go_.2.2.2.1 mq3_ kq3_ (by decide) (by decide) hG_29
      have hG_38 := jS.frame hM_34 go_.2.2.2.1 mq3_ kq3_ (by decide) (by decide) hG_30
      have hG_39 := eOK.frame hM_34 go_.2.2.2.1 mq2_ kq2_ (by decide) (by decide) hG_31
      refine lv_aload_n hx hb dX2_readStatement_73 rfl (lv_at hl 1 rfl) ?_
      refine g_getk (C := RX2) (T := TX2) (N := 16) hx hb hts (mc_ inX2) hown hK g rfl 3 (by decide) rfl (hts _ (List.mem_cons_of_mem _ t_419)) (fun _ h9 => h9) 6 rfl dX2_readStatement_74 ?_
      refine lv_bipush (v := 12) hx hb dX2_readStatement_77 (by decide) ?_
      refine lv_aload_n hx hb dX2_readStatement_79 rfl (lv_at hl 1 rfl) ?_
      refine g_getk (C := RX2) (T := TX2) (N := 16) hx hb hts (mc_ inX2) hown hK g rfl 3 (by decide) rfl (hts _ (List.mem_cons_of_mem _ t_419)) (fun _ h9 => h9) 6 rfl dX2_readStatement_80 ?_
      have go_ := g
      refine g_calli (va_runV (As := []) (rest := [.int 12, .ref q3_]) ⟨hx, hb, hml, hown, hts⟩ (r_X7_addStatement l dC dI L kd tys f H.size g.2.2.2.1 q3_ mq3_ kq3_) (cwV 0 hts (gV_ t_1359 t_1360 t_1361 t_191 t_1362) rfl rfl rfl (by decide +kernel) ⟨(Nat.le_of_ble_eq_true rfl), (Nat.le_of_ble_eq_true rfl)⟩) (pre3V g hK mq3_ kq3_ (by decide) (q := (RX7, TX7, 19)) rfl) rfl rfl hl.1 rfl (lv_room (Nat.le_of_ble_eq_true rfl)) dX2_readStatement_83 ⟨(Nat.le_of_ble_eq_true rfl), (Nat.le_of_ble_eq_true rfl)⟩) g hK (by decide) (by decide) (fx' := [(6, 10, q5_, .int y_33), (8, 6, q0_, .int 1201), (8, 8, q0_, .int x_24), (2, 0, a0_, .ref q0_), (2, 1, a0_, .ref q1_), (2, 2, a0_, .ref q2_), (2, 3, a0_, .ref q3_), (2, 4, a0_, .ref q4_), (2, 5, a0_, .ref q5_), (0, 0, q2_, .ref q0_), (0, 1, q2_, .ref q1_), (5, 0, q1_, .ref q3_), (5, 1, q1_, .ref q9_), (2, 11, a0_, .int y0_)]) rfl (fun r_40 fr_40 H locs hp hMr_40 g => ?_)
      obtain ⟨h_41, x_42, h_43, hF_44⟩ := hp
      have hG_45 := bJx.frame hMr_40 go_.2.2.2.1 ma0_ ka0_ (by decide) (by decide) hG_35
      have hG_46 := dOK.frame hMr_40 go_.2.2.2.1 mq3_ kq3_ (by decide) (by decide) hG_36
      have hG_47 := cOK.frame hMr_40 go_.2.2.2.1 mq3_ kq3_ (by decide) (by decide) hG_37
      have hG_48 := jS.frame hMr_40 go_.2.2.2.1 mq3_ kq3_ (by decide) (by decide) hG_38
      have hG_49 := eOK.frame hMr_40 go_.2.2.2.1 mq2_ kq2_ (by decide) (by decide) hG_39
      have g := g.more hF_44
      obtain ⟨a_50, ma_50, ka_50, g⟩ := g_factr g mq3_ kq3_ (by decide) 4 rfl
      obtain ⟨a_51, ma_51, ka_51, g⟩ := g_factr g mq3_ kq3_ (by decide) 5 rfl
      obtain ⟨x_52, bx_52, g⟩ := g_facti g mq3_ kq3_ (by decide) 6 rfl
      have go_ := g
      refine g_callv (va_runV (As := [.int 12, .int r_40]) (rest := []) ⟨hx, hb, hml, hown, hts⟩ (r_X7_emitF l dC dI L kd tys fr_40 H.size g.2.2.2.1 q3_ mq3_ kq3_ a_50 ma_50 ka_50 a_51 ma_51 ka_51 x_52 bx_52 T_ hG_46 (12 : Int32) r_40 (g.fcts [2, 1, 0] rfl)) (cwV 2 hts (gV_ t_1301 t_1204 t_1205 t_191 t_1206) rfl rfl rfl (by decide +kernel) ⟨(Nat.le_of_ble_eq_true rfl), (Nat.le_of_ble_eq_true rfl)⟩) (pre3V g hK mq3_ kq3_ (by decide) (q := (RX7, TX7, 19)) rfl) rfl rfl hl.1 rfl (lv_room (Nat.le_of_ble_eq_true rfl)) dX2_readStatement_86 ⟨(Nat.le_of_ble_eq_true rfl), (Nat.le_of_ble_eq_true rfl)⟩) g hK (by decide) (by decide) (fx' := [(7, 5, q3_, .ref a_51), (7, 4, q3_, .ref a_50), (7, 15, q3_, .int x_42), (6, 10, q5_, .int y_33), (8, 6, q0_, .int 1201), (8, 8, q0_, .int x_24), (2, 0, a0_, .ref q0_), (2, 1, a0_, .ref q1_), (2, 2, a0_, .ref q2_), (2, 3, a0_, .ref q3_), (2, 4, a0_, .ref q4_), (2, 5, a0_, .ref q5_), (0, 0, q2_, .ref q0_), (0, 1, q2_, .ref q1_), (5, 0, q1_, .ref q3_), (5, 1, q1_, .ref q9_), (2, 11, a0_, .int y0_)]) rfl (fun fr_53 H locs hp hMr_53 g => ?_)
      obtain ⟨hG_54, x_55, h_56, hF_57⟩ := hp
      have hG_58 := eOK.frame hMr_53 go_.2.2.2.1 mq2_ kq2_ (by decide) (by decide) hG_49
      have g := g.more hF_57
      refine lv_iload_n hx hb dX2_readStatement_89 rfl (lv_at hl 0 rfl) ?_
      by_cases e_59 : r_1 = 22
      · refine lv_topi (fun z_60 ez_60 => ?_)
        obtain rfl : z_60 = 22 := ez_60.trans e_59
        have kb_22 : bd 22 22 (22 : Int32) := ⟨by decide, by decide⟩
        have b_61 : bd 22 22 r_1 := eqX (eq_f e_59) (bdT r_1) kb_22 (by decide)
        refine lv_tableIn (off := 38) (tgt := 128) hx hb dX2_readStatement_90 (by decide) (by decide) rfl (by decide) ?_
        refine lv_aload_n hx hb dX2_readStatement_128 rfl (lv_at hl 1 rfl) ?_
        have kb_1201 : bd 1201 1201 (1201 : Int32) := ⟨by decide, by decide⟩
        have go_ := g
        refine g_callv (va_runV (As := []) (rest := []) ⟨hx, hb, hml, hown, hts⟩ (r_X2_readLet l dC dI L kd tys fr_53 H.size g.2.2.2.1 a0_ ma0_ ka0_ q0_ mq0_ kq0_ q1_ mq1_ kq1_ q2_ mq2_ kq2_ q3_ mq3_ kq3_ q9_ mq9_ kq9_ 1201 kb_1201 x_24 h_25 T_ hG_54 hG_58 (g.fcts [7, 8, 9, 10, 13, 14, 15, 16, 5, 6] rfl)) (cwV 0 hts (gV_ t_1363 t_1365 t_44 t_183 t_1366) rfl rfl rfl (by decide +kernel) ⟨(Nat.le_of_ble_eq_true rfl), (Nat.le_of_ble_eq_true rfl)⟩) (pre3V g hK ma0_ ka0_ (by decide) (q := (RX2, TX2, 16)) rfl) rfl rfl hl.1 rfl (lv_room (Nat.le_of_ble_eq_true rfl)) dX2_readStatement_129 ⟨(Nat.le_of_ble_eq_true rfl), (Nat.le_of_ble_eq_true rfl)⟩) g hK (by decide) (by decide) (fx' := [(7, 5, q3_, .ref a_51), (7, 4, q3_, .ref a_50), (7, 15, q3_, .int x_42), (6, 10, q5_, .int y_33), (8, 8, q0_, .int x_24), (2, 0, a0_, .ref q0_), (2, 1, a0_, .ref q1_), (2, 2, a0_, .ref q2_), (2, 3, a0_, .ref q3_), (2, 4, a0_, .ref q4_), (2, 5, a0_, .ref q5_), (0, 0, q2_, .ref q0_), (0, 1, q2_, .ref q1_), (5, 0, q1_, .ref q3_), (5, 1, q1_, .ref q9_), (2, 11, a0_, .int y0_)]) rfl (fun fr_62 H locs hp hMr_62 g => ?_)
        obtain ⟨hG_63, x_64, h_65, hF_66⟩ := hp
        have hG_67 := eOK.frame hMr_62 go_.2.2.2.1 mq2_ kq2_ (by decide) (by decide) hG_58
        have g := g.more hF_66
        refine lv_goto (tgt := 191) hx hb dX2_readStatement_132 (by decide) ?_
        subst hQ
        exact W.vret hx hb hr (fun t ht hW => ⟨⟨_, rfl, Or.inr (⟨hG_63, hG_67, x_64, h_65, x_24, h_25, (g.fcts [0, 11] rfl)⟩), q3_of g hK ht hW⟩, g.2.2.1.F ht⟩) g.2.2.1.2.2 dX2_readStatement_191
      by_cases e_68 : r_1 = 23
      · refine lv_topi (fun z_69 ez_69 => ?_)
        obtain rfl : z_69 = 23 := ez_69.trans e_68
        have kb_23 : bd 23 23 (23 : Int32) := ⟨by decide, by decide⟩
        have b_70 : bd 23 23 r_1 := eqX (eq_f e_68) (bdT r_1) kb_23 (by decide)
        refine lv_tableIn (off := 45) (tgt := 135) hx hb dX2_readStatement_90 (by decide) (by decide) rfl (by decide) ?_
        refine lv_aload_n hx hb dX2_readStatement_135 rfl (lv_at hl 1 rfl) ?_
        refine lv_iload_n hx hb dX2_readStatement_136 rfl (lv_at hl 0 rfl) ?_
        have kb_1201 : bd 1201 1201 (1201 : Int32) := ⟨by decide, by decide⟩
        have go_ := g
        refine g_callv (va_runV (As := [.int r_1]) (rest := []) ⟨hx, hb, hml, hown, hts⟩ (r_X2_readTest l dC dI L kd tys fr_53 H.size g.2.2.2.1 a0_ ma0_ ka0_ r_1 q0_ mq0_ kq0_ q1_ mq1_ kq1_ q2_ mq2_ kq2_ q3_ mq3_ kq3_ q9_ mq9_ kq9_ 1201 kb_1201 x_24 h_25 T_ hG_54 hG_58 (g.fcts [7, 8, 9, 10, 13, 14, 15, 16, 5, 6] rfl)) (cwV 1 hts (gV_ t_1367 t_1369 t_45 t_183 t_1370) rfl rfl rfl (by decide +kernel) ⟨(Nat.le_of_ble_eq_true rfl), (Nat.le_of_ble_eq_true rfl)⟩) (pre3V g hK ma0_ ka0_ (by decide) (q := (RX2, TX2, 16)) rfl) rfl rfl hl.1 rfl (lv_room (Nat.le_of_ble_eq_true rfl)) dX2_readStatement_137 ⟨(Nat.le_of_ble_eq_true rfl), (Nat.le_of_ble_eq_true rfl)⟩) g hK (by decide) (by decide) (fx' := [(7, 5, q3_, .ref a_51), (7, 4, q3_, .ref a_50), (7, 15, q3_, .int x_42), (6, 10, q5_, .int y_33), (8, 8, q0_, .int x_24), (2, 0, a0_, .ref q0_), (2, 1, a0_, .ref q1_), (2, 2, a0_, .ref q2_), (2, 3, a0_, .ref q3_), (2, 4, a0_, .ref q4_), (2, 5, a0_, .ref q5_), (0, 0, q2_, .ref q0_), (0, 1, q2_, .ref q1_), (5, 0, q1_, .ref q3_), (5, 1, q1_, .ref q9_), (2, 11, a0_, .int y0_)]) rfl (fun fr_71 H locs hp hMr_71 g => ?_)
        obtain ⟨hG_72, hF_73⟩ := hp
        have hG_74 := eOK.frame hMr_71 go_.2.2.2.1 mq2_ kq2_ (by decide) (by decide) hG_58
        have g := g.more hF_73
        refine lv_goto (tgt := 191) hx hb dX2_readStatement_140 (by decide) ?_
        subst hQ
        exact W.vret hx hb hr (fun t ht hW => ⟨⟨_, rfl, Or.inr (⟨hG_72, hG_74, 1201, kb_1201, x_24, h_25, (g.fcts [0, 11] rfl)⟩), q3_of g hK ht hW⟩, g.2.2.1.F ht⟩) g.2.2.1.2.2 dX2_readStatement_191
      by_cases e_75 : r_1 = 24
      · refine lv_topi (fun z_76 ez_76 => ?_)
        obtain rfl : z_76 = 24 := ez_76.trans e_75
        have kb_24 : bd 24 24 (24 : Int32) := ⟨by decide, by decide⟩
        have b_77 : bd 24 24 r_1 := eqX (eq_f e_75) (bdT r_1) kb_24 (by decide)
        refine lv_tableIn (off := 67) (tgt := 157) hx hb dX2_readStatement_90 (by decide) (by decide) rfl (by decide) ?_
        refine lv_iload_n hx hb dX2_readStatement_157 rfl (lv_at hl 0 rfl) ?_
        refine lv_bipush (v := 11) hx hb dX2_readStatement_158 (by decide) ?_
        have kb_11 : bd 11 11 (11 : Int32) := ⟨by decide, by decide⟩
        refine lv_icmp_ne (tgt := 173) hx hb dX2_readStatement_160 (by decide) (fun c_78 => ?_) (fun c_78 => ?_)
        · have fc_78 := neq_f c_78
          refine lv_aload_n hx hb dX2_readStatement_173 rfl (lv_at hl 1 rfl) ?_
          have kb_1201 : bd 1201 1201 (1201 : Int32) := ⟨by decide, by decide⟩
          have go_ := g
          refine g_calli (va_runV (As := []) (rest := []) ⟨hx, hb, hml, hown, hts⟩ (r_X2_findNamed l dC dI L kd tys fr_53 H.size g.2.2.2.1 a0_ ma0_ ka0_ q0_ mq0_ kq0_ q1_ mq1_ kq1_ q3_ mq3_ kq3_ q4_ mq4_ kq4_ q9_ mq9_ kq9_ 1201 kb_1201 x_24 h_25 (g.fcts [7, 8, 10, 11, 16, 5, 6] rfl)) (cwV 0 hts (gV_ t_1388 t_1390 t_49 t_183 t_1391) rfl rfl rfl (by decide +kernel) ⟨(Nat.le_of_ble_eq_true rfl), (Nat.le_of_ble_eq_true rfl)⟩) (pre3V g hK ma0_ ka0_ (by decide) (q := (RX2, TX2, 16)) rfl) rfl rfl hl.1 rfl (lv_room (Nat.le_of_ble_eq_true rfl)) dX2_readStatement_174 ⟨(Nat.le_of_ble_eq_true rfl), (Nat.le_of_ble_eq_true rfl)⟩) g hK (by decide) (by decide) (fx' := [(7, 6, q3_, .int x_55), (7, 5, q3_, .ref a_51), (7, 4, q3_, .ref a_50), (7, 15, q3_, .int x_42), (6, 10, q5_, .int y_33), (8, 8, q0_, .int x_24), (2, 0, a0_, .ref q0_), (2, 1, a0_, .ref q1_), (2, 2, a0_, .ref q2_), (2, 3, a0_, .ref q3_), (2, 4, a0_, .ref q4_), (2, 5, a0_, .ref q5_), (0, 0, q2_, .ref q0_), (0, 1, q2_, .ref q1_), (5, 0, q1_, .ref q3_), (5, 1, q1_, .ref q9_), (2, 11, a0_, .int y0_)]) rfl (fun r_79 fr_79 H locs hp hMr_79 g => ?_)
          obtain ⟨h_80, x_81, h_82, hF_83⟩ := hp
          have hG_84 := dOK.frame hMr_79 go_.2.2.2.1 mq3_ kq3_ (by decide) (by decide) hG_54
          have hG_85 := eOK.frame hMr_79 go_.2.2.2.1 mq2_ kq2_ (by decide) (by decide) hG_58
          have g := g.more hF_83
          have kb_0 : bd 0 0 (0 : Int32) := ⟨by decide, by decide⟩
          refine lv_if_eq (tgt := 187) hx hb dX2_readStatement_177 (by decide) (fun c_86 => ?_) (fun c_86 => ?_)
          · have fc_86 := eq_f c_86
            have b_87 : bd 0 0 r_79 := eqX fc_86 h_80 kb_0 (by decide)
            refine lv_aload_n hx hb dX2_readStatement_187 rfl (lv_at hl 1 rfl) ?_
            have go_ := g
            refine g_callv (va_runV (As := []) (rest := []) ⟨hx, hb, hml, hown, hts⟩ (r_X2_readAssignment l dC dI L kd tys fr_79 H.size g.2.2.2.1 a0_ ma0_ ka0_ q0_ mq0_ kq0_ q1_ mq1_ kq1_ q2_ mq2_ kq2_ q3_ mq3_ kq3_ q4_ mq4_ kq4_ q9_ mq9_ kq9_ x_81 h_82 x_24 h_25 T_ hG_84 hG_85 (g.fcts [7, 8, 9, 10, 11, 13, 14, 15, 16, 0, 6] rfl)) (cwV 0 hts (gV_ t_1397 t_1399 t_51 t_183 t_1400) rfl rfl rfl (by decide +kernel) ⟨(Nat.le_of_ble_eq_true rfl), (Nat.le_of_ble_eq_true rfl)⟩) (pre3V g hK ma0_ ka0_ (by decide) (q := (RX2, TX2, 16)) rfl) rfl rfl hl.1 rfl (lv_room (Nat.le_of_ble_eq_true rfl)) dX2_readStatement_188 ⟨(Nat.le_of_ble_eq_true rfl), (Nat.le_of_ble_eq_true rfl)⟩) g hK (by decide) (by decide) (fx' := [(7, 5, q3_, .ref a_51), (7, 4, q3_, .ref a_50), (7, 15, q3_, .int x_42), (6, 10, q5_, .int y_33), (8, 8, q0_, .int x_24), (2, 0, a0_, .ref q0_), (2, 1, a0_, .ref q1_), (2, 2, a0_, .ref q2_), (2, 3, a0_, .ref q3_), (2, 4, a0_, .ref q4_), (2, 5, a0_, .ref q5_), (0, 0, q2_, .ref q0_), (0, 1, q2_, .ref q1_), (5, 0, q1_, .ref q3_), (5, 1, q1_, .ref q9_), (2, 11, a0_, .int y0_)]) rfl (fun fr_88 H locs hp hMr_88 g => ?_)
            obtain ⟨hG_89, x_90, h_91, hF_92⟩ := hp
            have hG_93 := eOK.frame hMr_88 go_.2.2.2.1 mq2_ kq2_ (by decide) (by decide) hG_85
            have g := g.more hF_92
            subst hQ
            exact W.vret hx hb hr (fun t ht hW => ⟨⟨_, rfl, Or.inr (⟨hG_89, hG_93, x_90, h_91, x_24, h_25, (g.fcts [0, 11] rfl)⟩), q3_of g hK ht hW⟩, g.2.2.1.F ht⟩) g.2.2.1.2.2 dX2_readStatement_191
          · have fc_86 := neq_f c_86
            have b_94 : bd 1 1 r_79 := neX fc_86 h_80 kb_0 (by decide)
            refine lv_aload_n hx hb dX2_readStatement_180 rfl (lv_at hl 1 rfl) ?_
            have go_ := g
            refine g_callv (va_runV (As := []) (rest := []) ⟨hx, hb, hml, hown, hts⟩ (r_X2_readArguments_3 l dC dI L kd tys fr_79 H.size g.2.2.2.1 a0_ ma0_ ka0_ q0_ mq0_ kq0_ q1_ mq1_ kq1_ q2_ mq2_ kq2_ q3_ mq3_ kq3_ q9_ mq9_ kq9_ x_81 h_82 x_24 h_25 T_ hG_84 hG_85 (g.fcts [7, 8, 9, 10, 13, 14, 15, 16, 0, 6] rfl)) (cwV 0 hts (gV_ t_1393 t_1395 t_50 t_183 t_1396) rfl rfl rfl (by decide +kernel) ⟨(Nat.le_of_ble_eq_true rfl), (Nat.le_of_ble_eq_true rfl)⟩) (pre3V g hK ma0_ ka0_ (by decide) (q := (RX2, TX2, 16)) rfl) rfl rfl hl.1 rfl (lv_room (Nat.le_of_ble_eq_true rfl)) dX2_readStatement_181 ⟨(Nat.le_of_ble_eq_true rfl), (Nat.le_of_ble_eq_true rfl)⟩) g hK (by decide) (by decide) (fx' := [(7, 5, q3_, .ref a_51), (7, 4, q3_, .ref a_50), (7, 15, q3_, .int x_42), (6, 10, q5_, .int y_33), (8, 8, q0_, .int x_24), (2, 0, a0_, .ref q0_), (2, 1, a0_, .ref q1_), (2, 2, a0_, .ref q2_), (2, 3, a0_, .ref q3_), (2, 4, a0_, .ref q4_), (2, 5, a0_, .ref q5_), (0, 0, q2_, .ref q0_), (0, 1, q2_, .ref q1_), (5, 0, q1_, .ref q3_), (5, 1, q1_, .ref q9_), (2, 11, a0_, .int y0_)]) rfl (fun fr_95 H locs hp hMr_95 g => ?_)
            obtain ⟨hG_96, x_97, h_98, hF_99⟩ := hp
            have hG_100 := eOK.frame hMr_95 go_.2.2.2.1 mq2_ kq2_ (by decide) (by decide) hG_85
            have g := g.more hF_99
            refine lv_goto (tgt := 191) hx hb dX2_readStatement_184 (by decide) ?_
            subst hQ
            exact W.vret hx hb hr (fun t ht hW => ⟨⟨_, rfl, Or.inr (⟨hG_96, hG_100, x_97, h_98, x_24, h_25, (g.fcts [0, 5] rfl)⟩), q3_of g hK ht hW⟩, g.2.2.1.F ht⟩) g.2.2.1.2.2 dX2_readStatement_191
        · have fc_78 := eq_f c_78
          have b_101 : bd 24 11 r_1 := eqX fc_78 b_77 kb_11 (by decide)
          exact bd_no b_101 (by decide)
      by_cases e_102 : r_1 = 25
      · refine lv_topi (fun z_103 ez_103 => ?_)
        obtain rfl : z_103 = 25 := ez_103.trans e_102
        have kb_25 : bd 25 25 (25 : Int32) := ⟨by decide, by decide⟩
        have b_104 : bd 25 25 r_1 := eqX (eq_f e_102) (bdT r_1) kb_25 (by decide)
        refine lv_tableIn (off := 45) (tgt := 135) hx hb dX2_readStatement_90 (by decide) (by decide) rfl (by decide) ?_
        refine lv_aload_n hx hb dX2_readStatement_135 rfl (lv_at hl 1 rfl) ?_
        refine lv_iload_n hx hb dX2_readStatement_136 rfl (lv_at hl 0 rfl) ?_
        have kb_1201 : bd 1201 1201 (1201 : Int32) := ⟨by decide, by decide⟩
        have go_ := g
        refine g_callv (va_runV (As := [.int r_1]) (rest := []) ⟨hx, hb, hml, hown, hts⟩ (r_X2_readTest l dC dI L kd tys fr_53 H.size g.2.2.2.1 a0_ ma0_ ka0_ r_1 q0_ mq0_ kq0_ q1_ mq1_ kq1_ q2_ mq2_ kq2_ q3_ mq3_ kq3_ q9_ mq9_ kq9_ 1201 kb_1201 x_24 h_25 T_ hG_54 hG_58 (g.fcts [7, 8, 9, 10, 13, 14, 15, 16, 5, 6] rfl)) (cwV 1 hts (gV_ t_1367 t_1369 t_45 t_183 t_1370) rfl rfl rfl (by decide +kernel) ⟨(Nat.le_of_ble_eq_true rfl), (Nat.le_of_ble_eq_true rfl)⟩) (pre3V g hK ma0_ ka0_ (by decide) (q := (RX2, TX2, 16)) rfl) rfl rfl hl.1 rfl (lv_room (Nat.le_of_ble_eq_true rfl)) dX2_readStatement_137 ⟨(Nat.le_of_ble_eq_true rfl), (Nat.le_of_ble_eq_true rfl)⟩) g hK (by decide) (by decide) (fx' := [(7, 5, q3_, .ref a_51), (7, 4, q3_, .ref a_50), (7, 15, q3_, .int x_42), (6, 10, q5_, .int y_33), (8, 8, q0_, .int x_24), (2, 0, a0_, .ref q0_), (2, 1, a0_, .ref q1_), (2, 2, a0_, .ref q2_), (2, 3, a0_, .ref q3_), (2, 4, a0_, .ref q4_), (2, 5, a0_, .ref q5_), (0, 0, q2_, .ref q0_), (0, 1, q2_, .ref q1_), (5, 0, q1_, .ref q3_), (5, 1, q1_, .ref q9_), (2, 11, a0_, .int y0_)]) rfl (fun fr_105 H locs hp hMr_105 g => ?_)
        obtain ⟨hG_106, hF_107⟩ := hp
        have hG_108 := eOK.frame hMr_105 go_.2.2.2.1 mq2_ kq2_ (by decide) (by decide) hG_58
        have g := g.more hF_107
        refine lv_goto (tgt := 191) hx hb dX2_readStatement_140 (by decide) ?_
        subst hQ
        exact W.vret hx hb hr (fun t ht hW => ⟨⟨_, rfl, Or.inr (⟨hG_106, hG_108, 1201, kb_1201, x_24, h_25, (g.fcts [0, 11] rfl)⟩), q3_of g hK ht hW⟩, g.2.2.1.F ht⟩) g.2.2.1.2.2 dX2_readStatement_191
      by_cases e_109 : r_1 = 26
      · refine lv_topi (fun z_110 ez_110 => ?_)
        obtain rfl : z_110 = 26 := ez_110.trans e_109
        have kb_26 : bd 26 26 (26 : Int32) := ⟨by decide, by decide⟩
        have b_111 : bd 26 26 r_1 := eqX (eq_f e_109) (bdT r_1) kb_26 (by decide)
        refine lv_tableIn (off := 53) (tgt := 143) hx hb dX2_readStatement_90 (by decide) (by decide) rfl (by decide) ?_
        refine lv_aload_n hx hb dX2_readStatement_143 rfl (lv_at hl 1 rfl) ?_
        have kb_1201 : bd 1201 1201 (1201 : Int32) := ⟨by decide, by decide⟩
        have go_ := g
        refine g_callv (va_runV (As := []) (rest := []) ⟨hx, hb, hml, hown, hts⟩ (r_X2_readReturn l dC dI L kd tys fr_53 H.size g.2.2.2.1 a0_ ma0_ ka0_ q0_ mq0_ kq0_ q1_ mq1_ kq1_ q2_ mq2_ kq2_ q3_ mq3_ kq3_ q9_ mq9_ kq9_ 1201 kb_1201 x_24 h_25 T_ hG_54 hG_58 (g.fcts [7, 8, 9, 10, 13, 14, 15, 16, 5, 6] rfl)) (cwV 0 hts (gV_ t_1371 t_1373 t_46 t_183 t_1374) rfl rfl rfl (by decide +kernel) ⟨(Nat.le_of_ble_eq_true rfl), (Nat.le_of_ble_eq_true rfl)⟩) (pre3V g hK ma0_ ka0_ (by decide) (q := (RX2, TX2, 16)) rfl) rfl rfl hl.1 rfl (lv_room (Nat.le_of_ble_eq_true rfl)) dX2_readStatement_144 ⟨(Nat.le_of_ble_eq_true rfl), (Nat.le_of_ble_eq_true rfl)⟩) g hK (by decide) (by decide) (fx' := [(7, 5, q3_, .ref a_51), (7, 4, q3_, .ref a_50), (7, 15, q3_, .int x_42), (6, 10, q5_, .int y_33), (8, 8, q0_, .int x_24), (2, 0, a0_, .ref q0_), (2, 1, a0_, .ref q1_), (2, 2, a0_, .ref q2_), (2, 3, a0_, .ref q3_), (2, 4, a0_, .ref q4_), (2, 5, a0_, .ref q5_), (0, 0, q2_, .ref q0_), (0, 1, q2_, .ref q1_), (5, 0, q1_, .ref q3_), (5, 1, q1_, .ref q9_), (2, 11, a0_, .int y0_)]) rfl (fun fr_112 H locs hp hMr_112 g => ?_)
        obtain ⟨hG_113, x_114, h_115, hF_116⟩ := hp
        have hG_117 := eOK.frame hMr_112 go_.2.2.2.1 mq2_ kq2_ (by decide) (by decide) hG_58
        have g := g.more hF_116
        refine lv_goto (tgt := 191) hx hb dX2_readStatement_147 (by decide) ?_
        subst hQ
        exact W.vret hx hb hr (fun t ht hW => ⟨⟨_, rfl, Or.inr (⟨hG_113, hG_117, x_114, h_115, x_24, h_25, (g.fcts [0, 11] rfl)⟩), q3_of g hK ht hW⟩, g.2.2.1.F ht⟩) g.2.2.1.2.2 dX2_readStatement_191
      by_cases e_118 : r_1 = 27
      · refine lv_topi (fun z_119 ez_119 => ?_)
        obtain rfl : z_119 = 27 := ez_119.trans e_118
        have kb_27 : bd 27 27 (27 : Int32) := ⟨by decide, by decide⟩
        have b_120 : bd 27 27 r_1 := eqX (eq_f e_118) (bdT r_1) kb_27 (by decide)
        refine lv_tableIn (off := 60) (tgt := 150) hx hb dX2_readStatement_90 (by decide) (by decide) rfl (by decide) ?_
        refine lv_aload_n hx hb dX2_readStatement_150 rfl (lv_at hl 1 rfl) ?_
        have kb_1201 : bd 1201 1201 (1201 : Int32) := ⟨by decide, by decide⟩
        have go_ := g
        refine g_callv (va_runV (As := []) (rest := []) ⟨hx, hb, hml, hown, hts⟩ (r_X2_readThrow l dC dI L kd tys fr_53 H.size g.2.2.2.1 a0_ ma0_ ka0_ q0_ mq0_ kq0_ q3_ mq3_ kq3_ 1201 kb_1201 x_24 h_25 T_ hG_54 (g.fcts [7, 10, 5, 6] rfl)) (cwV 0 hts (gV_ t_1375 t_1377 t_47 t_183 t_1378) rfl rfl rfl (by decide +kernel) ⟨(Nat.le_of_ble_eq_true rfl), (Nat.le_of_ble_eq_true rfl)⟩) (pre3V g hK ma0_ ka0_ (by decide) (q := (RX2, TX2, 16)) rfl) rfl rfl hl.1 rfl (lv_room (Nat.le_of_ble_eq_true rfl)) dX2_readStatement_151 ⟨(Nat.le_of_ble_eq_true rfl), (Nat.le_of_ble_eq_true rfl)⟩) g hK (by decide) (by decide) (fx' := [(7, 5, q3_, .ref a_51), (7, 4, q3_, .ref a_50), (7, 15, q3_, .int x_42), (6, 10, q5_, .int y_33), (8, 8, q0_, .int x_24), (2, 0, a0_, .ref q0_), (2, 1, a0_, .ref q1_), (2, 2, a0_, .ref q2_), (2, 3, a0_, .ref q3_), (2, 4, a0_, .ref q4_), (2, 5, a0_, .ref q5_), (0, 0, q2_, .ref q0_), (0, 1, q2_, .ref q1_), (5, 0, q1_, .ref q3_), (5, 1, q1_, .ref q9_), (2, 11, a0_, .int y0_)]) rfl (fun fr_121 H locs hp hMr_121 g => ?_)
        obtain ⟨hG_122, x_123, h_124, x_125, h_126, hF_127⟩ := hp
        have hG_128 := eOK.frame hMr_121 go_.2.2.2.1 mq2_ kq2_ (by decide) (by decide) hG_58
        have g := g.more hF_127
        refine lv_goto (tgt := 191) hx hb dX2_readStatement_154 (by decide) ?_
        subst hQ
        exact W.vret hx hb hr (fun t ht hW => ⟨⟨_, rfl, Or.inr (⟨hG_122, hG_128, x_123, h_124, x_24, h_25, (g.fcts [0, 6] rfl)⟩), q3_of g hK ht hW⟩, g.2.2.1.F ht⟩) g.2.2.1.2.2 dX2_readStatement_191
      refine lv_tableOut (tgt := 157) hx hb dX2_readStatement_90 (by have a0 : r_1.toInt ≠ 22 := fun h => e_59 (Int32.toInt_inj.mp (h.trans (by decide))); have a1 : r_1.toInt ≠ 23 := fun h => e_68 (Int32.toInt_inj.mp (h.trans (by decide))); have a2 : r_1.toInt ≠ 24 := fun h => e_75 (Int32.toInt_inj.mp (h.trans (by decide))); have a3 : r_1.toInt ≠ 25 := fun h => e_102 (Int32.toInt_inj.mp (h.trans (by decide))); have a4 : r_1.toInt ≠ 26 := fun h => e_109 (Int32.toInt_inj.mp (h.trans (by decide))); have a5 : r_1.toInt ≠ 27 := fun h => e_118 (Int32.toInt_inj.mp (h.trans (by decide))); omega) (by decide) ?_
      refine lv_iload_n hx hb dX2_readStatement_157 rfl (lv_at hl 0 rfl) ?_
      refine lv_bipush (v := 11) hx hb dX2_readStatement_158 (by decide) ?_
      have kb_11 : bd 11 11 (11 : Int32) := ⟨by decide, by decide⟩
      refine lv_icmp_ne (tgt := 173) hx hb dX2_readStatement_160 (by decide) (fun c_129 => ?_) (fun c_129 => ?_)
      · have fc_129 := neq_f c_129
        refine lv_aload_n hx hb dX2_readStatement_173 rfl (lv_at hl 1 rfl) ?_
        have kb_1201 : bd 1201 1201 (1201 : Int32) := ⟨by decide, by decide⟩
        have go_ := g
        refine g_calli (va_runV (As := []) (rest := []) ⟨hx, hb, hml, hown, hts⟩ (r_X2_findNamed l dC dI L kd tys fr_53 H.size g.2.2.2.1 a0_ ma0_ ka0_ q0_ mq0_ kq0_ q1_ mq1_ kq1_ q3_ mq3_ kq3_ q4_ mq4_ kq4_ q9_ mq9_ kq9_ 1201 kb_1201 x_24 h_25 (g.fcts [7, 8, 10, 11, 16, 5, 6] rfl)) (cwV 0 hts (gV_ t_1388 t_1390 t_49 t_183 t_1391) rfl rfl rfl (by decide +kernel) ⟨(Nat.le_of_ble_eq_true rfl), (Nat.le_of_ble_eq_true rfl)⟩) (pre3V g hK ma0_ ka0_ (by decide) (q := (RX2, TX2, 16)) rfl) rfl rfl hl.1 rfl (lv_room (Nat.le_of_ble_eq_true rfl)) dX2_readStatement_174 ⟨(Nat.le_of_ble_eq_true rfl), (Nat.le_of_ble_eq_true rfl)⟩) g hK (by decide) (by decide) (fx' := [(7, 6, q3_, .int x_55), (7, 5, q3_, .ref a_51), (7, 4, q3_, .ref a_50), (7, 15, q3_, .int x_42), (6, 10, q5_, .int y_33), (8, 8, q0_, .int x_24), (2, 0, a0_, .ref q0_), (2, 1, a0_, .ref q1_), (2, 2, a0_, .ref q2_), (2, 3, a0_, .ref q3_), (2, 4, a0_, .ref q4_), (2, 5, a0_, .ref q5_), (0, 0, q2_, .ref q0_), (0, 1, q2_, .ref q1_), (5, 0, q1_, .ref q3_), (5, 1, q1_, .ref q9_), (2, 11, a0_, .int y0_)]) rfl (fun r_130 fr_130 H locs hp hMr_130 g => ?_)
        obtain ⟨h_131, x_132, h_133, hF_134⟩ := hp
        have hG_135 := dOK.frame hMr_130 go_.2.2.2.1 mq3_ kq3_ (by decide) (by decide) hG_54
        have hG_136 := eOK.frame hMr_130 go_.2.2.2.1 mq2_ kq2_ (by decide) (by decide) hG_58
        have g := g.more hF_134
        have kb_0 : bd 0 0 (0 : Int32) := ⟨by decide, by decide⟩
        refine lv_if_eq (tgt := 187) hx hb dX2_readStatement_177 (by decide) (fun c_137 => ?_) (fun c_137 => ?_)
        · have fc_137 := eq_f c_137
          have b_138 : bd 0 0 r_130 := eqX fc_137 h_131 kb_0 (by decide)
          refine lv_aload_n hx hb dX2_readStatement_187 rfl (lv_at hl 1 rfl) ?_
          have go_ := g
          refine g_callv (va_runV (As := []) (rest := []) ⟨hx, hb, hml, hown, hts⟩ (r_X2_readAssignment l dC dI L kd tys fr_130 H.size g.2.2.2.1 a0_ ma0_ ka0_ q0_ mq0_ kq0_ q1_ mq1_ kq1_ q2_ mq2_ kq2_ q3_ mq3_ kq3_ q4_ mq4_ kq4_ q9_ mq9_ kq9_ x_132 h_133 x_24 h_25 T_ hG_135 hG_136 (g.fcts [7, 8, 9, 10, 11, 13, 14, 15, 16, 0, 6] rfl)) (cwV 0 hts (gV_ t_1397 t_1399 t_51 t_183 t_1400) rfl rfl rfl (by decide +kernel) ⟨(Nat.le_of_ble_eq_true rfl), (Nat.le_of_ble_eq_true rfl)⟩) (pre3V g hK ma0_ ka0_ (by decide) (q := (RX2, TX2, 16)) rfl) rfl rfl hl.1 rfl (lv_room (Nat.le_of_ble_eq_true rfl)) dX2_readStatement_188 ⟨(Nat.le_of_ble_eq_true rfl), (Nat.le_of_ble_eq_true rfl)⟩) g hK (by decide) (by decide) (fx' := [(7, 5, q3_, .ref a_51), (7, 4, q3_, .ref a_50), (7, 15, q3_, .int x_42), (6, 10, q5_, .int y_33), (8, 8, q0_, .int x_24), (2, 0, a0_, .ref q0_), (2, 1, a0_, .ref q1_), (2, 2, a0_, .ref q2_), (2, 3, a0_, .ref q3_), (2, 4, a0_, .ref q4_), (2, 5, a0_, .ref q5_), (0, 0, q2_, .ref q0_), (0, 1, q2_, .ref q1_), (5, 0, q1_, .ref q3_), (5, 1, q1_, .ref q9_), (2, 11, a0_, .int y0_)]) rfl (fun fr_139 H locs hp hMr_139 g => ?_)
          obtain ⟨hG_140, x_141, h_142, hF_143⟩ := hp
          have hG_144 := eOK.frame hMr_139 go_.2.2.2.1 mq2_ kq2_ (by decide) (by decide) hG_136
          have g := g.more hF_143
          subst hQ
          exact W.vret hx hb hr (fun t ht hW => ⟨⟨_, rfl, Or.inr (⟨hG_140, hG_144, x_141, h_142, x_24, h_25, (g.fcts [0, 11] rfl)⟩), q3_of g hK ht hW⟩, g.2.2.1.F ht⟩) g.2.2.1.2.2 dX2_readStatement_191
        · have fc_137 := neq_f c_137
          have b_145 : bd 1 1 r_130 := neX fc_137 h_131 kb_0 (by decide)
          refine lv_aload_n hx hb dX2_readStatement_180 rfl (lv_at hl 1 rfl) ?_
          have go_ := g
          refine g_callv (va_runV (As := []) (rest := []) ⟨hx, hb, hml, hown, hts⟩ (r_X2_readArguments_3 l dC dI L kd tys fr_130 H.size g.2.2.2.1 a0_ ma0_ ka0_ q0_ mq0_ kq0_ q1_ mq1_ kq1_ q2_ mq2_ kq2_ q3_ mq3_ kq3_ q9_ mq9_ kq9_ x_132 h_133 x_24 h_25 T_ hG_135 hG_136 (g.fcts [7, 8, 9, 10, 13, 14, 15, 16, 0, 6] rfl)) (cwV 0 hts (gV_ t_1393 t_1395 t_50 t_183 t_1396) rfl rfl rfl (by decide +kernel) ⟨(Nat.le_of_ble_eq_true rfl), (Nat.le_of_ble_eq_true rfl)⟩) (pre3V g hK ma0_ ka0_ (by decide) (q := (RX2, TX2, 16)) rfl) rfl rfl hl.1 rfl (lv_room (Nat.le_of_ble_eq_true rfl)) dX2_readStatement_181 ⟨(Nat.le_of_ble_eq_true rfl), (Nat.le_of_ble_eq_true rfl)⟩) g hK (by decide) (by decide) (fx' := [(7, 5, q3_, .ref a_51), (7, 4, q3_, .ref a_50), (7, 15, q3_, .int x_42), (6, 10, q5_, .int y_33), (8, 8, q0_, .int x_24), (2, 0, a0_, .ref q0_), (2, 1, a0_, .ref q1_), (2, 2, a0_, .ref q2_), (2, 3, a0_, .ref q3_), (2, 4, a0_, .ref q4_), (2, 5, a0_, .ref q5_), (0, 0, q2_, .ref q0_), (0, 1, q2_, .ref q1_), (5, 0, q1_, .ref q3_), (5, 1, q1_, .ref q9_), (2, 11, a0_, .int y0_)]) rfl (fun fr_146 H locs hp hMr_146 g => ?_)
          obtain ⟨hG_147, x_148, h_149, hF_150⟩ := hp
          have hG_151 := eOK.frame hMr_146 go_.2.2.2.1 mq2_ kq2_ (by decide) (by decide) hG_136
          have g := g.more hF_150
          refine lv_goto (tgt := 191) hx hb dX2_readStatement_184 (by decide) ?_
          subst hQ
          exact W.vret hx hb hr (fun t ht hW => ⟨⟨_, rfl, Or.inr (⟨hG_147, hG_151, x_148, h_149, x_24, h_25, (g.fcts [0, 5] rfl)⟩), q3_of g hK ht hW⟩, g.2.2.1.F ht⟩) g.2.2.1.2.2 dX2_readStatement_191
      · have fc_129 := eq_f c_129
        have b_152 : bd 11 11 r_1 := eqX fc_129 (bdT r_1) kb_11 (by decide)
        refine lv_aload_n hx hb dX2_readStatement_163 rfl (lv_at hl 1 rfl) ?_
        have kb_1201 : bd 1201 1201 (1201 : Int32) := ⟨by decide, by decide⟩
        have go_ := g
        refine g_calli (va_runV (As := []) (rest := []) ⟨hx, hb, hml, hown, hts⟩ (r_X2_findAbove l dC dI L kd tys fr_53 H.size g.2.2.2.1 a0_ ma0_ ka0_ q0_ mq0_ kq0_ q3_ mq3_ kq3_ q4_ mq4_ kq4_ 1201 kb_1201 x_24 h_25 (g.fcts [7, 10, 11, 5, 6] rfl)) (cwV 0 hts (gV_ t_1383 t_1385 t_48 t_183 t_1386) rfl rfl rfl (by decide +kernel) ⟨(Nat.le_of_ble_eq_true rfl), (Nat.le_of_ble_eq_true rfl)⟩) (pre3V g hK ma0_ ka0_ (by decide) (q := (RX2, TX2, 16)) rfl) rfl rfl hl.1 rfl (lv_room (Nat.le_of_ble_eq_true rfl)) dX2_readStatement_164 ⟨(Nat.le_of_ble_eq_true rfl), (Nat.le_of_ble_eq_true rfl)⟩) g hK (by decide) (by decide) (fx' := [(7, 6, q3_, .int x_55), (7, 5, q3_, .ref a_51), (7, 4, q3_, .ref a_50), (7, 15, q3_, .int x_42), (6, 10, q5_, .int y_33), (8, 8, q0_, .int x_24), (2, 0, a0_, .ref q0_), (2, 1, a0_, .ref q1_), (2, 2, a0_, .ref q2_), (2, 3, a0_, .ref q3_), (2, 4, a0_, .ref q4_), (2, 5, a0_, .ref q5_), (0, 0, q2_, .ref q0_), (0, 1, q2_, .ref q1_), (5, 0, q1_, .ref q3_), (5, 1, q1_, .ref q9_), (2, 11, a0_, .int y0_)]) rfl (fun r_153 fr_153 H locs hp hMr_153 g => ?_)
        obtain ⟨h_154, hF_155⟩ := hp
        have hG_156 := dOK.frame hMr_153 go_.2.2.2.1 mq3_ kq3_ (by decide) (by decide) hG_54
        have hG_157 := eOK.frame hMr_153 go_.2.2.2.1 mq2_ kq2_ (by decide) (by decide) hG_58
        obtain rfl : r_153 = 1 := h_154
        have g := g.more hF_155
        refine lv_if_eq (tgt := 187) hx hb dX2_readStatement_167 (by decide) (fun c_ => absurd c_ (by decide)) (fun c_ => ?_)
        refine lv_goto (tgt := 180) hx hb dX2_readStatement_170 (by decide) ?_
        refine lv_aload_n hx hb dX2_readStatement_180 rfl (lv_at hl 1 rfl) ?_
        have go_ := g
        refine g_callv (va_runV (As := []) (rest := []) ⟨hx, hb, hml, hown, hts⟩ (r_X2_readArguments_3 l dC dI L kd tys fr_153 H.size g.2.2.2.1 a0_ ma0_ ka0_ q0_ mq0_ kq0_ q1_ mq1_ kq1_ q2_ mq2_ kq2_ q3_ mq3_ kq3_ q9_ mq9_ kq9_ 1201 kb_1201 x_24 h_25 T_ hG_156 hG_157 (g.fcts [7, 8, 9, 10, 13, 14, 15, 16, 0, 6] rfl)) (cwV 0 hts (gV_ t_1393 t_1395 t_50 t_183 t_1396) rfl rfl rfl (by decide +kernel) ⟨(Nat.le_of_ble_eq_true rfl), (Nat.le_of_ble_eq_true rfl)⟩) (pre3V g hK ma0_ ka0_ (by decide) (q := (RX2, TX2, 16)) rfl) rfl rfl hl.1 rfl (lv_room (Nat.le_of_ble_eq_true rfl)) dX2_readStatement_181 ⟨(Nat.le_of_ble_eq_true rfl), (Nat.le_of_ble_eq_true rfl)⟩) g hK (by decide) (by decide) (fx' := [(7, 5, q3_, .ref a_51), (7, 4, q3_, .ref a_50), (7, 15, q3_, .int x_42), (6, 10, q5_, .int y_33), (8, 8, q0_, .int x_24), (2, 0, a0_, .ref q0_), (2, 1, a0_, .ref q1_), (2, 2, a0_, .ref q2_), (2, 3, a0_, .ref q3_), (2, 4, a0_, .ref q4_), (2, 5, a0_, .ref q5_), (0, 0, q2_, .ref q0_), (0, 1, q2_, .ref q1_), (5, 0, q1_, .ref q3_), (5, 1, q1_, .ref q9_), (2, 11, a0_, .int y0_)]) rfl (fun fr_158 H locs hp hMr_158 g => ?_)
        obtain ⟨hG_159, x_160, h_161, hF_162⟩ := hp
        have hG_163 := eOK.frame hMr_158 go_.2.2.2.1 mq2_ kq2_ (by decide) (by decide) hG_157
        have g := g.more hF_162
        refine lv_goto (tgt := 191) hx hb dX2_readStatement_184 (by decide) ?_
        subst hQ
        exact W.vret hx hb hr (fun t ht hW => ⟨⟨_, rfl, Or.inr (⟨hG_159, hG_163, x_160, h_161, x_24, h_25, (g.fcts [0, 5] rfl)⟩), q3_of g hK ht hW⟩, g.2.2.1.F ht⟩) g.2.2.1.2.2 dX2_readStatement_191
    · have hG_164 := bJx.frame hMr_8 go_.2.2.2.1 ma0_ ka0_ (by decide) (by decide) hG_2
      have hG_165 := dOK.frame hMr_8 go_.2.2.2.1 mq3_ kq3_ (by decide) (by decide) hG_3
      have hG_166 := cOK.frame hMr_8 go_.2.2.2.1 mq3_ kq3_ (by decide) (by decide) hG_4
      have hG_167 := jS.frame hMr_8 go_.2.2.2.1 mq3_ kq3_ (by decide) (by decide) hG_5
      have hG_168 := eOK.frame hMr_8 go_.2.2.2.1 mq2_ kq2_ (by decide) (by decide) hG_6
      obtain rfl : r_8 = 1 := h_10
      have b_169 : bd 3 27 r_1 := eqX rfl (bdT r_1) h_11 (by decide)
      refine lv_if_ne (tgt := 44) hx hb dX2_readStatement_23 (by decide) (fun c_ => ?_) (fun c_ => absurd c_ (by decide))
      refine lv_aload_n hx hb dX2_readStatement_44 rfl (lv_at hl 1 rfl) ?_
      refine g_getk (C := RX2) (T := TX2) (N := 16) hx hb hts (mc_ inX2) hown hK g rfl 5 (by decide) rfl (hts _ (List.mem_cons_of_mem _ t_421)) (fun _ h9 => h9) 5 rfl dX2_readStatement_45 ?_
      refine g_geti (C := RX6) (T := TX6) (N := 13) hx hb hts (mc_ inX6) hown hK g mq5_ kq5_ (by decide) rfl 10 (by decide) rfl (hts _ (List.mem_cons_of_mem _ t_588)) (fun _ h9 => h9) rfl dX2_readStatement_48 (fun x_170 bx_170 g => ?_)
      refine lv_bipush (v := 40) hx hb dX2_readStatement_51 (by decide) ?_
      have kb_40 : bd 40 40 (40 : Int32) := ⟨by decide, by decide⟩
      refine lv_icmp_lt (tgt := 60) hx hb dX2_readStatement_53 (by decide) (fun c_171 => ?_) (fun c_171 => ?_)
      · have fc_171 := lt_f c_171
        have b_172 : bd (-2147483648) 39 x_170 := ltL fc_171 (bdT x_170) kb_40 (by decide)
        refine lv_aload_n hx hb dX2_readStatement_60 rfl (lv_at hl 1 rfl) ?_
        refine g_getk (C := RX2) (T := TX2) (N := 16) hx hb hts (mc_ inX2) hown hK g rfl 5 (by decide) rfl (hts _ (List.mem_cons_of_mem _ t_421)) (fun _ h9 => h9) 6 rfl dX2_readStatement_61 ?_
        refine lv_dup hx hb dX2_readStatement_64 rfl ?_
        refine g_getk (C := RX6) (T := TX6) (N := 13) hx hb hts (mc_ inX6) hown hK g rfl 10 (by decide) rfl (hts _ (List.mem_cons_of_mem _ t_588)) (fun _ h9 => h9) 0 rfl dX2_readStatement_65 ?_
        refine lv_iconst (v := 1) hx hb dX2_readStatement_68 (by decide) ?_
        have kb_1 : bd 1 1 (1 : Int32) := ⟨by decide, by decide⟩
        refine lv_iadd hx hb dX2_readStatement_69 ?_
        refine lv_topi (fun y_173 ey_173 => ?_)
        have ty_173 := add_bd ey_173 b_172 kb_1 (by decide)
        have b_174 : bd (-2147483647) 40 y_173 := add_rg ty_173 b_172 kb_1 (by decide)
        have go_ := g
        refine g_put (C := RX6) (T := TX6) (N := 13) hx hb hts (mc_ inX6) tyX6 tyX6_ok nmX6 hown hK g mq5_ kq5_ (by decide) rfl 10 (by decide) (hts _ (List.mem_cons_of_mem _ t_588)) (fun _ h9 => h9) rfl rfl (okV_i (bd_sub b_174 (by decide))) rfl rfl (by decide) (Or.inr (Or.inl (by decide))) (fx' := [(2, 0, a0_, .ref q0_), (2, 1, a0_, .ref q1_), (2, 2, a0_, .ref q2_), (2, 3, a0_, .ref q3_), (2, 4, a0_, .ref q4_), (2, 5, a0_, .ref q5_), (0, 0, q2_, .ref q0_), (0, 1, q2_, .ref q1_), (5, 0, q1_, .ref q3_), (5, 1, q1_, .ref q9_), (2, 11, a0_, .int y0_), (8, 8, q0_, .int y1_)]) rfl dX2_readStatement_70 (fun f H locs hM_175 g => ?_)
        have hG_176 := bJx.frame hM_175 go_.2.2.2.1 ma0_ ka0_ (by decide) (by decide) hG_164
        have hG_177 := dOK.frame hM_175 go_.2.2.2.1 mq3_ kq3_ (by decide) (by decide) hG_165
        have hG_178 := cOK.frame hM_175 go_.2.2.2.1 mq3_ kq3_ (by decide) (by decide) hG_166
        have hG_179 := jS.frame hM_175 go_.2.2.2.1 mq3_ kq3_ (by decide) (by decide) hG_167
        have hG_180 := eOK.frame hM_175 go_.2.2.2.1 mq2_ kq2_ (by decide) (by decide) hG_168
        refine lv_aload_n hx hb dX2_readStatement_73 rfl (lv_at hl 1 rfl) ?_
        refine g_getk (C := RX2) (T := TX2) (N := 16) hx hb hts (mc_ inX2) hown hK g rfl 3 (by decide) rfl (hts _ (List.mem_cons_of_mem _ t_419)) (fun _ h9 => h9) 4 rfl dX2_readStatement_74 ?_
        refine lv_bipush (v := 12) hx hb dX2_readStatement_77 (by decide) ?_
        refine lv_aload_n hx hb dX2_readStatement_79 rfl (lv_at hl 1 rfl) ?_
        refine g_getk (C := RX2) (T := TX2) (N := 16) hx hb hts (mc_ inX2) hown hK g rfl 3 (by decide) rfl (hts _ (List.mem_cons_of_mem _ t_419)) (fun _ h9 => h9) 4 rfl dX2_readStatement_80 ?_
        have go_ := g
        refine g_calli (va_runV (As := []) (rest := [.int 12, .ref q3_]) ⟨hx, hb, hml, hown, hts⟩ (r_X7_addStatement l dC dI L kd tys f H.size g.2.2.2.1 q3_ mq3_ kq3_) (cwV 0 hts (gV_ t_1359 t_1360 t_1361 t_191 t_1362) rfl rfl rfl (by decide +kernel) ⟨(Nat.le_of_ble_eq_true rfl), (Nat.le_of_ble_eq_true rfl)⟩) (pre3V g hK mq3_ kq3_ (by decide) (q := (RX7, TX7, 19)) rfl) rfl rfl hl.1 rfl (lv_room (Nat.le_of_ble_eq_true rfl)) dX2_readStatement_83 ⟨(Nat.le_of_ble_eq_true rfl), (Nat.le_of_ble_eq_true rfl)⟩) g hK (by decide) (by decide) (fx' := [(6, 10, q5_, .int y_173), (2, 0, a0_, .ref q0_), (2, 1, a0_, .ref q1_), (2, 2, a0_, .ref q2_), (2, 3, a0_, .ref q3_), (2, 4, a0_, .ref q4_), (2, 5, a0_, .ref q5_), (0, 0, q2_, .ref q0_), (0, 1, q2_, .ref q1_), (5, 0, q1_, .ref q3_), (5, 1, q1_, .ref q9_), (2, 11, a0_, .int y0_), (8, 8, q0_, .int y1_)]) rfl (fun r_181 fr_181 H locs hp hMr_181 g => ?_)
        obtain ⟨h_182, x_183, h_184, hF_185⟩ := hp
        have hG_186 := bJx.frame hMr_181 go_.2.2.2.1 ma0_ ka0_ (by decide) (by decide) hG_176
        have hG_187 := dOK.frame hMr_181 go_.2.2.2.1 mq3_ kq3_ (by decide) (by decide) hG_177
        have hG_188 := cOK.frame hMr_181 go_.2.2.2.1 mq3_ kq3_ (by decide) (by decide) hG_178
        have hG_189 := jS.frame hMr_181 go_.2.2.2.1 mq3_ kq3_ (by decide) (by decide) hG_179
        have hG_190 := eOK.frame hMr_181 go_.2.2.2.1 mq2_ kq2_ (by decide) (by decide) hG_180
        have g := g.more hF_185
        obtain ⟨a_191, ma_191, ka_191, g⟩ := g_factr g mq3_ kq3_ (by decide) 4 rfl
        obtain ⟨a_192, ma_192, ka_192, g⟩ := g_factr g mq3_ kq3_ (by decide) 5 rfl
        obtain ⟨x_193, bx_193, g⟩ := g_facti g mq3_ kq3_ (by decide) 6 rfl
        have kb_12 : bd 12 12 (12 : Int32) := ⟨by decide, by decide⟩
        have go_ := g
        refine g_callv (va_runV (As := [.int 12, .int r_181]) (rest := []) ⟨hx, hb, hml, hown, hts⟩ (r_X7_emitN l dC dI L kd tys fr_181 H.size g.2.2.2.1 q3_ mq3_ kq3_ a_191 ma_191 ka_191 a_192 ma_192 ka_192 x_193 bx_193 T_ hG_187 (12 : Int32) r_181 (fun j9 => jOK fr_181 q3_ j9) hG_188 (fun _ h9 => h9) ⟨(fun h9 => ⟨(by have h9_0 := b_169; unfold bd at h9_0; have h9_1 := h_182; unfold bd at h9_1; have h9_2 := b_172; unfold bd at h9_2; have h9_3 := h_184; unfold bd at h9_3; have h9_4 := bx_193; unfold bd at h9_4; have h9_5 := by0_; unfold bd at h9_5; have h9_6 := by1_; unfold bd at h9_6; have h9_7 := b_174; unfold bd at h9_7; have h8_0 := kb_1; unfold bd at h8_0; have h8_1 := kb_12; unfold bd at h8_1; have h8_2 := kb_125; unfold bd at h8_2; have h8_3 := kb_40; unfold bd at h8_3; omega), (by have h9_0 := b_169; unfold bd at h9_0; have h9_1 := h_182; unfold bd at h9_1; have h9_2 := b_172; unfold bd at h9_2; have h9_3 := h_184; unfold bd at h9_3; have h9_4 := bx_193; unfold bd at h9_4; have h9_5 := by0_; unfold bd at h9_5; have h9_6 := by1_; unfold bd at h9_6; have h9_7 := b_174; unfold bd at h9_7; have h8_0 := kb_1; unfold bd at h8_0; have h8_1 := kb_12; unfold bd at h8_1; have h8_2 := kb_125; unfold bd at h8_2; have h8_3 := kb_40; unfold bd at h8_3; omega)⟩), (fun h9 => ⟨(by have h9_0 := b_169; unfold bd at h9_0; have h9_1 := h_182; unfold bd at h9_1; have h9_2 := b_172; unfold bd at h9_2; have h9_3 := h_184; unfold bd at h9_3; have h9_4 := bx_193; unfold bd at h9_4; have h9_5 := by0_; unfold bd at h9_5; have h9_6 := by1_; unfold bd at h9_6; have h9_7 := b_174; unfold bd at h9_7; have h8_0 := kb_1; unfold bd at h8_0; have h8_1 := kb_12; unfold bd at h8_1; have h8_2 := kb_125; unfold bd at h8_2; have h8_3 := kb_40; unfold bd at h8_3; omega), (by have h9_0 := b_169; unfold bd at h9_0; have h9_1 := h_182; unfold bd at h9_1; have h9_2 := b_172; unfold bd at h9_2; have h9_3 := h_184; unfold bd at h9_3; have h9_4 := bx_193; unfold bd at h9_4; have h9_5 := by0_; unfold bd at h9_5; have h9_6 := by1_; unfold bd at h9_6; have h9_7 := b_174; unfold bd at h9_7; have h8_0 := kb_1; unfold bd at h8_0; have h8_1 := kb_12; unfold bd at h8_1; have h8_2 := kb_125; unfold bd at h8_2; have h8_3 := kb_40; unfold bd at h8_3; omega)⟩), (fun h9 => ⟨(by have h9_0 := b_169; unfold bd at h9_0; have h9_1 := h_182; unfold bd at h9_1; have h9_2 := b_172; unfold bd at h9_2; have h9_3 := h_184; unfold bd at h9_3; have h9_4 := bx_193; unfold bd at h9_4; have h9_5 := by0_; unfold bd at h9_5; have h9_6 := by1_; unfold bd at h9_6; have h9_7 := b_174; unfold bd at h9_7; have h8_0 := kb_1; unfold bd at h8_0; have h8_1 := kb_12; unfold bd at h8_1; have h8_2 := kb_125; unfold bd at h8_2; have h8_3 := kb_40; unfold bd at h8_3; omega), (by have h9_0 := b_169; unfold bd at h9_0; have h9_1 := h_182; unfold bd at h9_1; have h9_2 := b_172; unfold bd at h9_2; have h9_3 := h_184; unfold bd at h9_3; have h9_4 := bx_193; unfold bd at h9_4; have h9_5 := by0_; unfold bd at h9_5; have h9_6 := by1_; unfold bd at h9_6; have h9_7 := b_174; unfold bd at h9_7; have h8_0 := kb_1; unfold bd at h8_0; have h8_1 := kb_12; unfold bd at h8_1; have h8_2 := kb_125; unfold bd at h8_2; have h8_3 := kb_40; unfold bd at h8_3; omega)⟩)⟩ (g.fcts [2, 1, 0] rfl)) (cwV 2 hts (gV_ t_1301 t_1204 t_1205 t_191 t_1206) rfl rfl rfl (by decide +kernel) ⟨(Nat.le_of_ble_eq_true rfl), (Nat.le_of_ble_eq_true rfl)⟩) (pre3V g hK mq3_ kq3_ (by decide) (q := (RX7, TX7, 19)) rfl) rfl rfl hl.1 rfl (lv_room (Nat.le_of_ble_eq_true rfl)) dX2_readStatement_86 ⟨(Nat.le_of_ble_eq_true rfl), (Nat.le_of_ble_eq_true rfl)⟩) g hK (by decide) (by decide) (fx' := [(7, 5, q3_, .ref a_192), (7, 4, q3_, .ref a_191), (7, 15, q3_, .int x_183), (6, 10, q5_, .int y_173), (2, 0, a0_, .ref q0_), (2, 1, a0_, .ref q1_), (2, 2, a0_, .ref q2_), (2, 3, a0_, .ref q3_), (2, 4, a0_, .ref q4_), (2, 5, a0_, .ref q5_), (0, 0, q2_, .ref q0_), (0, 1, q2_, .ref q1_), (5, 0, q1_, .ref q3_), (5, 1, q1_, .ref q9_), (2, 11, a0_, .int y0_), (8, 8, q0_, .int y1_)]) rfl (fun fr_194 H locs hp hMr_194 g => ?_)
        obtain ⟨hG_195, hG_196, hG_197, hx_198, x_199, h_200, hF_201⟩ := hp
        have hG_202 := eOK.frame hMr_194 go_.2.2.2.1 mq2_ kq2_ (by decide) (by decide) hG_190
        have g := g.more hF_201
        have hs_203 := jS.mv hG_189 hG_197
        have hG_204 := bJx.mv hG_186 hMr_194 go_.2.2.2.1 ma0_ ka0_ (by decide) (by decide) (((hMr_194 a0_ ma0_).1 3 (by rw [ka0_]; decide) (by rw [ka0_]; decide)).symm.trans (fx_at g (i := 8) rfl).2.2.2) hG_197
        refine lv_iload_n hx hb dX2_readStatement_89 rfl (lv_at hl 0 rfl) ?_
        by_cases e_205 : r_1 = 22
        · refine lv_topi (fun z_206 ez_206 => ?_)
          obtain rfl : z_206 = 22 := ez_206.trans e_205
          have kb_22 : bd 22 22 (22 : Int32) := ⟨by decide, by decide⟩
          have b_207 : bd 22 22 r_1 := eqX (eq_f e_205) b_169 kb_22 (by decide)
          refine lv_tableIn (off := 38) (tgt := 128) hx hb dX2_readStatement_90 (by decide) (by decide) rfl (by decide) ?_
          refine lv_aload_n hx hb dX2_readStatement_128 rfl (lv_at hl 1 rfl) ?_
          have go_ := g
          refine g_callv (va_runV (As := []) (rest := []) ⟨hx, hb, hml, hown, hts⟩ (r_X2_readLet_2 l dC dI L kd tys fr_194 H.size g.2.2.2.1 a0_ ma0_ ka0_ q0_ mq0_ kq0_ q1_ mq1_ kq1_ q2_ mq2_ kq2_ q3_ mq3_ kq3_ q9_ mq9_ kq9_ y1_ by1_ T_ (fun j9 => jOK fr_194 q3_ j9) hG_195 hG_196 (fun _ h9 => h9) hG_202 (g.fcts [5, 6, 7, 8, 11, 12, 13, 14, 16] rfl)) (cwV 0 hts (gV_ t_1363 t_1365 t_44 t_183 t_1366) rfl rfl rfl (by decide +kernel) ⟨(Nat.le_of_ble_eq_true rfl), (Nat.le_of_ble_eq_true rfl)⟩) (pre3V g hK ma0_ ka0_ (by decide) (q := (RX2, TX2, 16)) rfl) rfl rfl hl.1 rfl (lv_room (Nat.le_of_ble_eq_true rfl)) dX2_readStatement_129 ⟨(Nat.le_of_ble_eq_true rfl), (Nat.le_of_ble_eq_true rfl)⟩) g hK (by decide) (by decide) (fx' := [(7, 5, q3_, .ref a_192), (7, 4, q3_, .ref a_191), (7, 15, q3_, .int x_183), (6, 10, q5_, .int y_173), (2, 0, a0_, .ref q0_), (2, 1, a0_, .ref q1_), (2, 2, a0_, .ref q2_), (2, 3, a0_, .ref q3_), (2, 4, a0_, .ref q4_), (2, 5, a0_, .ref q5_), (0, 0, q2_, .ref q0_), (0, 1, q2_, .ref q1_), (5, 0, q1_, .ref q3_), (5, 1, q1_, .ref q9_), (2, 11, a0_, .int y0_)]) rfl (fun fr_208 H locs hp hMr_208 g => ?_)
          rcases hp with ⟨hG_209, hG_210, hG_211, hG_212, x_213, h_214, x_215, h_216, hF_217⟩ | ⟨hG_218, hG_219, x_220, h_221, x_222, h_223, hF_224⟩
          · have g := g.more hF_217
            have hs_225 := jS.mv hs_203 hG_211
            have hG_226 := bJx.mv hG_204 hMr_208 go_.2.2.2.1 ma0_ ka0_ (by decide) (by decide) (((hMr_208 a0_ ma0_).1 3 (by rw [ka0_]; decide) (by rw [ka0_]; decide)).symm.trans (fx_at g (i := 11) rfl).2.2.2) hG_211
            refine lv_goto (tgt := 191) hx hb dX2_readStatement_132 (by decide) ?_
            subst hQ
            exact W.vret hx hb hr (fun t ht hW => ⟨⟨_, rfl, Or.inl ⟨hG_226, hG_209, hG_210, hs_225, hG_212, x_213, h_214, (g.fcts [0, 1] rfl)⟩, q3_of g hK ht hW⟩, g.2.2.1.F ht⟩) g.2.2.1.2.2 dX2_readStatement_191
          · have g := g.more hF_224
            refine lv_goto (tgt := 191) hx hb dX2_readStatement_132 (by decide) ?_
            subst hQ
            exact W.vret hx hb hr (fun t ht hW => ⟨⟨_, rfl, Or.inr (⟨hG_218, hG_219, x_220, h_221, x_222, h_223, (g.fcts [0, 1] rfl)⟩), q3_of g hK ht hW⟩, g.2.2.1.F ht⟩) g.2.2.1.2.2 dX2_readStatement_191
        by_cases e_227 : r_1 = 23
        · refine lv_topi (fun z_228 ez_228 => ?_)
          obtain rfl : z_228 = 23 := ez_228.trans e_227
          have kb_23 : bd 23 23 (23 : Int32) := ⟨by decide, by decide⟩
          have b_229 : bd 23 23 r_1 := eqX (eq_f e_227) b_169 kb_23 (by decide)
          refine lv_tableIn (off := 45) (tgt := 135) hx hb dX2_readStatement_90 (by decide) (by decide) rfl (by decide) ?_
          refine lv_aload_n hx hb dX2_readStatement_135 rfl (lv_at hl 1 rfl) ?_
          refine lv_iload_n hx hb dX2_readStatement_136 rfl (lv_at hl 0 rfl) ?_
          have go_ := g
          refine g_callv (va_runV (As := [.int r_1]) (rest := []) ⟨hx, hb, hml, hown, hts⟩ (r_X2_readTest_2 l dC dI L kd tys fr_194 H.size g.2.2.2.1 a0_ ma0_ ka0_ r_1 q0_ mq0_ kq0_ q1_ mq1_ kq1_ q2_ mq2_ kq2_ q3_ mq3_ kq3_ q9_ mq9_ kq9_ y1_ by1_ T_ (fun j9 => jOK fr_194 q3_ j9) hG_204 hG_196 hG_195 (fun _ h9 => h9) hG_202 (g.fcts [5, 6, 7, 8, 11, 12, 13, 14, 16] rfl)) (cwV 1 hts (gV_ t_1367 t_1369 t_45 t_183 t_1370) rfl rfl rfl (by decide +kernel) ⟨(Nat.le_of_ble_eq_true rfl), (Nat.le_of_ble_eq_true rfl)⟩) (pre3V g hK ma0_ ka0_ (by decide) (q := (RX2, TX2, 16)) rfl) rfl rfl hl.1 rfl (lv_room (Nat.le_of_ble_eq_true rfl)) dX2_readStatement_137 ⟨(Nat.le_of_ble_eq_true rfl), (Nat.le_of_ble_eq_true rfl)⟩) g hK (by decide) (by decide) (fx' := [(7, 5, q3_, .ref a_192), (7, 4, q3_, .ref a_191), (7, 15, q3_, .int x_183), (6, 10, q5_, .int y_173), (2, 0, a0_, .ref q0_), (2, 1, a0_, .ref q1_), (2, 2, a0_, .ref q2_), (2, 3, a0_, .ref q3_), (2, 4, a0_, .ref q4_), (2, 5, a0_, .ref q5_), (0, 0, q2_, .ref q0_), (0, 1, q2_, .ref q1_), (5, 0, q1_, .ref q3_), (5, 1, q1_, .ref q9_)]) rfl (fun fr_230 H locs hp hMr_230 g => ?_)
          rcases hp with ⟨hG_231, hG_232, hG_233, hG_234, hG_235, x_236, h_237, x_238, h_239, hF_240⟩ | ⟨hG_241, hG_242, x_243, h_244, hF_245⟩
          · have g := g.more hF_240
            have hs_246 := jS.mv hs_203 hG_234
            refine lv_goto (tgt := 191) hx hb dX2_readStatement_140 (by decide) ?_
            subst hQ
            exact W.vret hx hb hr (fun t ht hW => ⟨⟨_, rfl, Or.inl ⟨hG_231, hG_233, hG_232, hs_246, hG_235, x_236, h_237, (g.fcts [0, 2] rfl)⟩, q3_of g hK ht hW⟩, g.2.2.1.F ht⟩) g.2.2.1.2.2 dX2_readStatement_191
          · have g := g.more hF_245
            refine lv_goto (tgt := 191) hx hb dX2_readStatement_140 (by decide) ?_
            have kb_1201 : bd 1201 1201 (1201 : Int32) := ⟨by decide, by decide⟩
            subst hQ
            exact W.vret hx hb hr (fun t ht hW => ⟨⟨_, rfl, Or.inr (⟨hG_241, hG_242, 1201, kb_1201, x_243, h_244, (g.fcts [0, 1] rfl)⟩), q3_of g hK ht hW⟩, g.2.2.1.F ht⟩) g.2.2.1.2.2 dX2_readStatement_191
        by_cases e_247 : r_1 = 24
        · refine lv_topi (fun z_248 ez_248 => ?_)
          obtain rfl : z_248 = 24 := ez_248.trans e_247
          have kb_24 : bd 24 24 (24 : Int32) := ⟨by decide, by decide⟩
          have b_249 : bd 24 24 r_1 := eqX (eq_f e_247) b_169 kb_24 (by decide)
          refine lv_tableIn (off := 67) (tgt := 157) hx hb dX2_readStatement_90 (by decide) (by decide) rfl (by decide) ?_
          refine lv_iload_n hx hb dX2_readStatement_157 rfl (lv_at hl 0 rfl) ?_
          refine lv_bipush (v := 11) hx hb dX2_readStatement_158 (by decide) ?_
          have kb_11 : bd 11 11 (11 : Int32) := ⟨by decide, by decide⟩
          refine lv_icmp_ne (tgt := 173) hx hb dX2_readStatement_160 (by decide) (fun c_250 => ?_) (fun c_250 => ?_)
          · have fc_250 := neq_f c_250
            refine lv_aload_n hx hb dX2_readStatement_173 rfl (lv_at hl 1 rfl) ?_
            have go_ := g
            refine g_calli (va_runV (As := []) (rest := []) ⟨hx, hb, hml, hown, hts⟩ (r_X2_findNamed_2 l dC dI L kd tys fr_194 H.size g.2.2.2.1 a0_ ma0_ ka0_ q0_ mq0_ kq0_ q1_ mq1_ kq1_ q3_ mq3_ kq3_ q4_ mq4_ kq4_ q9_ mq9_ kq9_ y1_ by1_ (g.fcts [5, 6, 8, 9, 14, 16] rfl)) (cwV 0 hts (gV_ t_1388 t_1390 t_49 t_183 t_1391) rfl rfl rfl (by decide +kernel) ⟨(Nat.le_of_ble_eq_true rfl), (Nat.le_of_ble_eq_true rfl)⟩) (pre3V g hK ma0_ ka0_ (by decide) (q := (RX2, TX2, 16)) rfl) rfl rfl hl.1 rfl (lv_room (Nat.le_of_ble_eq_true rfl)) dX2_readStatement_174 ⟨(Nat.le_of_ble_eq_true rfl), (Nat.le_of_ble_eq_true rfl)⟩) g hK (by decide) (by decide) (fx' := [(7, 6, q3_, .int x_199), (7, 5, q3_, .ref a_192), (7, 4, q3_, .ref a_191), (7, 15, q3_, .int x_183), (6, 10, q5_, .int y_173), (2, 0, a0_, .ref q0_), (2, 1, a0_, .ref q1_), (2, 2, a0_, .ref q2_), (2, 3, a0_, .ref q3_), (2, 4, a0_, .ref q4_), (2, 5, a0_, .ref q5_), (0, 0, q2_, .ref q0_), (0, 1, q2_, .ref q1_), (5, 0, q1_, .ref q3_), (5, 1, q1_, .ref q9_), (2, 11, a0_, .int y0_)]) rfl (fun r_251 fr_251 H locs hp hMr_251 g => ?_)
            rcases hp with ⟨h_252, x_253, h_254, x_255, h_256, hF_257⟩ | ⟨h_258, x_259, h_260, hF_261⟩ | ⟨h_262, x_263, h_264, x_265, h_266, x_267, h_268, x_269, h_270, hF_271⟩ | ⟨h_272, x_273, h_274, x_275, h_276, hF_277⟩
            · have hG_278 := dOK.frame hMr_251 go_.2.2.2.1 mq3_ kq3_ (by decide) (by decide) hG_195
              have hG_279 := cOK.frame hMr_251 go_.2.2.2.1 mq3_ kq3_ (by decide) (by decide) hG_196
              have hG_280 := jS.frame hMr_251 go_.2.2.2.1 mq3_ kq3_ (by decide) (by decide) hs_203
              have hG_281 := eOK.frame hMr_251 go_.2.2.2.1 mq2_ kq2_ (by decide) (by decide) hG_202
              have hG_282 := bJx.frame hMr_251 go_.2.2.2.1 ma0_ ka0_ (by decide) (by decide) hG_204
              obtain rfl : r_251 = 0 := h_252
              have g := g.more hF_257
              refine lv_if_eq (tgt := 187) hx hb dX2_readStatement_177 (by decide) (fun c_ => ?_) (fun c_ => absurd (by decide) c_)
              refine lv_aload_n hx hb dX2_readStatement_187 rfl (lv_at hl 1 rfl) ?_
              have go_ := g
              refine g_callv (va_runV (As := []) (rest := []) ⟨hx, hb, hml, hown, hts⟩ (r_X2_readAssignment_2 l dC dI L kd tys fr_251 H.size g.2.2.2.1 a0_ ma0_ ka0_ q0_ mq0_ kq0_ q1_ mq1_ kq1_ q2_ mq2_ kq2_ q3_ mq3_ kq3_ q4_ mq4_ kq4_ q9_ mq9_ kq9_ y1_ by1_ T_ (fun j9 => jOK fr_251 q3_ j9) hG_279 hG_278 (fun _ h9 => h9) hG_281 (g.fcts [8, 9, 10, 11, 12, 14, 15, 16, 17, 2] rfl)) (cwV 0 hts (gV_ t_1397 t_1399 t_51 t_183 t_1400) rfl rfl rfl (by decide +kernel) ⟨(Nat.le_of_ble_eq_true rfl), (Nat.le_of_ble_eq_true rfl)⟩) (pre3V g hK ma0_ ka0_ (by decide) (q := (RX2, TX2, 16)) rfl) rfl rfl hl.1 rfl (lv_room (Nat.le_of_ble_eq_true rfl)) dX2_readStatement_188 ⟨(Nat.le_of_ble_eq_true rfl), (Nat.le_of_ble_eq_true rfl)⟩) g hK (by decide) (by decide) (fx' := [(2, 15, a0_, .int x_253), (7, 5, q3_, .ref a_192), (7, 4, q3_, .ref a_191), (7, 15, q3_, .int x_183), (6, 10, q5_, .int y_173), (2, 0, a0_, .ref q0_), (2, 1, a0_, .ref q1_), (2, 2, a0_, .ref q2_), (2, 3, a0_, .ref q3_), (2, 4, a0_, .ref q4_), (2, 5, a0_, .ref q5_), (0, 0, q2_, .ref q0_), (0, 1, q2_, .ref q1_), (5, 0, q1_, .ref q3_), (5, 1, q1_, .ref q9_), (2, 11, a0_, .int y0_)]) rfl (fun fr_283 H locs hp hMr_283 g => ?_)
              rcases hp with ⟨hG_284, hG_285, hG_286, hG_287, x_288, h_289, hF_290⟩ | ⟨hG_291, hG_292, x_293, h_294, x_295, h_296, hF_297⟩
              · have g := g.more hF_290
                have hs_298 := jS.mv hG_280 hG_286
                have hG_299 := bJx.mv hG_282 hMr_283 go_.2.2.2.1 ma0_ ka0_ (by decide) (by decide) (((hMr_283 a0_ ma0_).1 3 (by rw [ka0_]; decide) (by rw [ka0_]; decide)).symm.trans (fx_at g (i := 11) rfl).2.2.2) hG_286
                subst hQ
                exact W.vret hx hb hr (fun t ht hW => ⟨⟨_, rfl, Or.inl ⟨hG_299, hG_285, hG_284, hs_298, hG_287, x_288, h_289, (g.fcts [0, 1] rfl)⟩, q3_of g hK ht hW⟩, g.2.2.1.F ht⟩) g.2.2.1.2.2 dX2_readStatement_191
              · have g := g.more hF_297
                subst hQ
                exact W.vret hx hb hr (fun t ht hW => ⟨⟨_, rfl, Or.inr (⟨hG_291, hG_292, x_293, h_294, x_295, h_296, (g.fcts [0, 1] rfl)⟩), q3_of g hK ht hW⟩, g.2.2.1.F ht⟩) g.2.2.1.2.2 dX2_readStatement_191
            · have hG_300 := dOK.frame hMr_251 go_.2.2.2.1 mq3_ kq3_ (by decide) (by decide) hG_195
              have hG_301 := cOK.frame hMr_251 go_.2.2.2.1 mq3_ kq3_ (by decide) (by decide) hG_196
              have hG_302 := jS.frame hMr_251 go_.2.2.2.1 mq3_ kq3_ (by decide) (by decide) hs_203
              have hG_303 := eOK.frame hMr_251 go_.2.2.2.1 mq2_ kq2_ (by decide) (by decide) hG_202
              have hG_304 := bJx.frame hMr_251 go_.2.2.2.1 ma0_ ka0_ (by decide) (by decide) hG_204
              obtain rfl : r_251 = 0 := h_258
              have g := g.more hF_261
              refine lv_if_eq (tgt := 187) hx hb dX2_readStatement_177 (by decide) (fun c_ => ?_) (fun c_ => absurd (by decide) c_)
              refine lv_aload_n hx hb dX2_readStatement_187 rfl (lv_at hl 1 rfl) ?_
              have kb_1201 : bd 1201 1201 (1201 : Int32) := ⟨by decide, by decide⟩
              have go_ := g
              refine g_callv (va_runV (As := []) (rest := []) ⟨hx, hb, hml, hown, hts⟩ (r_X2_readAssignment l dC dI L kd tys fr_251 H.size g.2.2.2.1 a0_ ma0_ ka0_ q0_ mq0_ kq0_ q1_ mq1_ kq1_ q2_ mq2_ kq2_ q3_ mq3_ kq3_ q4_ mq4_ kq4_ q9_ mq9_ kq9_ 1201 kb_1201 x_259 h_260 T_ hG_300 hG_303 (g.fcts [7, 8, 9, 10, 11, 13, 14, 15, 16, 0, 1] rfl)) (cwV 0 hts (gV_ t_1397 t_1399 t_51 t_183 t_1400) rfl rfl rfl (by decide +kernel) ⟨(Nat.le_of_ble_eq_true rfl), (Nat.le_of_ble_eq_true rfl)⟩) (pre3V g hK ma0_ ka0_ (by decide) (q := (RX2, TX2, 16)) rfl) rfl rfl hl.1 rfl (lv_room (Nat.le_of_ble_eq_true rfl)) dX2_readStatement_188 ⟨(Nat.le_of_ble_eq_true rfl), (Nat.le_of_ble_eq_true rfl)⟩) g hK (by decide) (by decide) (fx' := [(8, 8, q0_, .int x_259), (7, 5, q3_, .ref a_192), (7, 4, q3_, .ref a_191), (7, 15, q3_, .int x_183), (6, 10, q5_, .int y_173), (2, 0, a0_, .ref q0_), (2, 1, a0_, .ref q1_), (2, 2, a0_, .ref q2_), (2, 3, a0_, .ref q3_), (2, 4, a0_, .ref q4_), (2, 5, a0_, .ref q5_), (0, 0, q2_, .ref q0_), (0, 1, q2_, .ref q1_), (5, 0, q1_, .ref q3_), (5, 1, q1_, .ref q9_), (2, 11, a0_, .int y0_)]) rfl (fun fr_305 H locs hp hMr_305 g => ?_)
              obtain ⟨hG_306, x_307, h_308, hF_309⟩ := hp
              have hG_310 := eOK.frame hMr_305 go_.2.2.2.1 mq2_ kq2_ (by decide) (by decide) hG_303
              have g := g.more hF_309
              subst hQ
              exact W.vret hx hb hr (fun t ht hW => ⟨⟨_, rfl, Or.inr (⟨hG_306, hG_310, x_307, h_308, x_259, h_260, (g.fcts [0, 7] rfl)⟩), q3_of g hK ht hW⟩, g.2.2.1.F ht⟩) g.2.2.1.2.2 dX2_readStatement_191
            · have hG_311 := dOK.frame hMr_251 go_.2.2.2.1 mq3_ kq3_ (by decide) (by decide) hG_195
              have hG_312 := cOK.frame hMr_251 go_.2.2.2.1 mq3_ kq3_ (by decide) (by decide) hG_196
              have hG_313 := jS.frame hMr_251 go_.2.2.2.1 mq3_ kq3_ (by decide) (by decide) hs_203
              have hG_314 := eOK.frame hMr_251 go_.2.2.2.1 mq2_ kq2_ (by decide) (by decide) hG_202
              have hG_315 := bJx.frame hMr_251 go_.2.2.2.1 ma0_ ka0_ (by decide) (by decide) hG_204
              obtain rfl : r_251 = 1 := h_262
              have g := g.more hF_271
              refine lv_if_eq (tgt := 187) hx hb dX2_readStatement_177 (by decide) (fun c_ => absurd c_ (by decide)) (fun c_ => ?_)
              refine lv_aload_n hx hb dX2_readStatement_180 rfl (lv_at hl 1 rfl) ?_
              have kb_17 : bd 17 17 (17 : Int32) := ⟨by decide, by decide⟩
              have go_ := g
              refine g_callv (va_runV (As := []) (rest := []) ⟨hx, hb, hml, hown, hts⟩ (r_X2_readArguments_2 l dC dI L kd tys fr_251 H.size g.2.2.2.1 a0_ ma0_ ka0_ q0_ mq0_ kq0_ q1_ mq1_ kq1_ q2_ mq2_ kq2_ q3_ mq3_ kq3_ q9_ mq9_ kq9_ 17 (bd_sub kb_17 (by decide)) y1_ by1_ T_ (fun j9 => jOK fr_251 q3_ j9) hG_312 hG_311 (fun _ h9 => h9) hG_314 (g.fcts [11, 12, 13, 14, 17, 18, 19, 20, 3, 5] rfl)) (cwV 0 hts (gV_ t_1393 t_1395 t_50 t_183 t_1396) rfl rfl rfl (by decide +kernel) ⟨(Nat.le_of_ble_eq_true rfl), (Nat.le_of_ble_eq_true rfl)⟩) (pre3V g hK ma0_ ka0_ (by decide) (q := (RX2, TX2, 16)) rfl) rfl rfl hl.1 rfl (lv_room (Nat.le_of_ble_eq_true rfl)) dX2_readStatement_181 ⟨(Nat.le_of_ble_eq_true rfl), (Nat.le_of_ble_eq_true rfl)⟩) g hK (by decide) (by decide) (fx' := [(2, 15, a0_, .int x_263), (2, 14, a0_, .int x_265), (2, 13, a0_, .int x_267), (2, 12, a0_, .int 17), (7, 5, q3_, .ref a_192), (7, 4, q3_, .ref a_191), (7, 15, q3_, .int x_183), (6, 10, q5_, .int y_173), (2, 0, a0_, .ref q0_), (2, 1, a0_, .ref q1_), (2, 2, a0_, .ref q2_), (2, 3, a0_, .ref q3_), (2, 4, a0_, .ref q4_), (2, 5, a0_, .ref q5_), (0, 0, q2_, .ref q0_), (0, 1, q2_, .ref q1_), (5, 0, q1_, .ref q3_), (5, 1, q1_, .ref q9_), (2, 11, a0_, .int y0_)]) rfl (fun fr_316 H locs hp hMr_316 g => ?_)
              rcases hp with ⟨hG_317, hG_318, hG_319, hG_320, x_321, h_322, hF_323⟩ | ⟨hG_324, hG_325, x_326, h_327, x_328, h_329, hF_330⟩
              · have g := g.more hF_323
                have hs_331 := jS.mv hG_313 hG_319
                have hG_332 := bJx.mv hG_315 hMr_316 go_.2.2.2.1 ma0_ ka0_ (by decide) (by decide) (((hMr_316 a0_ ma0_).1 3 (by rw [ka0_]; decide) (by rw [ka0_]; decide)).symm.trans (fx_at g (i := 13) rfl).2.2.2) hG_319
                refine lv_goto (tgt := 191) hx hb dX2_readStatement_184 (by decide) ?_
                subst hQ
                exact W.vret hx hb hr (fun t ht hW => ⟨⟨_, rfl, Or.inl ⟨hG_332, hG_318, hG_317, hs_331, hG_320, x_321, h_322, (g.fcts [0, 1] rfl)⟩, q3_of g hK ht hW⟩, g.2.2.1.F ht⟩) g.2.2.1.2.2 dX2_readStatement_191
              · have g := g.more hF_330
                refine lv_goto (tgt := 191) hx hb dX2_readStatement_184 (by decide) ?_
                subst hQ
                exact W.vret hx hb hr (fun t ht hW => ⟨⟨_, rfl, Or.inr (⟨hG_324, hG_325, x_326, h_327, x_328, h_329, (g.fcts [0, 1] rfl)⟩), q3_of g hK ht hW⟩, g.2.2.1.F ht⟩) g.2.2.1.2.2 dX2_readStatement_191
            · have hG_333 := dOK.frame hMr_251 go_.2.2.2.1 mq3_ kq3_ (by decide) (by decide) hG_195
              have hG_334 := cOK.frame hMr_251 go_.2.2.2.1 mq3_ kq3_ (by decide) (by decide) hG_196
              have hG_335 := jS.frame hMr_251 go_.2.2.2.1 mq3_ kq3_ (by decide) (by decide) hs_203
              have hG_336 := eOK.frame hMr_251 go_.2.2.2.1 mq2_ kq2_ (by decide) (by decide) hG_202
              have hG_337 := bJx.frame hMr_251 go_.2.2.2.1 ma0_ ka0_ (by decide) (by decide) hG_204
              obtain rfl : r_251 = 1 := h_272
              have g := g.more hF_277
              refine lv_if_eq (tgt := 187) hx hb dX2_readStatement_177 (by decide) (fun c_ => absurd c_ (by decide)) (fun c_ => ?_)
              refine lv_aload_n hx hb dX2_readStatement_180 rfl (lv_at hl 1 rfl) ?_
              have kb_1201 : bd 1201 1201 (1201 : Int32) := ⟨by decide, by decide⟩
              have go_ := g
              refine g_callv (va_runV (As := []) (rest := []) ⟨hx, hb, hml, hown, hts⟩ (r_X2_readArguments_3 l dC dI L kd tys fr_251 H.size g.2.2.2.1 a0_ ma0_ ka0_ q0_ mq0_ kq0_ q1_ mq1_ kq1_ q2_ mq2_ kq2_ q3_ mq3_ kq3_ q9_ mq9_ kq9_ 1201 kb_1201 x_275 h_276 T_ hG_333 hG_336 (g.fcts [8, 9, 10, 11, 14, 15, 16, 17, 1, 2] rfl)) (cwV 0 hts (gV_ t_1393 t_1395 t_50 t_183 t_1396) rfl rfl rfl (by decide +kernel) ⟨(Nat.le_of_ble_eq_true rfl), (Nat.le_of_ble_eq_true rfl)⟩) (pre3V g hK ma0_ ka0_ (by decide) (q := (RX2, TX2, 16)) rfl) rfl rfl hl.1 rfl (lv_room (Nat.le_of_ble_eq_true rfl)) dX2_readStatement_181 ⟨(Nat.le_of_ble_eq_true rfl), (Nat.le_of_ble_eq_true rfl)⟩) g hK (by decide) (by decide) (fx' := [(2, 15, a0_, .int x_273), (8, 8, q0_, .int x_275), (7, 5, q3_, .ref a_192), (7, 4, q3_, .ref a_191), (7, 15, q3_, .int x_183), (6, 10, q5_, .int y_173), (2, 0, a0_, .ref q0_), (2, 1, a0_, .ref q1_), (2, 2, a0_, .ref q2_), (2, 3, a0_, .ref q3_), (2, 4, a0_, .ref q4_), (2, 5, a0_, .ref q5_), (0, 0, q2_, .ref q0_), (0, 1, q2_, .ref q1_), (5, 0, q1_, .ref q3_), (5, 1, q1_, .ref q9_), (2, 11, a0_, .int y0_)]) rfl (fun fr_338 H locs hp hMr_338 g => ?_)
              obtain ⟨hG_339, x_340, h_341, hF_342⟩ := hp
              have hG_343 := eOK.frame hMr_338 go_.2.2.2.1 mq2_ kq2_ (by decide) (by decide) hG_336
              have g := g.more hF_342
              refine lv_goto (tgt := 191) hx hb dX2_readStatement_184 (by decide) ?_
              subst hQ
              exact W.vret hx hb hr (fun t ht hW => ⟨⟨_, rfl, Or.inr (⟨hG_339, hG_343, x_340, h_341, x_275, h_276, (g.fcts [0, 2] rfl)⟩), q3_of g hK ht hW⟩, g.2.2.1.F ht⟩) g.2.2.1.2.2 dX2_readStatement_191
          · have fc_250 := eq_f c_250
            have b_344 : bd 24 11 r_1 := eqX fc_250 b_249 kb_11 (by decide)
            exact bd_no b_344 (by decide)
        by_cases e_345 : r_1 = 25
        · refine lv_topi (fun z_346 ez_346 => ?_)
          obtain rfl : z_346 = 25 := ez_346.trans e_345
          have kb_25 : bd 25 25 (25 : Int32) := ⟨by decide, by decide⟩
          have b_347 : bd 25 25 r_1 := eqX (eq_f e_345) b_169 kb_25 (by decide)
          refine lv_tableIn (off := 45) (tgt := 135) hx hb dX2_readStatement_90 (by decide) (by decide) rfl (by decide) ?_
          refine lv_aload_n hx hb dX2_readStatement_135 rfl (lv_at hl 1 rfl) ?_
          refine lv_iload_n hx hb dX2_readStatement_136 rfl (lv_at hl 0 rfl) ?_
          have go_ := g
          refine g_callv (va_runV (As := [.int r_1]) (rest := []) ⟨hx, hb, hml, hown, hts⟩ (r_X2_readTest_2 l dC dI L kd tys fr_194 H.size g.2.2.2.1 a0_ ma0_ ka0_ r_1 q0_ mq0_ kq0_ q1_ mq1_ kq1_ q2_ mq2_ kq2_ q3_ mq3_ kq3_ q9_ mq9_ kq9_ y1_ by1_ T_ (fun j9 => jOK fr_194 q3_ j9) hG_204 hG_196 hG_195 (fun _ h9 => h9) hG_202 (g.fcts [5, 6, 7, 8, 11, 12, 13, 14, 16] rfl)) (cwV 1 hts (gV_ t_1367 t_1369 t_45 t_183 t_1370) rfl rfl rfl (by decide +kernel) ⟨(Nat.le_of_ble_eq_true rfl), (Nat.le_of_ble_eq_true rfl)⟩) (pre3V g hK ma0_ ka0_ (by decide) (q := (RX2, TX2, 16)) rfl) rfl rfl hl.1 rfl (lv_room (Nat.le_of_ble_eq_true rfl)) dX2_readStatement_137 ⟨(Nat.le_of_ble_eq_true rfl), (Nat.le_of_ble_eq_true rfl)⟩) g hK (by decide) (by decide) (fx' := [(7, 5, q3_, .ref a_192), (7, 4, q3_, .ref a_191), (7, 15, q3_, .int x_183), (6, 10, q5_, .int y_173), (2, 0, a0_, .ref q0_), (2, 1, a0_, .ref q1_), (2, 2, a0_, .ref q2_), (2, 3, a0_, .ref q3_), (2, 4, a0_, .ref q4_), (2, 5, a0_, .ref q5_), (0, 0, q2_, .ref q0_), (0, 1, q2_, .ref q1_), (5, 0, q1_, .ref q3_), (5, 1, q1_, .ref q9_)]) rfl (fun fr_348 H locs hp hMr_348 g => ?_)
          rcases hp with ⟨hG_349, hG_350, hG_351, hG_352, hG_353, x_354, h_355, x_356, h_357, hF_358⟩ | ⟨hG_359, hG_360, x_361, h_362, hF_363⟩
          · have g := g.more hF_358
            have hs_364 := jS.mv hs_203 hG_352
            refine lv_goto (tgt := 191) hx hb dX2_readStatement_140 (by decide) ?_
            subst hQ
            exact W.vret hx hb hr (fun t ht hW => ⟨⟨_, rfl, Or.inl ⟨hG_349, hG_351, hG_350, hs_364, hG_353, x_354, h_355, (g.fcts [0, 2] rfl)⟩, q3_of g hK ht hW⟩, g.2.2.1.F ht⟩) g.2.2.1.2.2 dX2_readStatement_191
          · have g := g.more hF_363
            refine lv_goto (tgt := 191) hx hb dX2_readStatement_140 (by decide) ?_
            have kb_1201 : bd 1201 1201 (1201 : Int32) := ⟨by decide, by decide⟩
            subst hQ
            exact W.vret hx hb hr (fun t ht hW => ⟨⟨_, rfl, Or.inr (⟨hG_359, hG_360, 1201, kb_1201, x_361, h_362, (g.fcts [0, 1] rfl)⟩), q3_of g hK ht hW⟩, g.2.2.1.F ht⟩) g.2.2.1.2.2 dX2_readStatement_191
        by_cases e_365 : r_1 = 26
        · refine lv_topi (fun z_366 ez_366 => ?_)
          obtain rfl : z_366 = 26 := ez_366.trans e_365
          have kb_26 : bd 26 26 (26 : Int32) := ⟨by decide, by decide⟩
          have b_367 : bd 26 26 r_1 := eqX (eq_f e_365) b_169 kb_26 (by decide)
          refine lv_tableIn (off := 53) (tgt := 143) hx hb dX2_readStatement_90 (by decide) (by decide) rfl (by decide) ?_
          refine lv_aload_n hx hb dX2_readStatement_143 rfl (lv_at hl 1 rfl) ?_
          have go_ := g
          refine g_callv (va_runV (As := []) (rest := []) ⟨hx, hb, hml, hown, hts⟩ (r_X2_readReturn_2 l dC dI L kd tys fr_194 H.size g.2.2.2.1 a0_ ma0_ ka0_ q0_ mq0_ kq0_ q1_ mq1_ kq1_ q2_ mq2_ kq2_ q3_ mq3_ kq3_ q9_ mq9_ kq9_ y1_ by1_ T_ (fun j9 => jOK fr_194 q3_ j9) hG_196 hG_195 (fun _ h9 => h9) hG_202 (g.fcts [5, 6, 7, 8, 11, 12, 13, 14, 16] rfl)) (cwV 0 hts (gV_ t_1371 t_1373 t_46 t_183 t_1374) rfl rfl rfl (by decide +kernel) ⟨(Nat.le_of_ble_eq_true rfl), (Nat.le_of_ble_eq_true rfl)⟩) (pre3V g hK ma0_ ka0_ (by decide) (q := (RX2, TX2, 16)) rfl) rfl rfl hl.1 rfl (lv_room (Nat.le_of_ble_eq_true rfl)) dX2_readStatement_144 ⟨(Nat.le_of_ble_eq_true rfl), (Nat.le_of_ble_eq_true rfl)⟩) g hK (by decide) (by decide) (fx' := [(7, 5, q3_, .ref a_192), (7, 4, q3_, .ref a_191), (7, 15, q3_, .int x_183), (6, 10, q5_, .int y_173), (2, 0, a0_, .ref q0_), (2, 1, a0_, .ref q1_), (2, 2, a0_, .ref q2_), (2, 3, a0_, .ref q3_), (2, 4, a0_, .ref q4_), (2, 5, a0_, .ref q5_), (0, 0, q2_, .ref q0_), (0, 1, q2_, .ref q1_), (5, 0, q1_, .ref q3_), (5, 1, q1_, .ref q9_), (2, 11, a0_, .int y0_)]) rfl (fun fr_368 H locs hp hMr_368 g => ?_)
          rcases hp with ⟨hG_369, hG_370, hG_371, hG_372, x_373, h_374, hF_375⟩ | ⟨hG_376, hG_377, x_378, h_379, x_380, h_381, hF_382⟩
          · have g := g.more hF_375
            have hs_383 := jS.mv hs_203 hG_371
            have hG_384 := bJx.mv hG_204 hMr_368 go_.2.2.2.1 ma0_ ka0_ (by decide) (by decide) (((hMr_368 a0_ ma0_).1 3 (by rw [ka0_]; decide) (by rw [ka0_]; decide)).symm.trans (fx_at g (i := 10) rfl).2.2.2) hG_371
            refine lv_goto (tgt := 191) hx hb dX2_readStatement_147 (by decide) ?_
            subst hQ
            exact W.vret hx hb hr (fun t ht hW => ⟨⟨_, rfl, Or.inl ⟨hG_384, hG_370, hG_369, hs_383, hG_372, x_373, h_374, (g.fcts [0, 1] rfl)⟩, q3_of g hK ht hW⟩, g.2.2.1.F ht⟩) g.2.2.1.2.2 dX2_readStatement_191
          · have g := g.more hF_382
            refine lv_goto (tgt := 191) hx hb dX2_readStatement_147 (by decide) ?_
            subst hQ
            exact W.vret hx hb hr (fun t ht hW => ⟨⟨_, rfl, Or.inr (⟨hG_376, hG_377, x_378, h_379, x_380, h_381, (g.fcts [0, 1] rfl)⟩), q3_of g hK ht hW⟩, g.2.2.1.F ht⟩) g.2.2.1.2.2 dX2_readStatement_191
        by_cases e_385 : r_1 = 27
        · refine lv_topi (fun z_386 ez_386 => ?_)
          obtain rfl : z_386 = 27 := ez_386.trans e_385
          have kb_27 : bd 27 27 (27 : Int32) := ⟨by decide, by decide⟩
          have b_387 : bd 27 27 r_1 := eqX (eq_f e_385) b_169 kb_27 (by decide)
          refine lv_tableIn (off := 60) (tgt := 150) hx hb dX2_readStatement_90 (by decide) (by decide) rfl (by decide) ?_
          refine lv_aload_n hx hb dX2_readStatement_150 rfl (lv_at hl 1 rfl) ?_
          have go_ := g
          refine g_callv (va_runV (As := []) (rest := []) ⟨hx, hb, hml, hown, hts⟩ (r_X2_readThrow_2 l dC dI L kd tys fr_194 H.size g.2.2.2.1 a0_ ma0_ ka0_ q0_ mq0_ kq0_ q3_ mq3_ kq3_ y1_ by1_ T_ (fun j9 => jOK fr_194 q3_ j9) hG_196 hG_195 (fun _ h9 => h9) (g.fcts [5, 8, 16] rfl)) (cwV 0 hts (gV_ t_1375 t_1377 t_47 t_183 t_1378) rfl rfl rfl (by decide +kernel) ⟨(Nat.le_of_ble_eq_true rfl), (Nat.le_of_ble_eq_true rfl)⟩) (pre3V g hK ma0_ ka0_ (by decide) (q := (RX2, TX2, 16)) rfl) rfl rfl hl.1 rfl (lv_room (Nat.le_of_ble_eq_true rfl)) dX2_readStatement_151 ⟨(Nat.le_of_ble_eq_true rfl), (Nat.le_of_ble_eq_true rfl)⟩) g hK (by decide) (by decide) (fx' := [(7, 5, q3_, .ref a_192), (7, 4, q3_, .ref a_191), (7, 15, q3_, .int x_183), (6, 10, q5_, .int y_173), (2, 0, a0_, .ref q0_), (2, 1, a0_, .ref q1_), (2, 2, a0_, .ref q2_), (2, 3, a0_, .ref q3_), (2, 4, a0_, .ref q4_), (2, 5, a0_, .ref q5_), (0, 0, q2_, .ref q0_), (0, 1, q2_, .ref q1_), (5, 0, q1_, .ref q3_), (5, 1, q1_, .ref q9_), (2, 11, a0_, .int y0_)]) rfl (fun fr_388 H locs hp hMr_388 g => ?_)
          rcases hp with ⟨hG_389, hG_390, hG_391, x_392, h_393, x_394, h_395, hF_396⟩ | ⟨hG_397, hG_398, hG_399, x_400, h_401, x_402, h_403, x_404, h_405, hF_406⟩
          · have hG_407 := eOK.frame hMr_388 go_.2.2.2.1 mq2_ kq2_ (by decide) (by decide) hG_202
            have g := g.more hF_396
            have hs_408 := jS.mv hs_203 hG_391
            have hG_409 := bJx.mv hG_204 hMr_388 go_.2.2.2.1 ma0_ ka0_ (by decide) (by decide) (((hMr_388 a0_ ma0_).1 3 (by rw [ka0_]; decide) (by rw [ka0_]; decide)).symm.trans (fx_at g (i := 10) rfl).2.2.2) hG_391
            refine lv_goto (tgt := 191) hx hb dX2_readStatement_154 (by decide) ?_
            subst hQ
            exact W.vret hx hb hr (fun t ht hW => ⟨⟨_, rfl, Or.inl ⟨hG_409, hG_390, hG_389, hs_408, hG_407, x_392, h_393, (g.fcts [0, 1] rfl)⟩, q3_of g hK ht hW⟩, g.2.2.1.F ht⟩) g.2.2.1.2.2 dX2_readStatement_191
          · have hG_410 := eOK.frame hMr_388 go_.2.2.2.1 mq2_ kq2_ (by decide) (by decide) hG_202
            have g := g.more hF_406
            have hs_411 := jS.mv hs_203 hG_399
            have hG_412 := bJx.mv hG_204 hMr_388 go_.2.2.2.1 ma0_ ka0_ (by decide) (by decide) (((hMr_388 a0_ ma0_).1 3 (by rw [ka0_]; decide) (by rw [ka0_]; decide)).symm.trans (fx_at g (i := 10) rfl).2.2.2) hG_399
            refine lv_goto (tgt := 191) hx hb dX2_readStatement_154 (by decide) ?_
            subst hQ
            exact W.vret hx hb hr (fun t ht hW => ⟨⟨_, rfl, Or.inr (⟨hG_398, hG_410, x_400, h_401, x_402, h_403, (g.fcts [0, 1] rfl)⟩), q3_of g hK ht hW⟩, g.2.2.1.F ht⟩) g.2.2.1.2.2 dX2_readStatement_191
        refine lv_tableOut (tgt := 157) hx hb dX2_readStatement_90 (by have a0 : r_1.toInt ≠ 22 := fun h => e_205 (Int32.toInt_inj.mp (h.trans (by decide))); have a1 : r_1.toInt ≠ 23 := fun h => e_227 (Int32.toInt_inj.mp (h.trans (by decide))); have a2 : r_1.toInt ≠ 24 := fun h => e_247 (Int32.toInt_inj.mp (h.trans (by decide))); have a3 : r_1.toInt ≠ 25 := fun h => e_345 (Int32.toInt_inj.mp (h.trans (by decide))); have a4 : r_1.toInt ≠ 26 := fun h => e_365 (Int32.toInt_inj.mp (h.trans (by decide))); have a5 : r_1.toInt ≠ 27 := fun h => e_385 (Int32.toInt_inj.mp (h.trans (by decide))); omega) (by decide) ?_
        refine lv_iload_n hx hb dX2_readStatement_157 rfl (lv_at hl 0 rfl) ?_
        refine lv_bipush (v := 11) hx hb dX2_readStatement_158 (by decide) ?_
        have kb_11 : bd 11 11 (11 : Int32) := ⟨by decide, by decide⟩
        refine lv_icmp_ne (tgt := 173) hx hb dX2_readStatement_160 (by decide) (fun c_413 => ?_) (fun c_413 => ?_)
        · have fc_413 := neq_f c_413
          refine lv_aload_n hx hb dX2_readStatement_173 rfl (lv_at hl 1 rfl) ?_
          have go_ := g
          refine g_calli (va_runV (As := []) (rest := []) ⟨hx, hb, hml, hown, hts⟩ (r_X2_findNamed_2 l dC dI L kd tys fr_194 H.size g.2.2.2.1 a0_ ma0_ ka0_ q0_ mq0_ kq0_ q1_ mq1_ kq1_ q3_ mq3_ kq3_ q4_ mq4_ kq4_ q9_ mq9_ kq9_ y1_ by1_ (g.fcts [5, 6, 8, 9, 14, 16] rfl)) (cwV 0 hts (gV_ t_1388 t_1390 t_49 t_183 t_1391) rfl rfl rfl (by decide +kernel) ⟨(Nat.le_of_ble_eq_true rfl), (Nat.le_of_ble_eq_true rfl)⟩) (pre3V g hK ma0_ ka0_ (by decide) (q := (RX2, TX2, 16)) rfl) rfl rfl hl.1 rfl (lv_room (Nat.le_of_ble_eq_true rfl)) dX2_readStatement_174 ⟨(Nat.le_of_ble_eq_true rfl), (Nat.le_of_ble_eq_true rfl)⟩) g hK (by decide) (by decide) (fx' := [(7, 6, q3_, .int x_199), (7, 5, q3_, .ref a_192), (7, 4, q3_, .ref a_191), (7, 15, q3_, .int x_183), (6, 10, q5_, .int y_173), (2, 0, a0_, .ref q0_), (2, 1, a0_, .ref q1_), (2, 2, a0_, .ref q2_), (2, 3, a0_, .ref q3_), (2, 4, a0_, .ref q4_), (2, 5, a0_, .ref q5_), (0, 0, q2_, .ref q0_), (0, 1, q2_, .ref q1_), (5, 0, q1_, .ref q3_), (5, 1, q1_, .ref q9_), (2, 11, a0_, .int y0_)]) rfl (fun r_414 fr_414 H locs hp hMr_414 g => ?_)
          rcases hp with ⟨h_415, x_416, h_417, x_418, h_419, hF_420⟩ | ⟨h_421, x_422, h_423, hF_424⟩ | ⟨h_425, x_426, h_427, x_428, h_429, x_430, h_431, x_432, h_433, hF_434⟩ | ⟨h_435, x_436, h_437, x_438, h_439, hF_440⟩
          · have hG_441 := dOK.frame hMr_414 go_.2.2.2.1 mq3_ kq3_ (by decide) (by decide) hG_195
            have hG_442 := cOK.frame hMr_414 go_.2.2.2.1 mq3_ kq3_ (by decide) (by decide) hG_196
            have hG_443 := jS.frame hMr_414 go_.2.2.2.1 mq3_ kq3_ (by decide) (by decide) hs_203
            have hG_444 := eOK.frame hMr_414 go_.2.2.2.1 mq2_ kq2_ (by decide) (by decide) hG_202
            have hG_445 := bJx.frame hMr_414 go_.2.2.2.1 ma0_ ka0_ (by decide) (by decide) hG_204
            obtain rfl : r_414 = 0 := h_415
            have g := g.more hF_420
            refine lv_if_eq (tgt := 187) hx hb dX2_readStatement_177 (by decide) (fun c_ => ?_) (fun c_ => absurd (by decide) c_)
            refine lv_aload_n hx hb dX2_readStatement_187 rfl (lv_at hl 1 rfl) ?_
            have go_ := g
            refine g_callv (va_runV (As := []) (rest := []) ⟨hx, hb, hml, hown, hts⟩ (r_X2_readAssignment_2 l dC dI L kd tys fr_414 H.size g.2.2.2.1 a0_ ma0_ ka0_ q0_ mq0_ kq0_ q1_ mq1_ kq1_ q2_ mq2_ kq2_ q3_ mq3_ kq3_ q4_ mq4_ kq4_ q9_ mq9_ kq9_ y1_ by1_ T_ (fun j9 => jOK fr_414 q3_ j9) hG_442 hG_441 (fun _ h9 => h9) hG_444 (g.fcts [8, 9, 10, 11, 12, 14, 15, 16, 17, 2] rfl)) (cwV 0 hts (gV_ t_1397 t_1399 t_51 t_183 t_1400) rfl rfl rfl (by decide +kernel) ⟨(Nat.le_of_ble_eq_true rfl), (Nat.le_of_ble_eq_true rfl)⟩) (pre3V g hK ma0_ ka0_ (by decide) (q := (RX2, TX2, 16)) rfl) rfl rfl hl.1 rfl (lv_room (Nat.le_of_ble_eq_true rfl)) dX2_readStatement_188 ⟨(Nat.le_of_ble_eq_true rfl), (Nat.le_of_ble_eq_true rfl)⟩) g hK (by decide) (by decide) (fx' := [(2, 15, a0_, .int x_416), (7, 5, q3_, .ref a_192), (7, 4, q3_, .ref a_191), (7, 15, q3_, .int x_183), (6, 10, q5_, .int y_173), (2, 0, a0_, .ref q0_), (2, 1, a0_, .ref q1_), (2, 2, a0_, .ref q2_), (2, 3, a0_, .ref q3_), (2, 4, a0_, .ref q4_), (2, 5, a0_, .ref q5_), (0, 0, q2_, .ref q0_), (0, 1, q2_, .ref q1_), (5, 0, q1_, .ref q3_), (5, 1, q1_, .ref q9_), (2, 11, a0_, .int y0_)]) rfl (fun fr_446 H locs hp hMr_446 g => ?_)
            rcases hp with ⟨hG_447, hG_448, hG_449, hG_450, x_451, h_452, hF_453⟩ | ⟨hG_454, hG_455, x_456, h_457, x_458, h_459, hF_460⟩
            · have g := g.more hF_453
              have hs_461 := jS.mv hG_443 hG_449
              have hG_462 := bJx.mv hG_445 hMr_446 go_.2.2.2.1 ma0_ ka0_ (by decide) (by decide) (((hMr_446 a0_ ma0_).1 3 (by rw [ka0_]; decide) (by rw [ka0_]; decide)).symm.trans (fx_at g (i := 11) rfl).2.2.2) hG_449
              subst hQ
              exact W.vret hx hb hr (fun t ht hW => ⟨⟨_, rfl, Or.inl ⟨hG_462, hG_448, hG_447, hs_461, hG_450, x_451, h_452, (g.fcts [0, 1] rfl)⟩, q3_of g hK ht hW⟩, g.2.2.1.F ht⟩) g.2.2.1.2.2 dX2_readStatement_191
            · have g := g.more hF_460
              subst hQ
              exact W.vret hx hb hr (fun t ht hW => ⟨⟨_, rfl, Or.inr (⟨hG_454, hG_455, x_456, h_457, x_458, h_459, (g.fcts [0, 1] rfl)⟩), q3_of g hK ht hW⟩, g.2.2.1.F ht⟩) g.2.2.1.2.2 dX2_readStatement_191
          · have hG_463 := dOK.frame hMr_414 go_.2.2.2.1 mq3_ kq3_ (by decide) (by decide) hG_195
            have hG_464 := cOK.frame hMr_414 go_.2.2.2.1 mq3_ kq3_ (by decide) (by decide) hG_196
            have hG_465 := jS.frame hMr_414 go_.2.2.2.1 mq3_ kq3_ (by decide) (by decide) hs_203
            have hG_466 := eOK.frame hMr_414 go_.2.2.2.1 mq2_ kq2_ (by decide) (by decide) hG_202
            have hG_467 := bJx.frame hMr_414 go_.2.2.2.1 ma0_ ka0_ (by decide) (by decide) hG_204
            obtain rfl : r_414 = 0 := h_421
            have g := g.more hF_424
            refine lv_if_eq (tgt := 187) hx hb dX2_readStatement_177 (by decide) (fun c_ => ?_) (fun c_ => absurd (by decide) c_)
            refine lv_aload_n hx hb dX2_readStatement_187 rfl (lv_at hl 1 rfl) ?_
            have kb_1201 : bd 1201 1201 (1201 : Int32) := ⟨by decide, by decide⟩
            have go_ := g
            refine g_callv (va_runV (As := []) (rest := []) ⟨hx, hb, hml, hown, hts⟩ (r_X2_readAssignment l dC dI L kd tys fr_414 H.size g.2.2.2.1 a0_ ma0_ ka0_ q0_ mq0_ kq0_ q1_ mq1_ kq1_ q2_ mq2_ kq2_ q3_ mq3_ kq3_ q4_ mq4_ kq4_ q9_ mq9_ kq9_ 1201 kb_1201 x_422 h_423 T_ hG_463 hG_466 (g.fcts [7, 8, 9, 10, 11, 13, 14, 15, 16, 0, 1] rfl)) (cwV 0 hts (gV_ t_1397 t_1399 t_51 t_183 t_1400) rfl rfl rfl (by decide +kernel) ⟨(Nat.le_of_ble_eq_true rfl), (Nat.le_of_ble_eq_true rfl)⟩) (pre3V g hK ma0_ ka0_ (by decide) (q := (RX2, TX2, 16)) rfl) rfl rfl hl.1 rfl (lv_room (Nat.le_of_ble_eq_true rfl)) dX2_readStatement_188 ⟨(Nat.le_of_ble_eq_true rfl), (Nat.le_of_ble_eq_true rfl)⟩) g hK (by decide) (by decide) (fx' := [(8, 8, q0_, .int x_422), (7, 5, q3_, .ref a_192), (7, 4, q3_, .ref a_191), (7, 15, q3_, .int x_183), (6, 10, q5_, .int y_173), (2, 0, a0_, .ref q0_), (2, 1, a0_, .ref q1_), (2, 2, a0_, .ref q2_), (2, 3, a0_, .ref q3_), (2, 4, a0_, .ref q4_), (2, 5, a0_, .ref q5_), (0, 0, q2_, .ref q0_), (0, 1, q2_, .ref q1_), (5, 0, q1_, .ref q3_), (5, 1, q1_, .ref q9_), (2, 11, a0_, .int y0_)]) rfl (fun fr_468 H locs hp hMr_468 g => ?_)
            obtain ⟨hG_469, x_470, h_471, hF_472⟩ := hp
            have hG_473 := eOK.frame hMr_468 go_.2.2.2.1 mq2_ kq2_ (by decide) (by decide) hG_466
            have g := g.more hF_472
            subst hQ
            exact W.vret hx hb hr (fun t ht hW => ⟨⟨_, rfl, Or.inr (⟨hG_469, hG_473, x_470, h_471, x_422, h_423, (g.fcts [0, 7] rfl)⟩), q3_of g hK ht hW⟩, g.2.2.1.F ht⟩) g.2.2.1.2.2 dX2_readStatement_191
          · have hG_474 := dOK.frame hMr_414 go_.2.2.2.1 mq3_ kq3_ (by decide) (by decide) hG_195
            have hG_475 := cOK.frame hMr_414 go_.2.2.2.1 mq3_ kq3_ (by decide) (by decide) hG_196
            have hG_476 := jS.frame hMr_414 go_.2.2.2.1 mq3_ kq3_ (by decide) (by decide) hs_203
            have hG_477 := eOK.frame hMr_414 go_.2.2.2.1 mq2_ kq2_ (by decide) (by decide) hG_202
            have hG_478 := bJx.frame hMr_414 go_.2.2.2.1 ma0_ ka0_ (by decide) (by decide) hG_204
            obtain rfl : r_414 = 1 := h_425
            have g := g.more hF_434
            refine lv_if_eq (tgt := 187) hx hb dX2_readStatement_177 (by decide) (fun c_ => absurd c_ (by decide)) (fun c_ => ?_)
            refine lv_aload_n hx hb dX2_readStatement_180 rfl (lv_at hl 1 rfl) ?_
            have kb_17 : bd 17 17 (17 : Int32) := ⟨by decide, by decide⟩
            have go_ := g
            refine g_callv (va_runV (As := []) (rest := []) ⟨hx, hb, hml, hown, hts⟩ (r_X2_readArguments_2 l dC dI L kd tys fr_414 H.size g.2.2.2.1 a0_ ma0_ ka0_ q0_ mq0_ kq0_ q1_ mq1_ kq1_ q2_ mq2_ kq2_ q3_ mq3_ kq3_ q9_ mq9_ kq9_ 17 (bd_sub kb_17 (by decide)) y1_ by1_ T_ (fun j9 => jOK fr_414 q3_ j9) hG_475 hG_474 (fun _ h9 => h9) hG_477 (g.fcts [11, 12, 13, 14, 17, 18, 19, 20, 3, 5] rfl)) (cwV 0 hts (gV_ t_1393 t_1395 t_50 t_183 t_1396) rfl rfl rfl (by decide +kernel) ⟨(Nat.le_of_ble_eq_true rfl), (Nat.le_of_ble_eq_true rfl)⟩) (pre3V g hK ma0_ ka0_ (by decide) (q := (RX2, TX2, 16)) rfl) rfl rfl hl.1 rfl (lv_room (Nat.le_of_ble_eq_true rfl)) dX2_readStatement_181 ⟨(Nat.le_of_ble_eq_true rfl), (Nat.le_of_ble_eq_true rfl)⟩) g hK (by decide) (by decide) (fx' := [(2, 15, a0_, .int x_426), (2, 14, a0_, .int x_428), (2, 13, a0_, .int x_430), (2, 12, a0_, .int 17), (7, 5, q3_, .ref a_192), (7, 4, q3_, .ref a_191), (7, 15, q3_, .int x_183), (6, 10, q5_, .int y_173), (2, 0, a0_, .ref q0_), (2, 1, a0_, .ref q1_), (2, 2, a0_, .ref q2_), (2, 3, a0_, .ref q3_), (2, 4, a0_, .ref q4_), (2, 5, a0_, .ref q5_), (0, 0, q2_, .ref q0_), (0, 1, q2_, .ref q1_), (5, 0, q1_, .ref q3_), (5, 1, q1_, .ref q9_), (2, 11, a0_, .int y0_)]) rfl (fun fr_479 H locs hp hMr_479 g => ?_)
            rcases hp with ⟨hG_480, hG_481, hG_482, hG_483, x_484, h_485, hF_486⟩ | ⟨hG_487, hG_488, x_489, h_490, x_491, h_492, hF_493⟩
            · have g := g.more hF_486
              have hs_494 := jS.mv hG_476 hG_482
              have hG_495 := bJx.mv hG_478 hMr_479 go_.2.2.2.1 ma0_ ka0_ (by decide) (by decide) (((hMr_479 a0_ ma0_).1 3 (by rw [ka0_]; decide) (by rw [ka0_]; decide)).symm.trans (fx_at g (i := 13) rfl).2.2.2) hG_482
              refine lv_goto (tgt := 191) hx hb dX2_readStatement_184 (by decide) ?_
              subst hQ
              exact W.vret hx hb hr (fun t ht hW => ⟨⟨_, rfl, Or.inl ⟨hG_495, hG_481, hG_480, hs_494, hG_483, x_484, h_485, (g.fcts [0, 1] rfl)⟩, q3_of g hK ht hW⟩, g.2.2.1.F ht⟩) g.2.2.1.2.2 dX2_readStatement_191
            · have g := g.more hF_493
              refine lv_goto (tgt := 191) hx hb dX2_readStatement_184 (by decide) ?_
              subst hQ
              exact W.vret hx hb hr (fun t ht hW => ⟨⟨_, rfl, Or.inr (⟨hG_487, hG_488, x_489, h_490, x_491, h_492, (g.fcts [0, 1] rfl)⟩), q3_of g hK ht hW⟩, g.2.2.1.F ht⟩) g.2.2.1.2.2 dX2_readStatement_191
          · have hG_496 := dOK.frame hMr_414 go_.2.2.2.1 mq3_ kq3_ (by decide) (by decide) hG_195
            have hG_497 := cOK.frame hMr_414 go_.2.2.2.1 mq3_ kq3_ (by decide) (by decide) hG_196
            have hG_498 := jS.frame hMr_414 go_.2.2.2.1 mq3_ kq3_ (by decide) (by decide) hs_203
            have hG_499 := eOK.frame hMr_414 go_.2.2.2.1 mq2_ kq2_ (by decide) (by decide) hG_202
            have hG_500 := bJx.frame hMr_414 go_.2.2.2.1 ma0_ ka0_ (by decide) (by decide) hG_204
            obtain rfl : r_414 = 1 := h_435
            have g := g.more hF_440
            refine lv_if_eq (tgt := 187) hx hb dX2_readStatement_177 (by decide) (fun c_ => absurd c_ (by decide)) (fun c_ => ?_)
            refine lv_aload_n hx hb dX2_readStatement_180 rfl (lv_at hl 1 rfl) ?_
            have kb_1201 : bd 1201 1201 (1201 : Int32) := ⟨by decide, by decide⟩
            have go_ := g
            refine g_callv (va_runV (As := []) (rest := []) ⟨hx, hb, hml, hown, hts⟩ (r_X2_readArguments_3 l dC dI L kd tys fr_414 H.size g.2.2.2.1 a0_ ma0_ ka0_ q0_ mq0_ kq0_ q1_ mq1_ kq1_ q2_ mq2_ kq2_ q3_ mq3_ kq3_ q9_ mq9_ kq9_ 1201 kb_1201 x_438 h_439 T_ hG_496 hG_499 (g.fcts [8, 9, 10, 11, 14, 15, 16, 17, 1, 2] rfl)) (cwV 0 hts (gV_ t_1393 t_1395 t_50 t_183 t_1396) rfl rfl rfl (by decide +kernel) ⟨(Nat.le_of_ble_eq_true rfl), (Nat.le_of_ble_eq_true rfl)⟩) (pre3V g hK ma0_ ka0_ (by decide) (q := (RX2, TX2, 16)) rfl) rfl rfl hl.1 rfl (lv_room (Nat.le_of_ble_eq_true rfl)) dX2_readStatement_181 ⟨(Nat.le_of_ble_eq_true rfl), (Nat.le_of_ble_eq_true rfl)⟩) g hK (by decide) (by decide) (fx' := [(2, 15, a0_, .int x_436), (8, 8, q0_, .int x_438), (7, 5, q3_, .ref a_192), (7, 4, q3_, .ref a_191), (7, 15, q3_, .int x_183), (6, 10, q5_, .int y_173), (2, 0, a0_, .ref q0_), (2, 1, a0_, .ref q1_), (2, 2, a0_, .ref q2_), (2, 3, a0_, .ref q3_), (2, 4, a0_, .ref q4_), (2, 5, a0_, .ref q5_), (0, 0, q2_, .ref q0_), (0, 1, q2_, .ref q1_), (5, 0, q1_, .ref q3_), (5, 1, q1_, .ref q9_), (2, 11, a0_, .int y0_)]) rfl (fun fr_501 H locs hp hMr_501 g => ?_)
            obtain ⟨hG_502, x_503, h_504, hF_505⟩ := hp
            have hG_506 := eOK.frame hMr_501 go_.2.2.2.1 mq2_ kq2_ (by decide) (by decide) hG_499
            have g := g.more hF_505
            refine lv_goto (tgt := 191) hx hb dX2_readStatement_184 (by decide) ?_
            subst hQ
            exact W.vret hx hb hr (fun t ht hW => ⟨⟨_, rfl, Or.inr (⟨hG_502, hG_506, x_503, h_504, x_438, h_439, (g.fcts [0, 2] rfl)⟩), q3_of g hK ht hW⟩, g.2.2.1.F ht⟩) g.2.2.1.2.2 dX2_readStatement_191
        · have fc_413 := eq_f c_413
          have b_507 : bd 11 11 r_1 := eqX fc_413 b_169 kb_11 (by decide)
          refine lv_aload_n hx hb dX2_readStatement_163 rfl (lv_at hl 1 rfl) ?_
          have go_ := g
          refine g_calli (va_runV (As := []) (rest := []) ⟨hx, hb, hml, hown, hts⟩ (r_X2_findAbove_2 l dC dI L kd tys fr_194 H.size g.2.2.2.1 a0_ ma0_ ka0_ q0_ mq0_ kq0_ q3_ mq3_ kq3_ q4_ mq4_ kq4_ y1_ by1_ (g.fcts [5, 8, 9, 16] rfl)) (cwV 0 hts (gV_ t_1383 t_1385 t_48 t_183 t_1386) rfl rfl rfl (by decide +kernel) ⟨(Nat.le_of_ble_eq_true rfl), (Nat.le_of_ble_eq_true rfl)⟩) (pre3V g hK ma0_ ka0_ (by decide) (q := (RX2, TX2, 16)) rfl) rfl rfl hl.1 rfl (lv_room (Nat.le_of_ble_eq_true rfl)) dX2_readStatement_164 ⟨(Nat.le_of_ble_eq_true rfl), (Nat.le_of_ble_eq_true rfl)⟩) g hK (by decide) (by decide) (fx' := [(7, 6, q3_, .int x_199), (7, 5, q3_, .ref a_192), (7, 4, q3_, .ref a_191), (7, 15, q3_, .int x_183), (6, 10, q5_, .int y_173), (2, 0, a0_, .ref q0_), (2, 1, a0_, .ref q1_), (2, 2, a0_, .ref q2_), (2, 3, a0_, .ref q3_), (2, 4, a0_, .ref q4_), (2, 5, a0_, .ref q5_), (0, 0, q2_, .ref q0_), (0, 1, q2_, .ref q1_), (5, 0, q1_, .ref q3_), (5, 1, q1_, .ref q9_), (2, 11, a0_, .int y0_)]) rfl (fun r_508 fr_508 H locs hp hMr_508 g => ?_)
          rcases hp with ⟨h_509, x_510, h_511, x_512, h_513, x_514, h_515, x_516, h_517, hF_518⟩ | ⟨h_519, x_520, h_521, hF_522⟩
          · have hG_523 := dOK.frame hMr_508 go_.2.2.2.1 mq3_ kq3_ (by decide) (by decide) hG_195
            have hG_524 := cOK.frame hMr_508 go_.2.2.2.1 mq3_ kq3_ (by decide) (by decide) hG_196
            have hG_525 := jS.frame hMr_508 go_.2.2.2.1 mq3_ kq3_ (by decide) (by decide) hs_203
            have hG_526 := eOK.frame hMr_508 go_.2.2.2.1 mq2_ kq2_ (by decide) (by decide) hG_202
            have hG_527 := bJx.frame hMr_508 go_.2.2.2.1 ma0_ ka0_ (by decide) (by decide) hG_204
            obtain rfl : r_508 = 1 := h_509
            have g := g.more hF_518
            refine lv_if_eq (tgt := 187) hx hb dX2_readStatement_167 (by decide) (fun c_ => absurd c_ (by decide)) (fun c_ => ?_)
            refine lv_goto (tgt := 180) hx hb dX2_readStatement_170 (by decide) ?_
            refine lv_aload_n hx hb dX2_readStatement_180 rfl (lv_at hl 1 rfl) ?_
            have kb_18 : bd 18 18 (18 : Int32) := ⟨by decide, by decide⟩
            have go_ := g
            refine g_callv (va_runV (As := []) (rest := []) ⟨hx, hb, hml, hown, hts⟩ (r_X2_readArguments_2 l dC dI L kd tys fr_508 H.size g.2.2.2.1 a0_ ma0_ ka0_ q0_ mq0_ kq0_ q1_ mq1_ kq1_ q2_ mq2_ kq2_ q3_ mq3_ kq3_ q9_ mq9_ kq9_ 18 (bd_sub kb_18 (by decide)) y1_ by1_ T_ (fun j9 => jOK fr_508 q3_ j9) hG_524 hG_523 (fun _ h9 => h9) hG_526 (g.fcts [11, 12, 13, 14, 17, 18, 19, 20, 2, 3] rfl)) (cwV 0 hts (gV_ t_1393 t_1395 t_50 t_183 t_1396) rfl rfl rfl (by decide +kernel) ⟨(Nat.le_of_ble_eq_true rfl), (Nat.le_of_ble_eq_true rfl)⟩) (pre3V g hK ma0_ ka0_ (by decide) (q := (RX2, TX2, 16)) rfl) rfl rfl hl.1 rfl (lv_room (Nat.le_of_ble_eq_true rfl)) dX2_readStatement_181 ⟨(Nat.le_of_ble_eq_true rfl), (Nat.le_of_ble_eq_true rfl)⟩) g hK (by decide) (by decide) (fx' := [(2, 14, a0_, .int x_512), (2, 12, a0_, .int 18), (7, 1, q3_, .int x_514), (9, 1, q4_, .int x_516), (7, 5, q3_, .ref a_192), (7, 4, q3_, .ref a_191), (7, 15, q3_, .int x_183), (6, 10, q5_, .int y_173), (2, 0, a0_, .ref q0_), (2, 1, a0_, .ref q1_), (2, 2, a0_, .ref q2_), (2, 3, a0_, .ref q3_), (2, 4, a0_, .ref q4_), (2, 5, a0_, .ref q5_), (0, 0, q2_, .ref q0_), (0, 1, q2_, .ref q1_), (5, 0, q1_, .ref q3_), (5, 1, q1_, .ref q9_), (2, 11, a0_, .int y0_)]) rfl (fun fr_528 H locs hp hMr_528 g => ?_)
            rcases hp with ⟨hG_529, hG_530, hG_531, hG_532, x_533, h_534, hF_535⟩ | ⟨hG_536, hG_537, x_538, h_539, x_540, h_541, hF_542⟩
            · have g := g.more hF_535
              have hs_543 := jS.mv hG_525 hG_531
              have hG_544 := bJx.mv hG_527 hMr_528 go_.2.2.2.1 ma0_ ka0_ (by decide) (by decide) (((hMr_528 a0_ ma0_).1 3 (by rw [ka0_]; decide) (by rw [ka0_]; decide)).symm.trans (fx_at g (i := 13) rfl).2.2.2) hG_531
              refine lv_goto (tgt := 191) hx hb dX2_readStatement_184 (by decide) ?_
              subst hQ
              exact W.vret hx hb hr (fun t ht hW => ⟨⟨_, rfl, Or.inl ⟨hG_544, hG_530, hG_529, hs_543, hG_532, x_533, h_534, (g.fcts [0, 1] rfl)⟩, q3_of g hK ht hW⟩, g.2.2.1.F ht⟩) g.2.2.1.2.2 dX2_readStatement_191
            · have g := g.more hF_542
              refine lv_goto (tgt := 191) hx hb dX2_readStatement_184 (by decide) ?_
              subst hQ
              exact W.vret hx hb hr (fun t ht hW => ⟨⟨_, rfl, Or.inr (⟨hG_536, hG_537, x_538, h_539, x_540, h_541, (g.fcts [0, 1] rfl)⟩), q3_of g hK ht hW⟩, g.2.2.1.F ht⟩) g.2.2.1.2.2 dX2_readStatement_191
          · have hG_545 := dOK.frame hMr_508 go_.2.2.2.1 mq3_ kq3_ (by decide) (by decide) hG_195
            have hG_546 := cOK.frame hMr_508 go_.2.2.2.1 mq3_ kq3_ (by decide) (by decide) hG_196
            have hG_547 := jS.frame hMr_508 go_.2.2.2.1 mq3_ kq3_ (by decide) (by decide) hs_203
            have hG_548 := eOK.frame hMr_508 go_.2.2.2.1 mq2_ kq2_ (by decide) (by decide) hG_202
            have hG_549 := bJx.frame hMr_508 go_.2.2.2.1 ma0_ ka0_ (by decide) (by decide) hG_204
            obtain rfl : r_508 = 1 := h_519
            have g := g.more hF_522
            refine lv_if_eq (tgt := 187) hx hb dX2_readStatement_167 (by decide) (fun c_ => absurd c_ (by decide)) (fun c_ => ?_)
            refine lv_goto (tgt := 180) hx hb dX2_readStatement_170 (by decide) ?_
            refine lv_aload_n hx hb dX2_readStatement_180 rfl (lv_at hl 1 rfl) ?_
            have kb_1201 : bd 1201 1201 (1201 : Int32) := ⟨by decide, by decide⟩
            have go_ := g
            refine g_callv (va_runV (As := []) (rest := []) ⟨hx, hb, hml, hown, hts⟩ (r_X2_readArguments_3 l dC dI L kd tys fr_508 H.size g.2.2.2.1 a0_ ma0_ ka0_ q0_ mq0_ kq0_ q1_ mq1_ kq1_ q2_ mq2_ kq2_ q3_ mq3_ kq3_ q9_ mq9_ kq9_ 1201 kb_1201 x_520 h_521 T_ hG_545 hG_548 (g.fcts [7, 8, 9, 10, 13, 14, 15, 16, 0, 1] rfl)) (cwV 0 hts (gV_ t_1393 t_1395 t_50 t_183 t_1396) rfl rfl rfl (by decide +kernel) ⟨(Nat.le_of_ble_eq_true rfl), (Nat.le_of_ble_eq_true rfl)⟩) (pre3V g hK ma0_ ka0_ (by decide) (q := (RX2, TX2, 16)) rfl) rfl rfl hl.1 rfl (lv_room (Nat.le_of_ble_eq_true rfl)) dX2_readStatement_181 ⟨(Nat.le_of_ble_eq_true rfl), (Nat.le_of_ble_eq_true rfl)⟩) g hK (by decide) (by decide) (fx' := [(8, 8, q0_, .int x_520), (7, 5, q3_, .ref a_192), (7, 4, q3_, .ref a_191), (7, 15, q3_, .int x_183), (6, 10, q5_, .int y_173), (2, 0, a0_, .ref q0_), (2, 1, a0_, .ref q1_), (2, 2, a0_, .ref q2_), (2, 3, a0_, .ref q3_), (2, 4, a0_, .ref q4_), (2, 5, a0_, .ref q5_), (0, 0, q2_, .ref q0_), (0, 1, q2_, .ref q1_), (5, 0, q1_, .ref q3_), (5, 1, q1_, .ref q9_), (2, 11, a0_, .int y0_)]) rfl (fun fr_550 H locs hp hMr_550 g => ?_)
            obtain ⟨hG_551, x_552, h_553, hF_554⟩ := hp
            have hG_555 := eOK.frame hMr_550 go_.2.2.2.1 mq2_ kq2_ (by decide) (by decide) hG_548
            have g := g.more hF_554
            refine lv_goto (tgt := 191) hx hb dX2_readStatement_184 (by decide) ?_
            subst hQ
            exact W.vret hx hb hr (fun t ht hW => ⟨⟨_, rfl, Or.inr (⟨hG_551, hG_555, x_552, h_553, x_520, h_521, (g.fcts [0, 1] rfl)⟩), q3_of g hK ht hW⟩, g.2.2.1.F ht⟩) g.2.2.1.2.2 dX2_readStatement_191
      · have fc_171 := nlt_f c_171
        have b_556 : bd 40 2147483647 x_170 := leR fc_171 kb_40 (bdT x_170) (by decide)
        refine lv_aload_n hx hb dX2_readStatement_56 rfl (lv_at hl 1 rfl) ?_
        have go_ := g
        refine g_callv (va_runV (As := []) (rest := []) ⟨hx, hb, hml, hown, hts⟩ (r_X2_refuseStatement l dC dI L kd tys fr_8 H.size g.2.2.2.1 a0_ ma0_ ka0_ q0_ mq0_ kq0_ q1_ mq1_ kq1_ q3_ mq3_ kq3_ q4_ mq4_ kq4_ q9_ mq9_ kq9_ y1_ by1_ (g.fcts [1, 2, 4, 5, 10, 12] rfl)) (cwV 0 hts (gV_ t_1354 t_1356 t_43 t_183 t_1357) rfl rfl rfl (by decide +kernel) ⟨(Nat.le_of_ble_eq_true rfl), (Nat.le_of_ble_eq_true rfl)⟩) (pre3V g hK ma0_ ka0_ (by decide) (q := (RX2, TX2, 16)) rfl) rfl rfl hl.1 rfl (lv_room (Nat.le_of_ble_eq_true rfl)) dX2_readStatement_57 ⟨(Nat.le_of_ble_eq_true rfl), (Nat.le_of_ble_eq_true rfl)⟩) g hK (by decide) (by decide) (fx' := [(6, 10, q5_, .int x_170), (2, 0, a0_, .ref q0_), (2, 1, a0_, .ref q1_), (2, 2, a0_, .ref q2_), (2, 3, a0_, .ref q3_), (2, 4, a0_, .ref q4_), (2, 5, a0_, .ref q5_), (0, 0, q2_, .ref q0_), (0, 1, q2_, .ref q1_), (5, 0, q1_, .ref q3_), (5, 1, q1_, .ref q9_), (2, 11, a0_, .int y0_)]) rfl (fun fr_557 H locs hp hMr_557 g => ?_)
        obtain ⟨x_558, h_559, hF_560⟩ := hp
        have hG_561 := bJx.frame hMr_557 go_.2.2.2.1 ma0_ ka0_ (by decide) (by decide) hG_164
        have hG_562 := dOK.frame hMr_557 go_.2.2.2.1 mq3_ kq3_ (by decide) (by decide) hG_165
        have hG_563 := cOK.frame hMr_557 go_.2.2.2.1 mq3_ kq3_ (by decide) (by decide) hG_166
        have hG_564 := jS.frame hMr_557 go_.2.2.2.1 mq3_ kq3_ (by decide) (by decide) hG_167
        have hG_565 := eOK.frame hMr_557 go_.2.2.2.1 mq2_ kq2_ (by decide) (by decide) hG_168
        have g := g.more hF_560
        refine lv_aload_n hx hb dX2_readStatement_60 rfl (lv_at hl 1 rfl) ?_
        refine g_getk (C := RX2) (T := TX2) (N := 16) hx hb hts (mc_ inX2) hown hK g rfl 5 (by decide) rfl (hts _ (List.mem_cons_of_mem _ t_421)) (fun _ h9 => h9) 8 rfl dX2_readStatement_61 ?_
        refine lv_dup hx hb dX2_readStatement_64 rfl ?_
        refine g_getk (C := RX6) (T := TX6) (N := 13) hx hb hts (mc_ inX6) hown hK g rfl 10 (by decide) rfl (hts _ (List.mem_cons_of_mem _ t_588)) (fun _ h9 => h9) 2 rfl dX2_readStatement_65 ?_
        refine lv_iconst (v := 1) hx hb dX2_readStatement_68 (by decide) ?_
        have kb_1 : bd 1 1 (1 : Int32) := ⟨by decide, by decide⟩
        refine lv_iadd hx hb dX2_readStatement_69 ?_
        refine lv_topi (fun y_566 ey_566 => ?_)
        have go_ := g
        refine g_put (C := RX6) (T := TX6) (N := 13) hx hb hts (mc_ inX6) tyX6 tyX6_ok nmX6 hown hK g mq5_ kq5_ (by decide) rfl 10 (by decide) (hts _ (List.mem_cons_of_mem _ t_588)) (fun _ h9 => h9) rfl rfl (okV_i (bdT y_566)) rfl rfl (by decide) (Or.inr (Or.inl (by decide))) (fx' := [(8, 6, q0_, .int 1201), (8, 8, q0_, .int x_558), (2, 0, a0_, .ref q0_), (2, 1, a0_, .ref q1_), (2, 2, a0_, .ref q2_), (2, 3, a0_, .ref q3_), (2, 4, a0_, .ref q4_), (2, 5, a0_, .ref q5_), (0, 0, q2_, .ref q0_), (0, 1, q2_, .ref q1_), (5, 0, q1_, .ref q3_), (5, 1, q1_, .ref q9_), (2, 11, a0_, .int y0_)]) rfl dX2_readStatement_70 (fun f H locs hM_567 g => ?_)
        have hG_568 := bJx.frame hM_567 go_.2.2.2.1 ma0_ ka0_ (by decide) (by decide) hG_561
        have hG_569 := dOK.frame hM_567 go_.2.2.2.1 mq3_ kq3_ (by decide) (by decide) hG_562
        have hG_570 := cOK.frame hM_567 go_.2.2.2.1 mq3_ kq3_ (by decide) (by decide) hG_563
        have hG_571 := jS.frame hM_567 go_.2.2.2.1 mq3_ kq3_ (by decide) (by decide) hG_564
        have hG_572 := eOK.frame hM_567 go_.2.2.2.1 mq2_ kq2_ (by decide) (by decide) hG_565
        refine lv_aload_n hx hb dX2_readStatement_73 rfl (lv_at hl 1 rfl) ?_
        refine g_getk (C := RX2) (T := TX2) (N := 16) hx hb hts (mc_ inX2) hown hK g rfl 3 (by decide) rfl (hts _ (List.mem_cons_of_mem _ t_419)) (fun _ h9 => h9) 6 rfl dX2_readStatement_74 ?_
        refine lv_bipush (v := 12) hx hb dX2_readStatement_77 (by decide) ?_
        refine lv_aload_n hx hb dX2_readStatement_79 rfl (lv_at hl 1 rfl) ?_
        refine g_getk (C := RX2) (T := TX2) (N := 16) hx hb hts (mc_ inX2) hown hK g rfl 3 (by decide) rfl (hts _ (List.mem_cons_of_mem _ t_419)) (fun _ h9 => h9) 6 rfl dX2_readStatement_80 ?_
        have go_ := g
        refine g_calli (va_runV (As := []) (rest := [.int 12, .ref q3_]) ⟨hx, hb, hml, hown, hts⟩ (r_X7_addStatement l dC dI L kd tys f H.size g.2.2.2.1 q3_ mq3_ kq3_) (cwV 0 hts (gV_ t_1359 t_1360 t_1361 t_191 t_1362) rfl rfl rfl (by decide +kernel) ⟨(Nat.le_of_ble_eq_true rfl), (Nat.le_of_ble_eq_true rfl)⟩) (pre3V g hK mq3_ kq3_ (by decide) (q := (RX7, TX7, 19)) rfl) rfl rfl hl.1 rfl (lv_room (Nat.le_of_ble_eq_true rfl)) dX2_readStatement_83 ⟨(Nat.le_of_ble_eq_true rfl), (Nat.le_of_ble_eq_true rfl)⟩) g hK (by decide) (by decide) (fx' := [(6, 10, q5_, .int y_566), (8, 6, q0_, .int 1201), (8, 8, q0_, .int x_558), (2, 0, a0_, .ref q0_), (2, 1, a0_, .ref q1_), (2, 2, a0_, .ref q2_), (2, 3, a0_, .ref q3_), (2, 4, a0_, .ref q4_), (2, 5, a0_, .ref q5_), (0, 0, q2_, .ref q0_), (0, 1, q2_, .ref q1_), (5, 0, q1_, .ref q3_), (5, 1, q1_, .ref q9_), (2, 11, a0_, .int y0_)]) rfl (fun r_573 fr_573 H locs hp hMr_573 g => ?_)
        obtain ⟨h_574, x_575, h_576, hF_577⟩ := hp
        have hG_578 := bJx.frame hMr_573 go_.2.2.2.1 ma0_ ka0_ (by decide) (by decide) hG_568
        have hG_579 := dOK.frame hMr_573 go_.2.2.2.1 mq3_ kq3_ (by decide) (by decide) hG_569
        have hG_580 := cOK.frame hMr_573 go_.2.2.2.1 mq3_ kq3_ (by decide) (by decide) hG_570
        have hG_581 := jS.frame hMr_573 go_.2.2.2.1 mq3_ kq3_ (by decide) (by decide) hG_571
        have hG_582 := eOK.frame hMr_573 go_.2.2.2.1 mq2_ kq2_ (by decide) (by decide) hG_572
        have g := g.more hF_577
        obtain ⟨a_583, ma_583, ka_583, g⟩ := g_factr g mq3_ kq3_ (by decide) 4 rfl
        obtain ⟨a_584, ma_584, ka_584, g⟩ := g_factr g mq3_ kq3_ (by decide) 5 rfl
        obtain ⟨x_585, bx_585, g⟩ := g_facti g mq3_ kq3_ (by decide) 6 rfl
        have go_ := g
        refine g_callv (va_runV (As := [.int 12, .int r_573]) (rest := []) ⟨hx, hb, hml, hown, hts⟩ (r_X7_emitF l dC dI L kd tys fr_573 H.size g.2.2.2.1 q3_ mq3_ kq3_ a_583 ma_583 ka_583 a_584 ma_584 ka_584 x_585 bx_585 T_ hG_579 (12 : Int32) r_573 (g.fcts [2, 1, 0] rfl)) (cwV 2 hts (gV_ t_1301 t_1204 t_1205 t_191 t_1206) rfl rfl rfl (by decide +kernel) ⟨(Nat.le_of_ble_eq_true rfl), (Nat.le_of_ble_eq_true rfl)⟩) (pre3V g hK mq3_ kq3_ (by decide) (q := (RX7, TX7, 19)) rfl) rfl rfl hl.1 rfl (lv_room (Nat.le_of_ble_eq_true rfl)) dX2_readStatement_86 ⟨(Nat.le_of_ble_eq_true rfl), (Nat.le_of_ble_eq_true rfl)⟩) g hK (by decide) (by decide) (fx' := [(7, 5, q3_, .ref a_584), (7, 4, q3_, .ref a_583), (7, 15, q3_, .int x_575), (6, 10, q5_, .int y_566), (8, 6, q0_, .int 1201), (8, 8, q0_, .int x_558), (2, 0, a0_, .ref q0_), (2, 1, a0_, .ref q1_), (2, 2, a0_, .ref q2_), (2, 3, a0_, .ref q3_), (2, 4, a0_, .ref q4_), (2, 5, a0_, .ref q5_), (0, 0, q2_, .ref q0_), (0, 1, q2_, .ref q1_), (5, 0, q1_, .ref q3_), (5, 1, q1_, .ref q9_), (2, 11, a0_, .int y0_)]) rfl (fun fr_586 H locs hp hMr_586 g => ?_)
        obtain ⟨hG_587, x_588, h_589, hF_590⟩ := hp
        have hG_591 := eOK.frame hMr_586 go_.2.2.2.1 mq2_ kq2_ (by decide) (by decide) hG_582
        have g := g.more hF_590
        refine lv_iload_n hx hb dX2_readStatement_89 rfl (lv_at hl 0 rfl) ?_
        by_cases e_592 : r_1 = 22
        · refine lv_topi (fun z_593 ez_593 => ?_)
          obtain rfl : z_593 = 22 := ez_593.trans e_592
          have kb_22 : bd 22 22 (22 : Int32) := ⟨by decide, by decide⟩
          have b_594 : bd 22 22 r_1 := eqX (eq_f e_592) b_169 kb_22 (by decide)
          refine lv_tableIn (off := 38) (tgt := 128) hx hb dX2_readStatement_90 (by decide) (by decide) rfl (by decide) ?_
          refine lv_aload_n hx hb dX2_readStatement_128 rfl (lv_at hl 1 rfl) ?_
          have kb_1201 : bd 1201 1201 (1201 : Int32) := ⟨by decide, by decide⟩
          have go_ := g
          refine g_callv (va_runV (As := []) (rest := []) ⟨hx, hb, hml, hown, hts⟩ (r_X2_readLet l dC dI L kd tys fr_586 H.size g.2.2.2.1 a0_ ma0_ ka0_ q0_ mq0_ kq0_ q1_ mq1_ kq1_ q2_ mq2_ kq2_ q3_ mq3_ kq3_ q9_ mq9_ kq9_ 1201 kb_1201 x_558 h_559 T_ hG_587 hG_591 (g.fcts [7, 8, 9, 10, 13, 14, 15, 16, 5, 6] rfl)) (cwV 0 hts (gV_ t_1363 t_1365 t_44 t_183 t_1366) rfl rfl rfl (by decide +kernel) ⟨(Nat.le_of_ble_eq_true rfl), (Nat.le_of_ble_eq_true rfl)⟩) (pre3V g hK ma0_ ka0_ (by decide) (q := (RX2, TX2, 16)) rfl) rfl rfl hl.1 rfl (lv_room (Nat.le_of_ble_eq_true rfl)) dX2_readStatement_129 ⟨(Nat.le_of_ble_eq_true rfl), (Nat.le_of_ble_eq_true rfl)⟩) g hK (by decide) (by decide) (fx' := [(7, 5, q3_, .ref a_584), (7, 4, q3_, .ref a_583), (7, 15, q3_, .int x_575), (6, 10, q5_, .int y_566), (8, 8, q0_, .int x_558), (2, 0, a0_, .ref q0_), (2, 1, a0_, .ref q1_), (2, 2, a0_, .ref q2_), (2, 3, a0_, .ref q3_), (2, 4, a0_, .ref q4_), (2, 5, a0_, .ref q5_), (0, 0, q2_, .ref q0_), (0, 1, q2_, .ref q1_), (5, 0, q1_, .ref q3_), (5, 1, q1_, .ref q9_), (2, 11, a0_, .int y0_)]) rfl (fun fr_595 H locs hp hMr_595 g => ?_)
          obtain ⟨hG_596, x_597, h_598, hF_599⟩ := hp
          have hG_600 := eOK.frame hMr_595 go_.2.2.2.1 mq2_ kq2_ (by decide) (by decide) hG_591
          have g := g.more hF_599
          refine lv_goto (tgt := 191) hx hb dX2_readStatement_132 (by decide) ?_
          subst hQ
          exact W.vret hx hb hr (fun t ht hW => ⟨⟨_, rfl, Or.inr (⟨hG_596, hG_600, x_597, h_598, x_558, h_559, (g.fcts [0, 11] rfl)⟩), q3_of g hK ht hW⟩, g.2.2.1.F ht⟩) g.2.2.1.2.2 dX2_readStatement_191
        by_cases e_601 : r_1 = 23
        · refine lv_topi (fun z_602 ez_602 => ?_)
          obtain rfl : z_602 = 23 := ez_602.trans e_601
          have kb_23 : bd 23 23 (23 : Int32) := ⟨by decide, by decide⟩
          have b_603 : bd 23 23 r_1 := eqX (eq_f e_601) b_169 kb_23 (by decide)
          refine lv_tableIn (off := 45) (tgt := 135) hx hb dX2_readStatement_90 (by decide) (by decide) rfl (by decide) ?_
          refine lv_aload_n hx hb dX2_readStatement_135 rfl (lv_at hl 1 rfl) ?_
          refine lv_iload_n hx hb dX2_readStatement_136 rfl (lv_at hl 0 rfl) ?_
          have kb_1201 : bd 1201 1201 (1201 : Int32) := ⟨by decide, by decide⟩
          have go_ := g
          refine g_callv (va_runV (As := [.int r_1]) (rest := []) ⟨hx, hb, hml, hown, hts⟩ (r_X2_readTest l dC dI L kd tys fr_586 H.size g.2.2.2.1 a0_ ma0_ ka0_ r_1 q0_ mq0_ kq0_ q1_ mq1_ kq1_ q2_ mq2_ kq2_ q3_ mq3_ kq3_ q9_ mq9_ kq9_ 1201 kb_1201 x_558 h_559 T_ hG_587 hG_591 (g.fcts [7, 8, 9, 10, 13, 14, 15, 16, 5, 6] rfl)) (cwV 1 hts (gV_ t_1367 t_1369 t_45 t_183 t_1370) rfl rfl rfl (by decide +kernel) ⟨(Nat.le_of_ble_eq_true rfl), (Nat.le_of_ble_eq_true rfl)⟩) (pre3V g hK ma0_ ka0_ (by decide) (q := (RX2, TX2, 16)) rfl) rfl rfl hl.1 rfl (lv_room (Nat.le_of_ble_eq_true rfl)) dX2_readStatement_137 ⟨(Nat.le_of_ble_eq_true rfl), (Nat.le_of_ble_eq_true rfl)⟩) g hK (by decide) (by decide) (fx' := [(7, 5, q3_, .ref a_584), (7, 4, q3_, .ref a_583), (7, 15, q3_, .int x_575), (6, 10, q5_, .int y_566), (8, 8, q0_, .int x_558), (2, 0, a0_, .ref q0_), (2, 1, a0_, .ref q1_), (2, 2, a0_, .ref q2_), (2, 3, a0_, .ref q3_), (2, 4, a0_, .ref q4_), (2, 5, a0_, .ref q5_), (0, 0, q2_, .ref q0_), (0, 1, q2_, .ref q1_), (5, 0, q1_, .ref q3_), (5, 1, q1_, .ref q9_), (2, 11, a0_, .int y0_)]) rfl (fun fr_604 H locs hp hMr_604 g => ?_)
          obtain ⟨hG_605, hF_606⟩ := hp
          have hG_607 := eOK.frame hMr_604 go_.2.2.2.1 mq2_ kq2_ (by decide) (by decide) hG_591
          have g := g.more hF_606
          refine lv_goto (tgt := 191) hx hb dX2_readStatement_140 (by decide) ?_
          subst hQ
          exact W.vret hx hb hr (fun t ht hW => ⟨⟨_, rfl, Or.inr (⟨hG_605, hG_607, 1201, kb_1201, x_558, h_559, (g.fcts [0, 11] rfl)⟩), q3_of g hK ht hW⟩, g.2.2.1.F ht⟩) g.2.2.1.2.2 dX2_readStatement_191
        by_cases e_608 : r_1 = 24
        · refine lv_topi (fun z_609 ez_609 => ?_)
          obtain rfl : z_609 = 24 := ez_609.trans e_608
          have kb_24 : bd 24 24 (24 : Int32) := ⟨by decide, by decide⟩
          have b_610 : bd 24 24 r_1 := eqX (eq_f e_608) b_169 kb_24 (by decide)
          refine lv_tableIn (off := 67) (tgt := 157) hx hb dX2_readStatement_90 (by decide) (by decide) rfl (by decide) ?_
          refine lv_iload_n hx hb dX2_readStatement_157 rfl (lv_at hl 0 rfl) ?_
          refine lv_bipush (v := 11) hx hb dX2_readStatement_158 (by decide) ?_
          have kb_11 : bd 11 11 (11 : Int32) := ⟨by decide, by decide⟩
          refine lv_icmp_ne (tgt := 173) hx hb dX2_readStatement_160 (by decide) (fun c_611 => ?_) (fun c_611 => ?_)
          · have fc_611 := neq_f c_611
            refine lv_aload_n hx hb dX2_readStatement_173 rfl (lv_at hl 1 rfl) ?_
            have kb_1201 : bd 1201 1201 (1201 : Int32) := ⟨by decide, by decide⟩
            have go_ := g
            refine g_calli (va_runV (As := []) (rest := []) ⟨hx, hb, hml, hown, hts⟩ (r_X2_findNamed l dC dI L kd tys fr_586 H.size g.2.2.2.1 a0_ ma0_ ka0_ q0_ mq0_ kq0_ q1_ mq1_ kq1_ q3_ mq3_ kq3_ q4_ mq4_ kq4_ q9_ mq9_ kq9_ 1201 kb_1201 x_558 h_559 (g.fcts [7, 8, 10, 11, 16, 5, 6] rfl)) (cwV 0 hts (gV_ t_1388 t_1390 t_49 t_183 t_1391) rfl rfl rfl (by decide +kernel) ⟨(Nat.le_of_ble_eq_true rfl), (Nat.le_of_ble_eq_true rfl)⟩) (pre3V g hK ma0_ ka0_ (by decide) (q := (RX2, TX2, 16)) rfl) rfl rfl hl.1 rfl (lv_room (Nat.le_of_ble_eq_true rfl)) dX2_readStatement_174 ⟨(Nat.le_of_ble_eq_true rfl), (Nat.le_of_ble_eq_true rfl)⟩) g hK (by decide) (by decide) (fx' := [(7, 6, q3_, .int x_588), (7, 5, q3_, .ref a_584), (7, 4, q3_, .ref a_583), (7, 15, q3_, .int x_575), (6, 10, q5_, .int y_566), (8, 8, q0_, .int x_558), (2, 0, a0_, .ref q0_), (2, 1, a0_, .ref q1_), (2, 2, a0_, .ref q2_), (2, 3, a0_, .ref q3_), (2, 4, a0_, .ref q4_), (2, 5, a0_, .ref q5_), (0, 0, q2_, .ref q0_), (0, 1, q2_, .ref q1_), (5, 0, q1_, .ref q3_), (5, 1, q1_, .ref q9_), (2, 11, a0_, .int y0_)]) rfl (fun r_612 fr_612 H locs hp hMr_612 g => ?_)
            obtain ⟨h_613, x_614, h_615, hF_616⟩ := hp
            have hG_617 := dOK.frame hMr_612 go_.2.2.2.1 mq3_ kq3_ (by decide) (by decide) hG_587
            have hG_618 := eOK.frame hMr_612 go_.2.2.2.1 mq2_ kq2_ (by decide) (by decide) hG_591
            have g := g.more hF_616
            have kb_0 : bd 0 0 (0 : Int32) := ⟨by decide, by decide⟩
            refine lv_if_eq (tgt := 187) hx hb dX2_readStatement_177 (by decide) (fun c_619 => ?_) (fun c_619 => ?_)
            · have fc_619 := eq_f c_619
              have b_620 : bd 0 0 r_612 := eqX fc_619 h_613 kb_0 (by decide)
              refine lv_aload_n hx hb dX2_readStatement_187 rfl (lv_at hl 1 rfl) ?_
              have go_ := g
              refine g_callv (va_runV (As := []) (rest := []) ⟨hx, hb, hml, hown, hts⟩ (r_X2_readAssignment l dC dI L kd tys fr_612 H.size g.2.2.2.1 a0_ ma0_ ka0_ q0_ mq0_ kq0_ q1_ mq1_ kq1_ q2_ mq2_ kq2_ q3_ mq3_ kq3_ q4_ mq4_ kq4_ q9_ mq9_ kq9_ x_614 h_615 x_558 h_559 T_ hG_617 hG_618 (g.fcts [7, 8, 9, 10, 11, 13, 14, 15, 16, 0, 6] rfl)) (cwV 0 hts (gV_ t_1397 t_1399 t_51 t_183 t_1400) rfl rfl rfl (by decide +kernel) ⟨(Nat.le_of_ble_eq_true rfl), (Nat.le_of_ble_eq_true rfl)⟩) (pre3V g hK ma0_ ka0_ (by decide) (q := (RX2, TX2, 16)) rfl) rfl rfl hl.1 rfl (lv_room (Nat.le_of_ble_eq_true rfl)) dX2_readStatement_188 ⟨(Nat.le_of_ble_eq_true rfl), (Nat.le_of_ble_eq_true rfl)⟩) g hK (by decide) (by decide) (fx' := [(7, 5, q3_, .ref a_584), (7, 4, q3_, .ref a_583), (7, 15, q3_, .int x_575), (6, 10, q5_, .int y_566), (8, 8, q0_, .int x_558), (2, 0, a0_, .ref q0_), (2, 1, a0_, .ref q1_), (2, 2, a0_, .ref q2_), (2, 3, a0_, .ref q3_), (2, 4, a0_, .ref q4_), (2, 5, a0_, .ref q5_), (0, 0, q2_, .ref q0_), (0, 1, q2_, .ref q1_), (5, 0, q1_, .ref q3_), (5, 1, q1_, .ref q9_), (2, 11, a0_, .int y0_)]) rfl (fun fr_621 H locs hp hMr_621 g => ?_)
              obtain ⟨hG_622, x_623, h_624, hF_625⟩ := hp
              have hG_626 := eOK.frame hMr_621 go_.2.2.2.1 mq2_ kq2_ (by decide) (by decide) hG_618
              have g := g.more hF_625
              subst hQ
              exact W.vret hx hb hr (fun t ht hW => ⟨⟨_, rfl, Or.inr (⟨hG_622, hG_626, x_623, h_624, x_558, h_559, (g.fcts [0, 11] rfl)⟩), q3_of g hK ht hW⟩, g.2.2.1.F ht⟩) g.2.2.1.2.2 dX2_readStatement_191
            · have fc_619 := neq_f c_619
              have b_627 : bd 1 1 r_612 := neX fc_619 h_613 kb_0 (by decide)
              refine lv_aload_n hx hb dX2_readStatement_180 rfl (lv_at hl 1 rfl) ?_
              have go_ := g
              refine g_callv (va_runV (As := []) (rest := []) ⟨hx, hb, hml, hown, hts⟩ (r_X2_readArguments_3 l dC dI L kd tys fr_612 H.size g.2.2.2.1 a0_ ma0_ ka0_ q0_ mq0_ kq0_ q1_ mq1_ kq1_ q2_ mq2_ kq2_ q3_ mq3_ kq3_ q9_ mq9_ kq9_ x_614 h_615 x_558 h_559 T_ hG_617 hG_618 (g.fcts [7, 8, 9, 10, 13, 14, 15, 16, 0, 6] rfl)) (cwV 0 hts (gV_ t_1393 t_1395 t_50 t_183 t_1396) rfl rfl rfl (by decide +kernel) ⟨(Nat.le_of_ble_eq_true rfl), (Nat.le_of_ble_eq_true rfl)⟩) (pre3V g hK ma0_ ka0_ (by decide) (q := (RX2, TX2, 16)) rfl) rfl rfl hl.1 rfl (lv_room (Nat.le_of_ble_eq_true rfl)) dX2_readStatement_181 ⟨(Nat.le_of_ble_eq_true rfl), (Nat.le_of_ble_eq_true rfl)⟩) g hK (by decide) (by decide) (fx' := [(7, 5, q3_, .ref a_584), (7, 4, q3_, .ref a_583), (7, 15, q3_, .int x_575), (6, 10, q5_, .int y_566), (8, 8, q0_, .int x_558), (2, 0, a0_, .ref q0_), (2, 1, a0_, .ref q1_), (2, 2, a0_, .ref q2_), (2, 3, a0_, .ref q3_), (2, 4, a0_, .ref q4_), (2, 5, a0_, .ref q5_), (0, 0, q2_, .ref q0_), (0, 1, q2_, .ref q1_), (5, 0, q1_, .ref q3_), (5, 1, q1_, .ref q9_), (2, 11, a0_, .int y0_)]) rfl (fun fr_628 H locs hp hMr_628 g => ?_)
              obtain ⟨hG_629, x_630, h_631, hF_632⟩ := hp
              have hG_633 := eOK.frame hMr_628 go_.2.2.2.1 mq2_ kq2_ (by decide) (by decide) hG_618
              have g := g.more hF_632
              refine lv_goto (tgt := 191) hx hb dX2_readStatement_184 (by decide) ?_
              subst hQ
              exact W.vret hx hb hr (fun t ht hW => ⟨⟨_, rfl, Or.inr (⟨hG_629, hG_633, x_630, h_631, x_558, h_559, (g.fcts [0, 5] rfl)⟩), q3_of g hK ht hW⟩, g.2.2.1.F ht⟩) g.2.2.1.2.2 dX2_readStatement_191
          · have fc_611 := eq_f c_611
            have b_634 : bd 24 11 r_1 := eqX fc_611 b_610 kb_11 (by decide)
            exact bd_no b_634 (by decide)
        by_cases e_635 : r_1 = 25
        · refine lv_topi (fun z_636 ez_636 => ?_)
          obtain rfl : z_636 = 25 := ez_636.trans e_635
          have kb_25 : bd 25 25 (25 : Int32) := ⟨by decide, by decide⟩
          have b_637 : bd 25 25 r_1 := eqX (eq_f e_635) b_169 kb_25 (by decide)
          refine lv_tableIn (off := 45) (tgt := 135) hx hb dX2_readStatement_90 (by decide) (by decide) rfl (by decide) ?_
          refine lv_aload_n hx hb dX2_readStatement_135 rfl (lv_at hl 1 rfl) ?_
          refine lv_iload_n hx hb dX2_readStatement_136 rfl (lv_at hl 0 rfl) ?_
          have kb_1201 : bd 1201 1201 (1201 : Int32) := ⟨by decide, by decide⟩
          have go_ := g
          refine g_callv (va_runV (As := [.int r_1]) (rest := []) ⟨hx, hb, hml, hown, hts⟩ (r_X2_readTest l dC dI L kd tys fr_586 H.size g.2.2.2.1 a0_ ma0_ ka0_ r_1 q0_ mq0_ kq0_ q1_ mq1_ kq1_ q2_ mq2_ kq2_ q3_ mq3_ kq3_ q9_ mq9_ kq9_ 1201 kb_1201 x_558 h_559 T_ hG_587 hG_591 (g.fcts [7, 8, 9, 10, 13, 14, 15, 16, 5, 6] rfl)) (cwV 1 hts (gV_ t_1367 t_1369 t_45 t_183 t_1370) rfl rfl rfl (by decide +kernel) ⟨(Nat.le_of_ble_eq_true rfl), (Nat.le_of_ble_eq_true rfl)⟩) (pre3V g hK ma0_ ka0_ (by decide) (q := (RX2, TX2, 16)) rfl) rfl rfl hl.1 rfl (lv_room (Nat.le_of_ble_eq_true rfl)) dX2_readStatement_137 ⟨(Nat.le_of_ble_eq_true rfl), (Nat.le_of_ble_eq_true rfl)⟩) g hK (by decide) (by decide) (fx' := [(7, 5, q3_, .ref a_584), (7, 4, q3_, .ref a_583), (7, 15, q3_, .int x_575), (6, 10, q5_, .int y_566), (8, 8, q0_, .int x_558), (2, 0, a0_, .ref q0_), (2, 1, a0_, .ref q1_), (2, 2, a0_, .ref q2_), (2, 3, a0_, .ref q3_), (2, 4, a0_, .ref q4_), (2, 5, a0_, .ref q5_), (0, 0, q2_, .ref q0_), (0, 1, q2_, .ref q1_), (5, 0, q1_, .ref q3_), (5, 1, q1_, .ref q9_), (2, 11, a0_, .int y0_)]) rfl (fun fr_638 H locs hp hMr_638 g => ?_)
          obtain ⟨hG_639, hF_640⟩ := hp
          have hG_641 := eOK.frame hMr_638 go_.2.2.2.1 mq2_ kq2_ (by decide) (by decide) hG_591
          have g := g.more hF_640
          refine lv_goto (tgt := 191) hx hb dX2_readStatement_140 (by decide) ?_
          subst hQ
          exact W.vret hx hb hr (fun t ht hW => ⟨⟨_, rfl, Or.inr (⟨hG_639, hG_641, 1201, kb_1201, x_558, h_559, (g.fcts [0, 11] rfl)⟩), q3_of g hK ht hW⟩, g.2.2.1.F ht⟩) g.2.2.1.2.2 dX2_readStatement_191
        by_cases e_642 : r_1 = 26
        · refine lv_topi (fun z_643 ez_643 => ?_)
          obtain rfl : z_643 = 26 := ez_643.trans e_642
          have kb_26 : bd 26 26 (26 : Int32) := ⟨by decide, by decide⟩
          have b_644 : bd 26 26 r_1 := eqX (eq_f e_642) b_169 kb_26 (by decide)
          refine lv_tableIn (off := 53) (tgt := 143) hx hb dX2_readStatement_90 (by decide) (by decide) rfl (by decide) ?_
          refine lv_aload_n hx hb dX2_readStatement_143 rfl (lv_at hl 1 rfl) ?_
          have kb_1201 : bd 1201 1201 (1201 : Int32) := ⟨by decide, by decide⟩
          have go_ := g
          refine g_callv (va_runV (As := []) (rest := []) ⟨hx, hb, hml, hown, hts⟩ (r_X2_readReturn l dC dI L kd tys fr_586 H.size g.2.2.2.1 a0_ ma0_ ka0_ q0_ mq0_ kq0_ q1_ mq1_ kq1_ q2_ mq2_ kq2_ q3_ mq3_ kq3_ q9_ mq9_ kq9_ 1201 kb_1201 x_558 h_559 T_ hG_587 hG_591 (g.fcts [7, 8, 9, 10, 13, 14, 15, 16, 5, 6] rfl)) (cwV 0 hts (gV_ t_1371 t_1373 t_46 t_183 t_1374) rfl rfl rfl (by decide +kernel) ⟨(Nat.le_of_ble_eq_true rfl), (Nat.le_of_ble_eq_true rfl)⟩) (pre3V g hK ma0_ ka0_ (by decide) (q := (RX2, TX2, 16)) rfl) rfl rfl hl.1 rfl (lv_room (Nat.le_of_ble_eq_true rfl)) dX2_readStatement_144 ⟨(Nat.le_of_ble_eq_true rfl), (Nat.le_of_ble_eq_true rfl)⟩) g hK (by decide) (by decide) (fx' := [(7, 5, q3_, .ref a_584), (7, 4, q3_, .ref a_583), (7, 15, q3_, .int x_575), (6, 10, q5_, .int y_566), (8, 8, q0_, .int x_558), (2, 0, a0_, .ref q0_), (2, 1, a0_, .ref q1_), (2, 2, a0_, .ref q2_), (2, 3, a0_, .ref q3_), (2, 4, a0_, .ref q4_), (2, 5, a0_, .ref q5_), (0, 0, q2_, .ref q0_), (0, 1, q2_, .ref q1_), (5, 0, q1_, .ref q3_), (5, 1, q1_, .ref q9_), (2, 11, a0_, .int y0_)]) rfl (fun fr_645 H locs hp hMr_645 g => ?_)
          obtain ⟨hG_646, x_647, h_648, hF_649⟩ := hp
          have hG_650 := eOK.frame hMr_645 go_.2.2.2.1 mq2_ kq2_ (by decide) (by decide) hG_591
          have g := g.more hF_649
          refine lv_goto (tgt := 191) hx hb dX2_readStatement_147 (by decide) ?_
          subst hQ
          exact W.vret hx hb hr (fun t ht hW => ⟨⟨_, rfl, Or.inr (⟨hG_646, hG_650, x_647, h_648, x_558, h_559, (g.fcts [0, 11] rfl)⟩), q3_of g hK ht hW⟩, g.2.2.1.F ht⟩) g.2.2.1.2.2 dX2_readStatement_191
        by_cases e_651 : r_1 = 27
        · refine lv_topi (fun z_652 ez_652 => ?_)
          obtain rfl : z_652 = 27 := ez_652.trans e_651
          have kb_27 : bd 27 27 (27 : Int32) := ⟨by decide, by decide⟩
          have b_653 : bd 27 27 r_1 := eqX (eq_f e_651) b_169 kb_27 (by decide)
          refine lv_tableIn (off := 60) (tgt := 150) hx hb dX2_readStatement_90 (by decide) (by decide) rfl (by decide) ?_
          refine lv_aload_n hx hb dX2_readStatement_150 rfl (lv_at hl 1 rfl) ?_
          have kb_1201 : bd 1201 1201 (1201 : Int32) := ⟨by decide, by decide⟩
          have go_ := g
          refine g_callv (va_runV (As := []) (rest := []) ⟨hx, hb, hml, hown, hts⟩ (r_X2_readThrow l dC dI L kd tys fr_586 H.size g.2.2.2.1 a0_ ma0_ ka0_ q0_ mq0_ kq0_ q3_ mq3_ kq3_ 1201 kb_1201 x_558 h_559 T_ hG_587 (g.fcts [7, 10, 5, 6] rfl)) (cwV 0 hts (gV_ t_1375 t_1377 t_47 t_183 t_1378) rfl rfl rfl (by decide +kernel) ⟨(Nat.le_of_ble_eq_true rfl), (Nat.le_of_ble_eq_true rfl)⟩) (pre3V g hK ma0_ ka0_ (by decide) (q := (RX2, TX2, 16)) rfl) rfl rfl hl.1 rfl (lv_room (Nat.le_of_ble_eq_true rfl)) dX2_readStatement_151 ⟨(Nat.le_of_ble_eq_true rfl), (Nat.le_of_ble_eq_true rfl)⟩) g hK (by decide) (by decide) (fx' := [(7, 5, q3_, .ref a_584), (7, 4, q3_, .ref a_583), (7, 15, q3_, .int x_575), (6, 10, q5_, .int y_566), (8, 8, q0_, .int x_558), (2, 0, a0_, .ref q0_), (2, 1, a0_, .ref q1_), (2, 2, a0_, .ref q2_), (2, 3, a0_, .ref q3_), (2, 4, a0_, .ref q4_), (2, 5, a0_, .ref q5_), (0, 0, q2_, .ref q0_), (0, 1, q2_, .ref q1_), (5, 0, q1_, .ref q3_), (5, 1, q1_, .ref q9_), (2, 11, a0_, .int y0_)]) rfl (fun fr_654 H locs hp hMr_654 g => ?_)
          obtain ⟨hG_655, x_656, h_657, x_658, h_659, hF_660⟩ := hp
          have hG_661 := eOK.frame hMr_654 go_.2.2.2.1 mq2_ kq2_ (by decide) (by decide) hG_591
          have g := g.more hF_660
          refine lv_goto (tgt := 191) hx hb dX2_readStatement_154 (by decide) ?_
          subst hQ
          exact W.vret hx hb hr (fun t ht hW => ⟨⟨_, rfl, Or.inr (⟨hG_655, hG_661, x_656, h_657, x_558, h_559, (g.fcts [0, 6] rfl)⟩), q3_of g hK ht hW⟩, g.2.2.1.F ht⟩) g.2.2.1.2.2 dX2_readStatement_191
        refine lv_tableOut (tgt := 157) hx hb dX2_readStatement_90 (by have a0 : r_1.toInt ≠ 22 := fun h => e_592 (Int32.toInt_inj.mp (h.trans (by decide))); have a1 : r_1.toInt ≠ 23 := fun h => e_601 (Int32.toInt_inj.mp (h.trans (by decide))); have a2 : r_1.toInt ≠ 24 := fun h => e_608 (Int32.toInt_inj.mp (h.trans (by decide))); have a3 : r_1.toInt ≠ 25 := fun h => e_635 (Int32.toInt_inj.mp (h.trans (by decide))); have a4 : r_1.toInt ≠ 26 := fun h => e_642 (Int32.toInt_inj.mp (h.trans (by decide))); have a5 : r_1.toInt ≠ 27 := fun h => e_651 (Int32.toInt_inj.mp (h.trans (by decide))); omega) (by decide) ?_
        refine lv_iload_n hx hb dX2_readStatement_157 rfl (lv_at hl 0 rfl) ?_
        refine lv_bipush (v := 11) hx hb dX2_readStatement_158 (by decide) ?_
        have kb_11 : bd 11 11 (11 : Int32) := ⟨by decide, by decide⟩
        refine lv_icmp_ne (tgt := 173) hx hb dX2_readStatement_160 (by decide) (fun c_662 => ?_) (fun c_662 => ?_)
        · have fc_662 := neq_f c_662
          refine lv_aload_n hx hb dX2_readStatement_173 rfl (lv_at hl 1 rfl) ?_
          have kb_1201 : bd 1201 1201 (1201 : Int32) := ⟨by decide, by decide⟩
          have go_ := g
          refine g_calli (va_runV (As := []) (rest := []) ⟨hx, hb, hml, hown, hts⟩ (r_X2_findNamed l dC dI L kd tys fr_586 H.size g.2.2.2.1 a0_ ma0_ ka0_ q0_ mq0_ kq0_ q1_ mq1_ kq1_ q3_ mq3_ kq3_ q4_ mq4_ kq4_ q9_ mq9_ kq9_ 1201 kb_1201 x_558 h_559 (g.fcts [7, 8, 10, 11, 16, 5, 6] rfl)) (cwV 0 hts (gV_ t_1388 t_1390 t_49 t_183 t_1391) rfl rfl rfl (by decide +kernel) ⟨(Nat.le_of_ble_eq_true rfl), (Nat.le_of_ble_eq_true rfl)⟩) (pre3V g hK ma0_ ka0_ (by decide) (q := (RX2, TX2, 16)) rfl) rfl rfl hl.1 rfl (lv_room (Nat.le_of_ble_eq_true rfl)) dX2_readStatement_174 ⟨(Nat.le_of_ble_eq_true rfl), (Nat.le_of_ble_eq_true rfl)⟩) g hK (by decide) (by decide) (fx' := [(7, 6, q3_, .int x_588), (7, 5, q3_, .ref a_584), (7, 4, q3_, .ref a_583), (7, 15, q3_, .int x_575), (6, 10, q5_, .int y_566), (8, 8, q0_, .int x_558), (2, 0, a0_, .ref q0_), (2, 1, a0_, .ref q1_), (2, 2, a0_, .ref q2_), (2, 3, a0_, .ref q3_), (2, 4, a0_, .ref q4_), (2, 5, a0_, .ref q5_), (0, 0, q2_, .ref q0_), (0, 1, q2_, .ref q1_), (5, 0, q1_, .ref q3_), (5, 1, q1_, .ref q9_), (2, 11, a0_, .int y0_)]) rfl (fun r_663 fr_663 H locs hp hMr_663 g => ?_)
          obtain ⟨h_664, x_665, h_666, hF_667⟩ := hp
          have hG_668 := dOK.frame hMr_663 go_.2.2.2.1 mq3_ kq3_ (by decide) (by decide) hG_587
          have hG_669 := eOK.frame hMr_663 go_.2.2.2.1 mq2_ kq2_ (by decide) (by decide) hG_591
          have g := g.more hF_667
          have kb_0 : bd 0 0 (0 : Int32) := ⟨by decide, by decide⟩
          refine lv_if_eq (tgt := 187) hx hb dX2_readStatement_177 (by decide) (fun c_670 => ?_) (fun c_670 => ?_)
          · have fc_670 := eq_f c_670
            have b_671 : bd 0 0 r_663 := eqX fc_670 h_664 kb_0 (by decide)
            refine lv_aload_n hx hb dX2_readStatement_187 rfl (lv_at hl 1 rfl) ?_
            have go_ := g
            refine g_callv (va_runV (As := []) (rest := []) ⟨hx, hb, hml, hown, hts⟩ (r_X2_readAssignment l dC dI L kd tys fr_663 H.size g.2.2.2.1 a0_ ma0_ ka0_ q0_ mq0_ kq0_ q1_ mq1_ kq1_ q2_ mq2_ kq2_ q3_ mq3_ kq3_ q4_ mq4_ kq4_ q9_ mq9_ kq9_ x_665 h_666 x_558 h_559 T_ hG_668 hG_669 (g.fcts [7, 8, 9, 10, 11, 13, 14, 15, 16, 0, 6] rfl)) (cwV 0 hts (gV_ t_1397 t_1399 t_51 t_183 t_1400) rfl rfl rfl (by decide +kernel) ⟨(Nat.le_of_ble_eq_true rfl), (Nat.le_of_ble_eq_true rfl)⟩) (pre3V g hK ma0_ ka0_ (by decide) (q := (RX2, TX2, 16)) rfl) rfl rfl hl.1 rfl (lv_room (Nat.le_of_ble_eq_true rfl)) dX2_readStatement_188 ⟨(Nat.le_of_ble_eq_true rfl), (Nat.le_of_ble_eq_true rfl)⟩) g hK (by decide) (by decide) (fx' := [(7, 5, q3_, .ref a_584), (7, 4, q3_, .ref a_583), (7, 15, q3_, .int x_575), (6, 10, q5_, .int y_566), (8, 8, q0_, .int x_558), (2, 0, a0_, .ref q0_), (2, 1, a0_, .ref q1_), (2, 2, a0_, .ref q2_), (2, 3, a0_, .ref q3_), (2, 4, a0_, .ref q4_), (2, 5, a0_, .ref q5_), (0, 0, q2_, .ref q0_), (0, 1, q2_, .ref q1_), (5, 0, q1_, .ref q3_), (5, 1, q1_, .ref q9_), (2, 11, a0_, .int y0_)]) rfl (fun fr_672 H locs hp hMr_672 g => ?_)
            obtain ⟨hG_673, x_674, h_675, hF_676⟩ := hp
            have hG_677 := eOK.frame hMr_672 go_.2.2.2.1 mq2_ kq2_ (by decide) (by decide) hG_669
            have g := g.more hF_676
            subst hQ
            exact W.vret hx hb hr (fun t ht hW => ⟨⟨_, rfl, Or.inr (⟨hG_673, hG_677, x_674, h_675, x_558, h_559, (g.fcts [0, 11] rfl)⟩), q3_of g hK ht hW⟩, g.2.2.1.F ht⟩) g.2.2.1.2.2 dX2_readStatement_191
          · have fc_670 := neq_f c_670
            have b_678 : bd 1 1 r_663 := neX fc_670 h_664 kb_0 (by decide)
            refine lv_aload_n hx hb dX2_readStatement_180 rfl (lv_at hl 1 rfl) ?_
            have go_ := g
            refine g_callv (va_runV (As := []) (rest := []) ⟨hx, hb, hml, hown, hts⟩ (r_X2_readArguments_3 l dC dI L kd tys fr_663 H.size g.2.2.2.1 a0_ ma0_ ka0_ q0_ mq0_ kq0_ q1_ mq1_ kq1_ q2_ mq2_ kq2_ q3_ mq3_ kq3_ q9_ mq9_ kq9_ x_665 h_666 x_558 h_559 T_ hG_668 hG_669 (g.fcts [7, 8, 9, 10, 13, 14, 15, 16, 0, 6] rfl)) (cwV 0 hts (gV_ t_1393 t_1395 t_50 t_183 t_1396) rfl rfl rfl (by decide +kernel) ⟨(Nat.le_of_ble_eq_true rfl), (Nat.le_of_ble_eq_true rfl)⟩) (pre3V g hK ma0_ ka0_ (by decide) (q := (RX2, TX2, 16)) rfl) rfl rfl hl.1 rfl (lv_room (Nat.le_of_ble_eq_true rfl)) dX2_readStatement_181 ⟨(Nat.le_of_ble_eq_true rfl), (Nat.le_of_ble_eq_true rfl)⟩) g hK (by decide) (by decide) (fx' := [(7, 5, q3_, .ref a_584), (7, 4, q3_, .ref a_583), (7, 15, q3_, .int x_575), (6, 10, q5_, .int y_566), (8, 8, q0_, .int x_558), (2, 0, a0_, .ref q0_), (2, 1, a0_, .ref q1_), (2, 2, a0_, .ref q2_), (2, 3, a0_, .ref q3_), (2, 4, a0_, .ref q4_), (2, 5, a0_, .ref q5_), (0, 0, q2_, .ref q0_), (0, 1, q2_, .ref q1_), (5, 0, q1_, .ref q3_), (5, 1, q1_, .ref q9_), (2, 11, a0_, .int y0_)]) rfl (fun fr_679 H locs hp hMr_679 g => ?_)
            obtain ⟨hG_680, x_681, h_682, hF_683⟩ := hp
            have hG_684 := eOK.frame hMr_679 go_.2.2.2.1 mq2_ kq2_ (by decide) (by decide) hG_669
            have g := g.more hF_683
            refine lv_goto (tgt := 191) hx hb dX2_readStatement_184 (by decide) ?_
            subst hQ
            exact W.vret hx hb hr (fun t ht hW => ⟨⟨_, rfl, Or.inr (⟨hG_680, hG_684, x_681, h_682, x_558, h_559, (g.fcts [0, 5] rfl)⟩), q3_of g hK ht hW⟩, g.2.2.1.F ht⟩) g.2.2.1.2.2 dX2_readStatement_191
        · have fc_662 := eq_f c_662
          have b_685 : bd 11 11 r_1 := eqX fc_662 b_169 kb_11 (by decide)
          refine lv_aload_n hx hb dX2_readStatement_163 rfl (lv_at hl 1 rfl) ?_
          have kb_1201 : bd 1201 1201 (1201 : Int32) := ⟨by decide, by decide⟩
          have go_ := g
          refine g_calli (va_runV (As := []) (rest := []) ⟨hx, hb, hml, hown, hts⟩ (r_X2_findAbove l dC dI L kd tys fr_586 H.size g.2.2.2.1 a0_ ma0_ ka0_ q0_ mq0_ kq0_ q3_ mq3_ kq3_ q4_ mq4_ kq4_ 1201 kb_1201 x_558 h_559 (g.fcts [7, 10, 11, 5, 6] rfl)) (cwV 0 hts (gV_ t_1383 t_1385 t_48 t_183 t_1386) rfl rfl rfl (by decide +kernel) ⟨(Nat.le_of_ble_eq_true rfl), (Nat.le_of_ble_eq_true rfl)⟩) (pre3V g hK ma0_ ka0_ (by decide) (q := (RX2, TX2, 16)) rfl) rfl rfl hl.1 rfl (lv_room (Nat.le_of_ble_eq_true rfl)) dX2_readStatement_164 ⟨(Nat.le_of_ble_eq_true rfl), (Nat.le_of_ble_eq_true rfl)⟩) g hK (by decide) (by decide) (fx' := [(7, 6, q3_, .int x_588), (7, 5, q3_, .ref a_584), (7, 4, q3_, .ref a_583), (7, 15, q3_, .int x_575), (6, 10, q5_, .int y_566), (8, 8, q0_, .int x_558), (2, 0, a0_, .ref q0_), (2, 1, a0_, .ref q1_), (2, 2, a0_, .ref q2_), (2, 3, a0_, .ref q3_), (2, 4, a0_, .ref q4_), (2, 5, a0_, .ref q5_), (0, 0, q2_, .ref q0_), (0, 1, q2_, .ref q1_), (5, 0, q1_, .ref q3_), (5, 1, q1_, .ref q9_), (2, 11, a0_, .int y0_)]) rfl (fun r_686 fr_686 H locs hp hMr_686 g => ?_)
          obtain ⟨h_687, hF_688⟩ := hp
          have hG_689 := dOK.frame hMr_686 go_.2.2.2.1 mq3_ kq3_ (by decide) (by decide) hG_587
          have hG_690 := eOK.frame hMr_686 go_.2.2.2.1 mq2_ kq2_ (by decide) (by decide) hG_591
          obtain rfl : r_686 = 1 := h_687
          have g := g.more hF_688
          refine lv_if_eq (tgt := 187) hx hb dX2_readStatement_167 (by decide) (fun c_ => absurd c_ (by decide)) (fun c_ => ?_)
          refine lv_goto (tgt := 180) hx hb dX2_readStatement_170 (by decide) ?_
          refine lv_aload_n hx hb dX2_readStatement_180 rfl (lv_at hl 1 rfl) ?_
          have go_ := g
          refine g_callv (va_runV (As := []) (rest := []) ⟨hx, hb, hml, hown, hts⟩ (r_X2_readArguments_3 l dC dI L kd tys fr_686 H.size g.2.2.2.1 a0_ ma0_ ka0_ q0_ mq0_ kq0_ q1_ mq1_ kq1_ q2_ mq2_ kq2_ q3_ mq3_ kq3_ q9_ mq9_ kq9_ 1201 kb_1201 x_558 h_559 T_ hG_689 hG_690 (g.fcts [7, 8, 9, 10, 13, 14, 15, 16, 0, 6] rfl)) (cwV 0 hts (gV_ t_1393 t_1395 t_50 t_183 t_1396) rfl rfl rfl (by decide +kernel) ⟨(Nat.le_of_ble_eq_true rfl), (Nat.le_of_ble_eq_true rfl)⟩) (pre3V g hK ma0_ ka0_ (by decide) (q := (RX2, TX2, 16)) rfl) rfl rfl hl.1 rfl (lv_room (Nat.le_of_ble_eq_true rfl)) dX2_readStatement_181 ⟨(Nat.le_of_ble_eq_true rfl), (Nat.le_of_ble_eq_true rfl)⟩) g hK (by decide) (by decide) (fx' := [(7, 5, q3_, .ref a_584), (7, 4, q3_, .ref a_583), (7, 15, q3_, .int x_575), (6, 10, q5_, .int y_566), (8, 8, q0_, .int x_558), (2, 0, a0_, .ref q0_), (2, 1, a0_, .ref q1_), (2, 2, a0_, .ref q2_), (2, 3, a0_, .ref q3_), (2, 4, a0_, .ref q4_), (2, 5, a0_, .ref q5_), (0, 0, q2_, .ref q0_), (0, 1, q2_, .ref q1_), (5, 0, q1_, .ref q3_), (5, 1, q1_, .ref q9_), (2, 11, a0_, .int y0_)]) rfl (fun fr_691 H locs hp hMr_691 g => ?_)
          obtain ⟨hG_692, x_693, h_694, hF_695⟩ := hp
          have hG_696 := eOK.frame hMr_691 go_.2.2.2.1 mq2_ kq2_ (by decide) (by decide) hG_690
          have g := g.more hF_695
          refine lv_goto (tgt := 191) hx hb dX2_readStatement_184 (by decide) ?_
          subst hQ
          exact W.vret hx hb hr (fun t ht hW => ⟨⟨_, rfl, Or.inr (⟨hG_692, hG_696, x_693, h_694, x_558, h_559, (g.fcts [0, 5] rfl)⟩), q3_of g hK ht hW⟩, g.2.2.1.F ht⟩) g.2.2.1.2.2 dX2_readStatement_191
  · have fc_7 := eq_f c_7
    have b_697 : bd 125 125 r_1 := eqX fc_7 (bdT r_1) kb_125 (by decide)
    refine lv_aload_n hx hb dX2_readStatement_14 rfl (lv_at hl 1 rfl) ?_
    have go_ := g
    refine g_callv (va_runV (As := []) (rest := []) ⟨hx, hb, hml, hown, hts⟩ (r_X2_closeBlock l dC dI L kd tys fr_1 H.size g.2.2.2.1 a0_ ma0_ ka0_ q0_ mq0_ kq0_ q3_ mq3_ kq3_ y0_ by0_ y1_ by1_ T_ (fun j9 => jOK fr_1 q3_ j9) hG_2 hG_4 hG_3 (fun _ h9 => h9) (g.fcts [0, 3, 10, 11] rfl)) (cwV 0 hts (gV_ t_1346 t_1348 t_42 t_183 t_1349) rfl rfl rfl (by decide +kernel) ⟨(Nat.le_of_ble_eq_true rfl), (Nat.le_of_ble_eq_true rfl)⟩) (pre3V g hK ma0_ ka0_ (by decide) (q := (RX2, TX2, 16)) rfl) rfl rfl hl.1 rfl (lv_room (Nat.le_of_ble_eq_true rfl)) dX2_readStatement_15 ⟨(Nat.le_of_ble_eq_true rfl), (Nat.le_of_ble_eq_true rfl)⟩) g hK (by decide) (by decide) (fx' := [(2, 0, a0_, .ref q0_), (2, 1, a0_, .ref q1_), (2, 2, a0_, .ref q2_), (2, 3, a0_, .ref q3_), (2, 4, a0_, .ref q4_), (2, 5, a0_, .ref q5_), (0, 0, q2_, .ref q0_), (0, 1, q2_, .ref q1_), (5, 0, q1_, .ref q3_), (5, 1, q1_, .ref q9_)]) rfl (fun fr_698 H locs hp hMr_698 g => ?_)
    rcases hp with ⟨hG_699, hG_700, hG_701, hG_702, x_703, h_704, hF_705⟩ | ⟨hG_706, hG_707, hG_708, hG_709, x_710, h_711, hF_712⟩
    · have hG_713 := eOK.frame hMr_698 go_.2.2.2.1 mq2_ kq2_ (by decide) (by decide) hG_6
      have g := g.more hF_705
      have hs_714 := jS.mv hG_5 hG_702
      subst hQ
      exact W.vret hx hb hr (fun t ht hW => ⟨⟨_, rfl, Or.inl ⟨hG_699, hG_701, hG_700, hs_714, hG_713, x_703, h_704, (g.fcts [0, 1] rfl)⟩, q3_of g hK ht hW⟩, g.2.2.1.F ht⟩) g.2.2.1.2.2 dX2_readStatement_18
    · have hG_715 := eOK.frame hMr_698 go_.2.2.2.1 mq2_ kq2_ (by decide) (by decide) hG_6
      have g := g.more hF_712
      have hs_716 := jS.mv hG_5 hG_709
      have kb_1201 : bd 1201 1201 (1201 : Int32) := ⟨by decide, by decide⟩
      subst hQ
      exact W.vret hx hb hr (fun t ht hW => ⟨⟨_, rfl, Or.inr (⟨hG_708, hG_715, 1201, kb_1201, x_710, h_711, (g.fcts [0, 1] rfl)⟩), q3_of g hK ht hW⟩, g.2.2.1.F ht⟩) g.2.2.1.2.2 dX2_readStatement_18
