set_option maxHeartbeats 4000000 in
set_option maxRecDepth 100000 in
theorem r_X2_readStatement (l : Launch) (dC : Nat → ClassId) (dI : Nat → Nat → Nat) (L : List Nat) (kd : Nat → Nat) (tys : List (ClassId × FieldType)) (f0 : Nat → va_E) (sz : Nat) (hWT : WT L kd tys f0) (a0_ : Nat) (ma0_ : a0_ ∈ L) (ka0_ : kd a0_ = 2) (q0_ : Nat) (mq0_ : q0_ ∈ L) (kq0_ : kd q0_ = 8) (q1_ : Nat) (mq1_ : q1_ ∈ L) (kq1_ : kd q1_ = 5) (q2_ : Nat) (mq2_ : q2_ ∈ L) (kq2_ : kd q2_ = 0) (q3_ : Nat) (mq3_ : q3_ ∈ L) (kq3_ : kd q3_ = 7) (q4_ : Nat) (mq4_ : q4_ ∈ L) (kq4_ : kd q4_ = 9) (q5_ : Nat) (mq5_ : q5_ ∈ L) (kq5_ : kd q5_ = 6) (q8_ : Nat) (mq8_ : q8_ ∈ L) (kq8_ : kd q8_ = 7) (q9_ : Nat) (mq9_ : q9_ ∈ L) (kq9_ : kd q9_ = 9) (y0_ : Int32) (by0_ : bd 0 0 y0_) (hGeq2_ : eOK f0 q2_) (hfx : Fs L kd f0 [(2, 0, a0_, .ref q0_), (2, 1, a0_, .ref q1_), (2, 2, a0_, .ref q2_), (2, 3, a0_, .ref q3_), (2, 4, a0_, .ref q4_), (2, 5, a0_, .ref q5_), (0, 0, q2_, .ref q0_), (0, 1, q2_, .ref q1_), (5, 0, q1_, .ref q8_), (5, 1, q1_, .ref q9_), (8, 8, q0_, .int y0_)]) : Met l yX2_readStatement (.code yX2_readStatement cX2_readStatement 2 none :: lw_g) ({ frames := 5, cells := 0, slots := 0, locals := 122 }) (va_Pc [.ref a0_] (P3 (dC, dI) L tys f0 sz)) (va_Qv (fun (f : Nat → va_E) => (eOK f q2_ ∧ ∃ z0_ : Int32, bd 1 1201 z0_ ∧ Fs L kd f [(8, 6, q0_, .int z0_), (8, 8, q0_, .int y0_)]) ∨ (eOK f q2_ ∧ ∃ z0_ : Int32, bd 1201 1201 z0_ ∧ ∃ z1_ : Int32, bd 1 2000 z1_ ∧ ∃ z2_ : Int32, bd 1 7 z2_ ∧ Fs L kd f [(8, 6, q0_, .int z0_), (7, 6, q3_, .int z1_), (8, 8, q0_, .int z2_)])) (Q3 (dC, dI) L kd tys [(0, 2), (0, 8), (0, 10), (0, 11), (0, 12), (0, 13), (2, 11), (2, 12), (2, 13), (2, 14), (2, 15), (5, 6), (6, 10), (7, 6), (7, 15), (7, 17), (7, 18), (8, 6), (8, 8), (8, 9)] [110, 111, 112, 113, 114, 115, 118, 119, 120, 121, 133, 138, 139, 146, 147] f0 sz) (pA L sz)) 0 0 (pA L sz) := by
  refine Met.ofW (cc := cX2_readStatement) (maxL := 2) (ret := none) (by decide) rfl ?_
  intro p e s m args below meth c s₁ B hml hv
  obtain ⟨rfl, hsz, hP, hK, hD0⟩ := hv
  have hx := B.exec
  have hb := B.bytes
  have hr := B.returns
  have hts := atoms_spec (ws := (.code yX2_readStatement cX2_readStatement 2 none :: lw_g)) B.pre
  have hown : s.vm.findClass RX2 = some m.cls := findClass_of_methodNamed B.named
  have hlocks := B.notSynchronized
  subst hsz
  have g : G3 (dC, dI) L kd tys s f0 [(0, 2), (0, 8), (0, 10), (0, 11), (0, 12), (0, 13), (2, 11), (2, 12), (2, 13), (2, 14), (2, 15), (5, 6), (6, 10), (7, 6), (7, 15), (7, 17), (7, 18), (8, 6), (8, 8), (8, 9)] [110, 111, 112, 113, 114, 115, 118, 119, 120, 121, 133, 138, 139, 146, 147] f0 s.heap [] [(2, 0, a0_, .ref q0_), (2, 1, a0_, .ref q1_), (2, 2, a0_, .ref q2_), (2, 3, a0_, .ref q3_), (2, 4, a0_, .ref q4_), (2, 5, a0_, .ref q5_), (0, 0, q2_, .ref q0_), (0, 1, q2_, .ref q1_), (5, 0, q1_, .ref q8_), (5, 1, q1_, .ref q9_), (8, 8, q0_, .int y0_)] := G3.start hP hD0 hWT hfx
  have hl := lv_entry ([.ref a0_]) (n := 2) (Nat.le_of_ble_eq_true rfl)
  rw [lg_entry_eq]
  generalize (lg_sl ([.ref a0_]) ++ List.replicate (2 - (lg_sl ([.ref a0_])).length) Slot.unset).toArray = ls at hl ⊢
  have hl : lv_has ls 2 [(0, .ref a0_)] := hl
  refine W_q (fun Q hQ => ?_)
  refine lv_aload_n hx hb dX2_readStatement_0 rfl (lv_at hl 0 rfl) ?_
  refine g_getk (C := RX2) (T := TX2) (N := 16) hx hb hts (mc_ inX2) hown hK g rfl 0 (by decide) rfl (hts _ (List.mem_cons_of_mem _ t_416)) (fun _ h9 => h9) 0 rfl dX2_readStatement_1 ?_
  have go_ := g
  refine g_calli (va_runV (As := []) (rest := []) ⟨hx, hb, hml, hown, hts⟩ (r_X8_kind l dC dI L kd tys f0 s.heap.size g.2.2.2.1 q0_ mq0_ kq0_) (cwV 0 hts (gV_ t_1118 t_1119 t_1120 t_184 t_1121) rfl rfl rfl (by decide +kernel) ⟨(Nat.le_of_ble_eq_true rfl), (Nat.le_of_ble_eq_true rfl)⟩) (pre3V g hK mq0_ kq0_ (by decide) (q := (RX8, TX8, 10)) rfl) rfl rfl hl.1 rfl (lv_room (Nat.le_of_ble_eq_true rfl)) dX2_readStatement_4 ⟨(Nat.le_of_ble_eq_true rfl), (Nat.le_of_ble_eq_true rfl)⟩) g hK (by decide) (by decide) (fx' := [(2, 0, a0_, .ref q0_), (2, 1, a0_, .ref q1_), (2, 2, a0_, .ref q2_), (2, 3, a0_, .ref q3_), (2, 4, a0_, .ref q4_), (2, 5, a0_, .ref q5_), (0, 0, q2_, .ref q0_), (0, 1, q2_, .ref q1_), (5, 0, q1_, .ref q8_), (5, 1, q1_, .ref q9_), (8, 8, q0_, .int y0_)]) rfl (fun r_1 fr_1 H locs hp hMr_1 g => ?_)
  have hG_2 := eOK.frame hMr_1 go_.2.2.2.1 mq2_ kq2_ (by decide) (by decide) hGeq2_
  refine lv_istore_n (lv' := [(1, .int r_1), (0, .ref a0_)]) hx hb dX2_readStatement_7 rfl hl (by decide) rfl (fun ls hl => ?_)
  refine lv_iload_n hx hb dX2_readStatement_8 rfl (lv_at hl 0 rfl) ?_
  refine lv_bipush (v := 125) hx hb dX2_readStatement_9 (by decide) ?_
  have kb_125 : bd 125 125 (125 : Int32) := ⟨by decide, by decide⟩
  refine lv_icmp_ne (tgt := 19) hx hb dX2_readStatement_11 (by decide) (fun c_3 => ?_) (fun c_3 => ?_)
  · have fc_3 := neq_f c_3
    refine lv_iload_n hx hb dX2_readStatement_19 rfl (lv_at hl 0 rfl) ?_
    have go_ := g
    refine g_calli (va_runS (As := [.int r_1]) (rest := []) ⟨hx, hb, hml, hown, hts⟩ (r_X2_startsStatement l dC dI L kd tys fr_1 H.size g.2.2.2.1 r_1) (va_cwS 1 hts (gS_ t_1351 t_1352 t_183 t_1353) rfl rfl rfl (by decide +kernel) ⟨(Nat.le_of_ble_eq_true rfl), (Nat.le_of_ble_eq_true rfl)⟩) (pre3S g hK) rfl rfl hl.1 rfl (lv_room (Nat.le_of_ble_eq_true rfl)) dX2_readStatement_20 ⟨(Nat.le_of_ble_eq_true rfl), (Nat.le_of_ble_eq_true rfl)⟩) g hK (by decide) (by decide) (fx' := [(2, 0, a0_, .ref q0_), (2, 1, a0_, .ref q1_), (2, 2, a0_, .ref q2_), (2, 3, a0_, .ref q3_), (2, 4, a0_, .ref q4_), (2, 5, a0_, .ref q5_), (0, 0, q2_, .ref q0_), (0, 1, q2_, .ref q1_), (5, 0, q1_, .ref q8_), (5, 1, q1_, .ref q9_), (8, 8, q0_, .int y0_)]) rfl (fun r_4 fr_4 H locs hp hMr_4 g => ?_)
    rcases hp with ⟨h_5, -⟩ | ⟨h_6, h_7, -⟩
    · have hG_8 := eOK.frame hMr_4 go_.2.2.2.1 mq2_ kq2_ (by decide) (by decide) hG_2
      obtain rfl : r_4 = 0 := h_5
      refine lv_if_ne (tgt := 44) hx hb dX2_readStatement_23 (by decide) (fun c_ => absurd c_ (by decide)) (fun c_ => ?_)
      refine lv_aload_n hx hb dX2_readStatement_26 rfl (lv_at hl 1 rfl) ?_
      refine g_getk (C := RX2) (T := TX2) (N := 16) hx hb hts (mc_ inX2) hown hK g rfl 0 (by decide) rfl (hts _ (List.mem_cons_of_mem _ t_416)) (fun _ h9 => h9) 0 rfl dX2_readStatement_27 ?_
      refine lv_iconst (v := 1) hx hb dX2_readStatement_30 (by decide) ?_
      refine lv_aload_n hx hb dX2_readStatement_31 rfl (lv_at hl 1 rfl) ?_
      refine g_getk (C := RX2) (T := TX2) (N := 16) hx hb hts (mc_ inX2) hown hK g rfl 0 (by decide) rfl (hts _ (List.mem_cons_of_mem _ t_416)) (fun _ h9 => h9) 0 rfl dX2_readStatement_32 ?_
      have go_ := g
      refine g_calli (va_runV (As := []) (rest := [.int 1, .ref q0_]) ⟨hx, hb, hml, hown, hts⟩ (r_X8_place l dC dI L kd tys fr_4 H.size g.2.2.2.1 q0_ mq0_ kq0_) (cwV 0 hts (gV_ t_1110 t_1111 t_1112 t_184 t_1113) rfl rfl rfl (by decide +kernel) ⟨(Nat.le_of_ble_eq_true rfl), (Nat.le_of_ble_eq_true rfl)⟩) (pre3V g hK mq0_ kq0_ (by decide) (q := (RX8, TX8, 10)) rfl) rfl rfl hl.1 rfl (lv_room (Nat.le_of_ble_eq_true rfl)) dX2_readStatement_35 ⟨(Nat.le_of_ble_eq_true rfl), (Nat.le_of_ble_eq_true rfl)⟩) g hK (by decide) (by decide) (fx' := [(2, 0, a0_, .ref q0_), (2, 1, a0_, .ref q1_), (2, 2, a0_, .ref q2_), (2, 3, a0_, .ref q3_), (2, 4, a0_, .ref q4_), (2, 5, a0_, .ref q5_), (0, 0, q2_, .ref q0_), (0, 1, q2_, .ref q1_), (5, 0, q1_, .ref q8_), (5, 1, q1_, .ref q9_), (8, 8, q0_, .int y0_)]) rfl (fun r_9 fr_9 H locs hp hMr_9 g => ?_)
      have hG_10 := eOK.frame hMr_9 go_.2.2.2.1 mq2_ kq2_ (by decide) (by decide) hG_8
      have kb_1 : bd 1 1 (1 : Int32) := ⟨by decide, by decide⟩
      have go_ := g
      refine g_callv (va_runV (As := [.int 1, .int r_9]) (rest := []) ⟨hx, hb, hml, hown, hts⟩ (r_X8_fail l dC dI L kd tys fr_9 H.size g.2.2.2.1 q0_ mq0_ kq0_ 1 (bd_sub kb_1 (by decide)) r_9 y0_ by0_ (g.fcts [10] rfl)) (cwV 2 hts (gV_ t_1122 t_1107 t_1108 t_184 t_1109) rfl rfl rfl (by decide +kernel) ⟨(Nat.le_of_ble_eq_true rfl), (Nat.le_of_ble_eq_true rfl)⟩) (pre3V g hK mq0_ kq0_ (by decide) (q := (RX8, TX8, 10)) rfl) rfl rfl hl.1 rfl (lv_room (Nat.le_of_ble_eq_true rfl)) dX2_readStatement_38 ⟨(Nat.le_of_ble_eq_true rfl), (Nat.le_of_ble_eq_true rfl)⟩) g hK (by decide) (by decide) (fx' := [(2, 0, a0_, .ref q0_), (2, 1, a0_, .ref q1_), (2, 2, a0_, .ref q2_), (2, 3, a0_, .ref q3_), (2, 4, a0_, .ref q4_), (2, 5, a0_, .ref q5_), (0, 0, q2_, .ref q0_), (0, 1, q2_, .ref q1_), (5, 0, q1_, .ref q8_), (5, 1, q1_, .ref q9_)]) rfl (fun fr_11 H locs hp hMr_11 g => ?_)
      obtain ⟨x_12, h_13, hF_14⟩ := hp
      have hG_15 := eOK.frame hMr_11 go_.2.2.2.1 mq2_ kq2_ (by decide) (by decide) hG_10
      have g := g.more hF_14
      refine lv_goto (tgt := 60) hx hb dX2_readStatement_41 (by decide) ?_
      refine lv_aload_n hx hb dX2_readStatement_60 rfl (lv_at hl 1 rfl) ?_
      refine g_getk (C := RX2) (T := TX2) (N := 16) hx hb hts (mc_ inX2) hown hK g rfl 5 (by decide) rfl (hts _ (List.mem_cons_of_mem _ t_421)) (fun _ h9 => h9) 7 rfl dX2_readStatement_61 ?_
      refine lv_dup hx hb dX2_readStatement_64 rfl ?_
      refine g_geti (C := RX6) (T := TX6) (N := 13) hx hb hts (mc_ inX6) hown hK g mq5_ kq5_ (by decide) rfl 10 (by decide) rfl (hts _ (List.mem_cons_of_mem _ t_588)) (fun _ h9 => h9) rfl dX2_readStatement_65 (fun x_16 bx_16 g => ?_)
      refine lv_iconst (v := 1) hx hb dX2_readStatement_68 (by decide) ?_
      refine lv_iadd hx hb dX2_readStatement_69 ?_
      refine lv_topi (fun y_17 ey_17 => ?_)
      have go_ := g
      refine g_put (C := RX6) (T := TX6) (N := 13) hx hb hts (mc_ inX6) tyX6 tyX6_ok nmX6 hown hK g mq5_ kq5_ (by decide) rfl 10 (by decide) (hts _ (List.mem_cons_of_mem _ t_588)) (fun _ h9 => h9) rfl rfl (okV_i (bdT y_17)) rfl rfl (by decide) (Or.inr (Or.inl (by decide))) (fx' := [(8, 6, q0_, .int 1201), (8, 8, q0_, .int x_12), (2, 0, a0_, .ref q0_), (2, 1, a0_, .ref q1_), (2, 2, a0_, .ref q2_), (2, 3, a0_, .ref q3_), (2, 4, a0_, .ref q4_), (2, 5, a0_, .ref q5_), (0, 0, q2_, .ref q0_), (0, 1, q2_, .ref q1_), (5, 0, q1_, .ref q8_), (5, 1, q1_, .ref q9_)]) rfl dX2_readStatement_70 (fun f H locs hM_18 g => ?_)
      have hG_19 := eOK.frame hM_18 go_.2.2.2.1 mq2_ kq2_ (by decide) (by decide) hG_15
      refine lv_aload_n hx hb dX2_readStatement_73 rfl (lv_at hl 1 rfl) ?_
      refine g_getk (C := RX2) (T := TX2) (N := 16) hx hb hts (mc_ inX2) hown hK g rfl 3 (by decide) rfl (hts _ (List.mem_cons_of_mem _ t_419)) (fun _ h9 => h9) 6 rfl dX2_readStatement_74 ?_
      refine lv_bipush (v := 12) hx hb dX2_readStatement_77 (by decide) ?_
      refine lv_aload_n hx hb dX2_readStatement_79 rfl (lv_at hl 1 rfl) ?_
      refine g_getk (C := RX2) (T := TX2) (N := 16) hx hb hts (mc_ inX2) hown hK g rfl 3 (by decide) rfl (hts _ (List.mem_cons_of_mem _ t_419)) (fun _ h9 => h9) 6 rfl dX2_readStatement_80 ?_
      have go_ := g
      refine g_calli (va_runV (As := []) (rest := [.int 12, .ref q3_]) ⟨hx, hb, hml, hown, hts⟩ (r_X7_addStatement l dC dI L kd tys f H.size g.2.2.2.1 q3_ mq3_ kq3_) (cwV 0 hts (gV_ t_1359 t_1360 t_1361 t_191 t_1362) rfl rfl rfl (by decide +kernel) ⟨(Nat.le_of_ble_eq_true rfl), (Nat.le_of_ble_eq_true rfl)⟩) (pre3V g hK mq3_ kq3_ (by decide) (q := (RX7, TX7, 19)) rfl) rfl rfl hl.1 rfl (lv_room (Nat.le_of_ble_eq_true rfl)) dX2_readStatement_83 ⟨(Nat.le_of_ble_eq_true rfl), (Nat.le_of_ble_eq_true rfl)⟩) g hK (by decide) (by decide) (fx' := [(6, 10, q5_, .int y_17), (8, 6, q0_, .int 1201), (8, 8, q0_, .int x_12), (2, 0, a0_, .ref q0_), (2, 1, a0_, .ref q1_), (2, 2, a0_, .ref q2_), (2, 3, a0_, .ref q3_), (2, 4, a0_, .ref q4_), (2, 5, a0_, .ref q5_), (0, 0, q2_, .ref q0_), (0, 1, q2_, .ref q1_), (5, 0, q1_, .ref q8_), (5, 1, q1_, .ref q9_)]) rfl (fun r_20 fr_20 H locs hp hMr_20 g => ?_)
      obtain ⟨h_21, x_22, h_23, hF_24⟩ := hp
      have hG_25 := eOK.frame hMr_20 go_.2.2.2.1 mq2_ kq2_ (by decide) (by decide) hG_19
      have g := g.more hF_24
      have go_ := g
      refine g_callv (va_runV (As := [.int 12, .int r_20]) (rest := []) ⟨hx, hb, hml, hown, hts⟩ (r_X7_emit l dC dI L kd tys fr_20 H.size g.2.2.2.1 q3_ mq3_ kq3_ 12 r_20) (cwV 2 hts (gV_ t_1301 t_1204 t_1205 t_191 t_1206) rfl rfl rfl (by decide +kernel) ⟨(Nat.le_of_ble_eq_true rfl), (Nat.le_of_ble_eq_true rfl)⟩) (pre3V g hK mq3_ kq3_ (by decide) (q := (RX7, TX7, 19)) rfl) rfl rfl hl.1 rfl (lv_room (Nat.le_of_ble_eq_true rfl)) dX2_readStatement_86 ⟨(Nat.le_of_ble_eq_true rfl), (Nat.le_of_ble_eq_true rfl)⟩) g hK (by decide) (by decide) (fx' := [(7, 15, q3_, .int x_22), (6, 10, q5_, .int y_17), (8, 6, q0_, .int 1201), (8, 8, q0_, .int x_12), (2, 0, a0_, .ref q0_), (2, 1, a0_, .ref q1_), (2, 2, a0_, .ref q2_), (2, 3, a0_, .ref q3_), (2, 4, a0_, .ref q4_), (2, 5, a0_, .ref q5_), (0, 0, q2_, .ref q0_), (0, 1, q2_, .ref q1_), (5, 0, q1_, .ref q8_), (5, 1, q1_, .ref q9_)]) rfl (fun fr_26 H locs hp hMr_26 g => ?_)
      obtain ⟨x_27, h_28, hF_29⟩ := hp
      have hG_30 := eOK.frame hMr_26 go_.2.2.2.1 mq2_ kq2_ (by decide) (by decide) hG_25
      have g := g.more hF_29
      refine lv_iload_n hx hb dX2_readStatement_89 rfl (lv_at hl 0 rfl) ?_
      by_cases e_31 : r_1 = 22
      · refine lv_topi (fun z_32 ez_32 => ?_)
        obtain rfl : z_32 = 22 := ez_32.trans e_31
        have kb_22 : bd 22 22 (22 : Int32) := ⟨by decide, by decide⟩
        have b_33 : bd 22 22 r_1 := eqX (eq_f e_31) (bdT r_1) kb_22 (by decide)
        refine lv_tableIn (off := 38) (tgt := 128) hx hb dX2_readStatement_90 (by decide) (by decide) rfl (by decide) ?_
        refine lv_aload_n hx hb dX2_readStatement_128 rfl (lv_at hl 1 rfl) ?_
        have kb_1201 : bd 1201 1201 (1201 : Int32) := ⟨by decide, by decide⟩
        have go_ := g
        refine g_callv (va_runV (As := []) (rest := []) ⟨hx, hb, hml, hown, hts⟩ (r_X2_readLet l dC dI L kd tys fr_26 H.size g.2.2.2.1 a0_ ma0_ ka0_ q0_ mq0_ kq0_ q1_ mq1_ kq1_ q2_ mq2_ kq2_ q3_ mq3_ kq3_ q8_ mq8_ kq8_ q9_ mq9_ kq9_ 1201 kb_1201 x_12 h_13 hG_30 (g.fcts [5, 6, 7, 8, 11, 12, 13, 14, 3, 4] rfl)) (cwV 0 hts (gV_ t_1363 t_1365 t_44 t_183 t_1366) rfl rfl rfl (by decide +kernel) ⟨(Nat.le_of_ble_eq_true rfl), (Nat.le_of_ble_eq_true rfl)⟩) (pre3V g hK ma0_ ka0_ (by decide) (q := (RX2, TX2, 16)) rfl) rfl rfl hl.1 rfl (lv_room (Nat.le_of_ble_eq_true rfl)) dX2_readStatement_129 ⟨(Nat.le_of_ble_eq_true rfl), (Nat.le_of_ble_eq_true rfl)⟩) g hK (by decide) (by decide) (fx' := [(7, 15, q3_, .int x_22), (6, 10, q5_, .int y_17), (8, 8, q0_, .int x_12), (2, 0, a0_, .ref q0_), (2, 1, a0_, .ref q1_), (2, 2, a0_, .ref q2_), (2, 3, a0_, .ref q3_), (2, 4, a0_, .ref q4_), (2, 5, a0_, .ref q5_), (0, 0, q2_, .ref q0_), (0, 1, q2_, .ref q1_), (5, 0, q1_, .ref q8_), (5, 1, q1_, .ref q9_)]) rfl (fun fr_34 H locs hp hMr_34 g => ?_)
        obtain ⟨x_35, h_36, x_37, h_38, hF_39⟩ := hp
        have hG_40 := eOK.frame hMr_34 go_.2.2.2.1 mq2_ kq2_ (by decide) (by decide) hG_30
        have g := g.more hF_39
        refine lv_goto (tgt := 191) hx hb dX2_readStatement_132 (by decide) ?_
        subst hQ
        exact W.vret hx hb hr (fun t ht hW => ⟨⟨_, rfl, Or.inr (⟨hG_40, x_35, h_36, x_37, h_38, x_12, h_13, (g.fcts [0, 1, 10] rfl)⟩), q3_of g hK ht hW⟩, g.2.2.1.F ht⟩) g.2.2.1.2.2 dX2_readStatement_191
      by_cases e_41 : r_1 = 23
      · refine lv_topi (fun z_42 ez_42 => ?_)
        obtain rfl : z_42 = 23 := ez_42.trans e_41
        have kb_23 : bd 23 23 (23 : Int32) := ⟨by decide, by decide⟩
        have b_43 : bd 23 23 r_1 := eqX (eq_f e_41) (bdT r_1) kb_23 (by decide)
        refine lv_tableIn (off := 45) (tgt := 135) hx hb dX2_readStatement_90 (by decide) (by decide) rfl (by decide) ?_
        refine lv_aload_n hx hb dX2_readStatement_135 rfl (lv_at hl 1 rfl) ?_
        refine lv_iload_n hx hb dX2_readStatement_136 rfl (lv_at hl 0 rfl) ?_
        have kb_1201 : bd 1201 1201 (1201 : Int32) := ⟨by decide, by decide⟩
        have go_ := g
        refine g_callv (va_runV (As := [.int r_1]) (rest := []) ⟨hx, hb, hml, hown, hts⟩ (r_X2_readTest l dC dI L kd tys fr_26 H.size g.2.2.2.1 a0_ ma0_ ka0_ r_1 q0_ mq0_ kq0_ q1_ mq1_ kq1_ q2_ mq2_ kq2_ q3_ mq3_ kq3_ q8_ mq8_ kq8_ q9_ mq9_ kq9_ 1201 kb_1201 x_12 h_13 hG_30 (g.fcts [5, 6, 7, 8, 11, 12, 13, 14, 3, 4] rfl)) (cwV 1 hts (gV_ t_1367 t_1369 t_45 t_183 t_1370) rfl rfl rfl (by decide +kernel) ⟨(Nat.le_of_ble_eq_true rfl), (Nat.le_of_ble_eq_true rfl)⟩) (pre3V g hK ma0_ ka0_ (by decide) (q := (RX2, TX2, 16)) rfl) rfl rfl hl.1 rfl (lv_room (Nat.le_of_ble_eq_true rfl)) dX2_readStatement_137 ⟨(Nat.le_of_ble_eq_true rfl), (Nat.le_of_ble_eq_true rfl)⟩) g hK (by decide) (by decide) (fx' := [(7, 15, q3_, .int x_22), (6, 10, q5_, .int y_17), (8, 8, q0_, .int x_12), (2, 0, a0_, .ref q0_), (2, 1, a0_, .ref q1_), (2, 2, a0_, .ref q2_), (2, 3, a0_, .ref q3_), (2, 4, a0_, .ref q4_), (2, 5, a0_, .ref q5_), (0, 0, q2_, .ref q0_), (0, 1, q2_, .ref q1_), (5, 0, q1_, .ref q8_), (5, 1, q1_, .ref q9_)]) rfl (fun fr_44 H locs hp hMr_44 g => ?_)
        obtain ⟨x_45, h_46, hF_47⟩ := hp
        have hG_48 := eOK.frame hMr_44 go_.2.2.2.1 mq2_ kq2_ (by decide) (by decide) hG_30
        have g := g.more hF_47
        refine lv_goto (tgt := 191) hx hb dX2_readStatement_140 (by decide) ?_
        subst hQ
        exact W.vret hx hb hr (fun t ht hW => ⟨⟨_, rfl, Or.inr (⟨hG_48, 1201, kb_1201, x_45, h_46, x_12, h_13, (g.fcts [0, 1, 10] rfl)⟩), q3_of g hK ht hW⟩, g.2.2.1.F ht⟩) g.2.2.1.2.2 dX2_readStatement_191
      by_cases e_49 : r_1 = 24
      · refine lv_topi (fun z_50 ez_50 => ?_)
        obtain rfl : z_50 = 24 := ez_50.trans e_49
        have kb_24 : bd 24 24 (24 : Int32) := ⟨by decide, by decide⟩
        have b_51 : bd 24 24 r_1 := eqX (eq_f e_49) (bdT r_1) kb_24 (by decide)
        refine lv_tableIn (off := 67) (tgt := 157) hx hb dX2_readStatement_90 (by decide) (by decide) rfl (by decide) ?_
        refine lv_iload_n hx hb dX2_readStatement_157 rfl (lv_at hl 0 rfl) ?_
        refine lv_bipush (v := 11) hx hb dX2_readStatement_158 (by decide) ?_
        have kb_11 : bd 11 11 (11 : Int32) := ⟨by decide, by decide⟩
        refine lv_icmp_ne (tgt := 173) hx hb dX2_readStatement_160 (by decide) (fun c_52 => ?_) (fun c_52 => ?_)
        · have fc_52 := neq_f c_52
          refine lv_aload_n hx hb dX2_readStatement_173 rfl (lv_at hl 1 rfl) ?_
          have kb_1201 : bd 1201 1201 (1201 : Int32) := ⟨by decide, by decide⟩
          have go_ := g
          refine g_calli (va_runV (As := []) (rest := []) ⟨hx, hb, hml, hown, hts⟩ (r_X2_findNamed l dC dI L kd tys fr_26 H.size g.2.2.2.1 a0_ ma0_ ka0_ q0_ mq0_ kq0_ q1_ mq1_ kq1_ q3_ mq3_ kq3_ q4_ mq4_ kq4_ q9_ mq9_ kq9_ 1201 kb_1201 x_12 h_13 (g.fcts [5, 6, 8, 9, 14, 3, 4] rfl)) (cwV 0 hts (gV_ t_1388 t_1390 t_49 t_183 t_1391) rfl rfl rfl (by decide +kernel) ⟨(Nat.le_of_ble_eq_true rfl), (Nat.le_of_ble_eq_true rfl)⟩) (pre3V g hK ma0_ ka0_ (by decide) (q := (RX2, TX2, 16)) rfl) rfl rfl hl.1 rfl (lv_room (Nat.le_of_ble_eq_true rfl)) dX2_readStatement_174 ⟨(Nat.le_of_ble_eq_true rfl), (Nat.le_of_ble_eq_true rfl)⟩) g hK (by decide) (by decide) (fx' := [(7, 6, q3_, .int x_27), (7, 15, q3_, .int x_22), (6, 10, q5_, .int y_17), (8, 8, q0_, .int x_12), (2, 0, a0_, .ref q0_), (2, 1, a0_, .ref q1_), (2, 2, a0_, .ref q2_), (2, 3, a0_, .ref q3_), (2, 4, a0_, .ref q4_), (2, 5, a0_, .ref q5_), (0, 0, q2_, .ref q0_), (0, 1, q2_, .ref q1_), (5, 0, q1_, .ref q8_), (5, 1, q1_, .ref q9_)]) rfl (fun r_53 fr_53 H locs hp hMr_53 g => ?_)
          obtain ⟨h_54, x_55, h_56, hF_57⟩ := hp
          have hG_58 := eOK.frame hMr_53 go_.2.2.2.1 mq2_ kq2_ (by decide) (by decide) hG_30
          have g := g.more hF_57
          have kb_0 : bd 0 0 (0 : Int32) := ⟨by decide, by decide⟩
          refine lv_if_eq (tgt := 187) hx hb dX2_readStatement_177 (by decide) (fun c_59 => ?_) (fun c_59 => ?_)
          · have fc_59 := eq_f c_59
            have b_60 : bd 0 0 r_53 := eqX fc_59 h_54 kb_0 (by decide)
            refine lv_aload_n hx hb dX2_readStatement_187 rfl (lv_at hl 1 rfl) ?_
            have go_ := g
            refine g_callv (va_runV (As := []) (rest := []) ⟨hx, hb, hml, hown, hts⟩ (r_X2_readAssignment l dC dI L kd tys fr_53 H.size g.2.2.2.1 a0_ ma0_ ka0_ q0_ mq0_ kq0_ q1_ mq1_ kq1_ q2_ mq2_ kq2_ q3_ mq3_ kq3_ q4_ mq4_ kq4_ q8_ mq8_ kq8_ q9_ mq9_ kq9_ x_55 h_56 x_12 h_13 hG_58 (g.fcts [5, 6, 7, 8, 9, 11, 12, 13, 14, 0, 4] rfl)) (cwV 0 hts (gV_ t_1397 t_1399 t_51 t_183 t_1400) rfl rfl rfl (by decide +kernel) ⟨(Nat.le_of_ble_eq_true rfl), (Nat.le_of_ble_eq_true rfl)⟩) (pre3V g hK ma0_ ka0_ (by decide) (q := (RX2, TX2, 16)) rfl) rfl rfl hl.1 rfl (lv_room (Nat.le_of_ble_eq_true rfl)) dX2_readStatement_188 ⟨(Nat.le_of_ble_eq_true rfl), (Nat.le_of_ble_eq_true rfl)⟩) g hK (by decide) (by decide) (fx' := [(7, 15, q3_, .int x_22), (6, 10, q5_, .int y_17), (8, 8, q0_, .int x_12), (2, 0, a0_, .ref q0_), (2, 1, a0_, .ref q1_), (2, 2, a0_, .ref q2_), (2, 3, a0_, .ref q3_), (2, 4, a0_, .ref q4_), (2, 5, a0_, .ref q5_), (0, 0, q2_, .ref q0_), (0, 1, q2_, .ref q1_), (5, 0, q1_, .ref q8_), (5, 1, q1_, .ref q9_)]) rfl (fun fr_61 H locs hp hMr_61 g => ?_)
            obtain ⟨x_62, h_63, x_64, h_65, hF_66⟩ := hp
            have hG_67 := eOK.frame hMr_61 go_.2.2.2.1 mq2_ kq2_ (by decide) (by decide) hG_58
            have g := g.more hF_66
            subst hQ
            exact W.vret hx hb hr (fun t ht hW => ⟨⟨_, rfl, Or.inr (⟨hG_67, x_62, h_63, x_64, h_65, x_12, h_13, (g.fcts [0, 1, 10] rfl)⟩), q3_of g hK ht hW⟩, g.2.2.1.F ht⟩) g.2.2.1.2.2 dX2_readStatement_191
          · have fc_59 := neq_f c_59
            have b_68 : bd 1 1 r_53 := neX fc_59 h_54 kb_0 (by decide)
            refine lv_aload_n hx hb dX2_readStatement_180 rfl (lv_at hl 1 rfl) ?_
            have go_ := g
            refine g_callv (va_runV (As := []) (rest := []) ⟨hx, hb, hml, hown, hts⟩ (r_X2_readArguments_3 l dC dI L kd tys fr_53 H.size g.2.2.2.1 a0_ ma0_ ka0_ q0_ mq0_ kq0_ q1_ mq1_ kq1_ q2_ mq2_ kq2_ q3_ mq3_ kq3_ q8_ mq8_ kq8_ q9_ mq9_ kq9_ x_55 h_56 x_12 h_13 hG_58 (g.fcts [5, 6, 7, 8, 11, 12, 13, 14, 0, 4] rfl)) (cwV 0 hts (gV_ t_1393 t_1395 t_50 t_183 t_1396) rfl rfl rfl (by decide +kernel) ⟨(Nat.le_of_ble_eq_true rfl), (Nat.le_of_ble_eq_true rfl)⟩) (pre3V g hK ma0_ ka0_ (by decide) (q := (RX2, TX2, 16)) rfl) rfl rfl hl.1 rfl (lv_room (Nat.le_of_ble_eq_true rfl)) dX2_readStatement_181 ⟨(Nat.le_of_ble_eq_true rfl), (Nat.le_of_ble_eq_true rfl)⟩) g hK (by decide) (by decide) (fx' := [(7, 15, q3_, .int x_22), (6, 10, q5_, .int y_17), (8, 8, q0_, .int x_12), (2, 0, a0_, .ref q0_), (2, 1, a0_, .ref q1_), (2, 2, a0_, .ref q2_), (2, 3, a0_, .ref q3_), (2, 4, a0_, .ref q4_), (2, 5, a0_, .ref q5_), (0, 0, q2_, .ref q0_), (0, 1, q2_, .ref q1_), (5, 0, q1_, .ref q8_), (5, 1, q1_, .ref q9_)]) rfl (fun fr_69 H locs hp hMr_69 g => ?_)
            obtain ⟨x_70, h_71, x_72, h_73, hF_74⟩ := hp
            have hG_75 := eOK.frame hMr_69 go_.2.2.2.1 mq2_ kq2_ (by decide) (by decide) hG_58
            have g := g.more hF_74
            refine lv_goto (tgt := 191) hx hb dX2_readStatement_184 (by decide) ?_
            subst hQ
            exact W.vret hx hb hr (fun t ht hW => ⟨⟨_, rfl, Or.inr (⟨hG_75, x_70, h_71, x_72, h_73, x_12, h_13, (g.fcts [0, 1, 4] rfl)⟩), q3_of g hK ht hW⟩, g.2.2.1.F ht⟩) g.2.2.1.2.2 dX2_readStatement_191
        · have fc_52 := eq_f c_52
          have b_76 : bd 24 11 r_1 := eqX fc_52 b_51 kb_11 (by decide)
          exact bd_no b_76 (by decide)
      by_cases e_77 : r_1 = 25
      · refine lv_topi (fun z_78 ez_78 => ?_)
        obtain rfl : z_78 = 25 := ez_78.trans e_77
        have kb_25 : bd 25 25 (25 : Int32) := ⟨by decide, by decide⟩
        have b_79 : bd 25 25 r_1 := eqX (eq_f e_77) (bdT r_1) kb_25 (by decide)
        refine lv_tableIn (off := 45) (tgt := 135) hx hb dX2_readStatement_90 (by decide) (by decide) rfl (by decide) ?_
        refine lv_aload_n hx hb dX2_readStatement_135 rfl (lv_at hl 1 rfl) ?_
        refine lv_iload_n hx hb dX2_readStatement_136 rfl (lv_at hl 0 rfl) ?_
        have kb_1201 : bd 1201 1201 (1201 : Int32) := ⟨by decide, by decide⟩
        have go_ := g
        refine g_callv (va_runV (As := [.int r_1]) (rest := []) ⟨hx, hb, hml, hown, hts⟩ (r_X2_readTest l dC dI L kd tys fr_26 H.size g.2.2.2.1 a0_ ma0_ ka0_ r_1 q0_ mq0_ kq0_ q1_ mq1_ kq1_ q2_ mq2_ kq2_ q3_ mq3_ kq3_ q8_ mq8_ kq8_ q9_ mq9_ kq9_ 1201 kb_1201 x_12 h_13 hG_30 (g.fcts [5, 6, 7, 8, 11, 12, 13, 14, 3, 4] rfl)) (cwV 1 hts (gV_ t_1367 t_1369 t_45 t_183 t_1370) rfl rfl rfl (by decide +kernel) ⟨(Nat.le_of_ble_eq_true rfl), (Nat.le_of_ble_eq_true rfl)⟩) (pre3V g hK ma0_ ka0_ (by decide) (q := (RX2, TX2, 16)) rfl) rfl rfl hl.1 rfl (lv_room (Nat.le_of_ble_eq_true rfl)) dX2_readStatement_137 ⟨(Nat.le_of_ble_eq_true rfl), (Nat.le_of_ble_eq_true rfl)⟩) g hK (by decide) (by decide) (fx' := [(7, 15, q3_, .int x_22), (6, 10, q5_, .int y_17), (8, 8, q0_, .int x_12), (2, 0, a0_, .ref q0_), (2, 1, a0_, .ref q1_), (2, 2, a0_, .ref q2_), (2, 3, a0_, .ref q3_), (2, 4, a0_, .ref q4_), (2, 5, a0_, .ref q5_), (0, 0, q2_, .ref q0_), (0, 1, q2_, .ref q1_), (5, 0, q1_, .ref q8_), (5, 1, q1_, .ref q9_)]) rfl (fun fr_80 H locs hp hMr_80 g => ?_)
        obtain ⟨x_81, h_82, hF_83⟩ := hp
        have hG_84 := eOK.frame hMr_80 go_.2.2.2.1 mq2_ kq2_ (by decide) (by decide) hG_30
        have g := g.more hF_83
        refine lv_goto (tgt := 191) hx hb dX2_readStatement_140 (by decide) ?_
        subst hQ
        exact W.vret hx hb hr (fun t ht hW => ⟨⟨_, rfl, Or.inr (⟨hG_84, 1201, kb_1201, x_81, h_82, x_12, h_13, (g.fcts [0, 1, 10] rfl)⟩), q3_of g hK ht hW⟩, g.2.2.1.F ht⟩) g.2.2.1.2.2 dX2_readStatement_191
      by_cases e_85 : r_1 = 26
      · refine lv_topi (fun z_86 ez_86 => ?_)
        obtain rfl : z_86 = 26 := ez_86.trans e_85
        have kb_26 : bd 26 26 (26 : Int32) := ⟨by decide, by decide⟩
        have b_87 : bd 26 26 r_1 := eqX (eq_f e_85) (bdT r_1) kb_26 (by decide)
        refine lv_tableIn (off := 53) (tgt := 143) hx hb dX2_readStatement_90 (by decide) (by decide) rfl (by decide) ?_
        refine lv_aload_n hx hb dX2_readStatement_143 rfl (lv_at hl 1 rfl) ?_
        have kb_1201 : bd 1201 1201 (1201 : Int32) := ⟨by decide, by decide⟩
        have go_ := g
        refine g_callv (va_runV (As := []) (rest := []) ⟨hx, hb, hml, hown, hts⟩ (r_X2_readReturn l dC dI L kd tys fr_26 H.size g.2.2.2.1 a0_ ma0_ ka0_ q0_ mq0_ kq0_ q1_ mq1_ kq1_ q2_ mq2_ kq2_ q3_ mq3_ kq3_ q8_ mq8_ kq8_ q9_ mq9_ kq9_ 1201 kb_1201 x_12 h_13 hG_30 (g.fcts [5, 6, 7, 8, 11, 12, 13, 14, 3, 4] rfl)) (cwV 0 hts (gV_ t_1371 t_1373 t_46 t_183 t_1374) rfl rfl rfl (by decide +kernel) ⟨(Nat.le_of_ble_eq_true rfl), (Nat.le_of_ble_eq_true rfl)⟩) (pre3V g hK ma0_ ka0_ (by decide) (q := (RX2, TX2, 16)) rfl) rfl rfl hl.1 rfl (lv_room (Nat.le_of_ble_eq_true rfl)) dX2_readStatement_144 ⟨(Nat.le_of_ble_eq_true rfl), (Nat.le_of_ble_eq_true rfl)⟩) g hK (by decide) (by decide) (fx' := [(7, 15, q3_, .int x_22), (6, 10, q5_, .int y_17), (8, 8, q0_, .int x_12), (2, 0, a0_, .ref q0_), (2, 1, a0_, .ref q1_), (2, 2, a0_, .ref q2_), (2, 3, a0_, .ref q3_), (2, 4, a0_, .ref q4_), (2, 5, a0_, .ref q5_), (0, 0, q2_, .ref q0_), (0, 1, q2_, .ref q1_), (5, 0, q1_, .ref q8_), (5, 1, q1_, .ref q9_)]) rfl (fun fr_88 H locs hp hMr_88 g => ?_)
        obtain ⟨x_89, h_90, x_91, h_92, hF_93⟩ := hp
        have hG_94 := eOK.frame hMr_88 go_.2.2.2.1 mq2_ kq2_ (by decide) (by decide) hG_30
        have g := g.more hF_93
        refine lv_goto (tgt := 191) hx hb dX2_readStatement_147 (by decide) ?_
        subst hQ
        exact W.vret hx hb hr (fun t ht hW => ⟨⟨_, rfl, Or.inr (⟨hG_94, x_89, h_90, x_91, h_92, x_12, h_13, (g.fcts [0, 1, 10] rfl)⟩), q3_of g hK ht hW⟩, g.2.2.1.F ht⟩) g.2.2.1.2.2 dX2_readStatement_191
      by_cases e_95 : r_1 = 27
      · refine lv_topi (fun z_96 ez_96 => ?_)
        obtain rfl : z_96 = 27 := ez_96.trans e_95
        have kb_27 : bd 27 27 (27 : Int32) := ⟨by decide, by decide⟩
        have b_97 : bd 27 27 r_1 := eqX (eq_f e_95) (bdT r_1) kb_27 (by decide)
        refine lv_tableIn (off := 60) (tgt := 150) hx hb dX2_readStatement_90 (by decide) (by decide) rfl (by decide) ?_
        refine lv_aload_n hx hb dX2_readStatement_150 rfl (lv_at hl 1 rfl) ?_
        have kb_1201 : bd 1201 1201 (1201 : Int32) := ⟨by decide, by decide⟩
        have go_ := g
        refine g_callv (va_runV (As := []) (rest := []) ⟨hx, hb, hml, hown, hts⟩ (r_X2_readThrow l dC dI L kd tys fr_26 H.size g.2.2.2.1 a0_ ma0_ ka0_ q0_ mq0_ kq0_ q3_ mq3_ kq3_ 1201 kb_1201 x_12 h_13 (g.fcts [5, 8, 3, 4] rfl)) (cwV 0 hts (gV_ t_1375 t_1377 t_47 t_183 t_1378) rfl rfl rfl (by decide +kernel) ⟨(Nat.le_of_ble_eq_true rfl), (Nat.le_of_ble_eq_true rfl)⟩) (pre3V g hK ma0_ ka0_ (by decide) (q := (RX2, TX2, 16)) rfl) rfl rfl hl.1 rfl (lv_room (Nat.le_of_ble_eq_true rfl)) dX2_readStatement_151 ⟨(Nat.le_of_ble_eq_true rfl), (Nat.le_of_ble_eq_true rfl)⟩) g hK (by decide) (by decide) (fx' := [(7, 15, q3_, .int x_22), (6, 10, q5_, .int y_17), (8, 8, q0_, .int x_12), (2, 0, a0_, .ref q0_), (2, 1, a0_, .ref q1_), (2, 2, a0_, .ref q2_), (2, 3, a0_, .ref q3_), (2, 4, a0_, .ref q4_), (2, 5, a0_, .ref q5_), (0, 0, q2_, .ref q0_), (0, 1, q2_, .ref q1_), (5, 0, q1_, .ref q8_), (5, 1, q1_, .ref q9_)]) rfl (fun fr_98 H locs hp hMr_98 g => ?_)
        obtain ⟨x_99, h_100, x_101, h_102, x_103, h_104, hF_105⟩ := hp
        have hG_106 := eOK.frame hMr_98 go_.2.2.2.1 mq2_ kq2_ (by decide) (by decide) hG_30
        have g := g.more hF_105
        refine lv_goto (tgt := 191) hx hb dX2_readStatement_154 (by decide) ?_
        subst hQ
        exact W.vret hx hb hr (fun t ht hW => ⟨⟨_, rfl, Or.inr (⟨hG_106, x_99, h_100, x_101, h_102, x_12, h_13, (g.fcts [0, 1, 5] rfl)⟩), q3_of g hK ht hW⟩, g.2.2.1.F ht⟩) g.2.2.1.2.2 dX2_readStatement_191
      refine lv_tableOut (tgt := 157) hx hb dX2_readStatement_90 (by have a0 : r_1.toInt ≠ 22 := fun h => e_31 (Int32.toInt_inj.mp (h.trans (by decide))); have a1 : r_1.toInt ≠ 23 := fun h => e_41 (Int32.toInt_inj.mp (h.trans (by decide))); have a2 : r_1.toInt ≠ 24 := fun h => e_49 (Int32.toInt_inj.mp (h.trans (by decide))); have a3 : r_1.toInt ≠ 25 := fun h => e_77 (Int32.toInt_inj.mp (h.trans (by decide))); have a4 : r_1.toInt ≠ 26 := fun h => e_85 (Int32.toInt_inj.mp (h.trans (by decide))); have a5 : r_1.toInt ≠ 27 := fun h => e_95 (Int32.toInt_inj.mp (h.trans (by decide))); omega) (by decide) ?_
      refine lv_iload_n hx hb dX2_readStatement_157 rfl (lv_at hl 0 rfl) ?_
      refine lv_bipush (v := 11) hx hb dX2_readStatement_158 (by decide) ?_
      have kb_11 : bd 11 11 (11 : Int32) := ⟨by decide, by decide⟩
      refine lv_icmp_ne (tgt := 173) hx hb dX2_readStatement_160 (by decide) (fun c_107 => ?_) (fun c_107 => ?_)
      · have fc_107 := neq_f c_107
        refine lv_aload_n hx hb dX2_readStatement_173 rfl (lv_at hl 1 rfl) ?_
        have kb_1201 : bd 1201 1201 (1201 : Int32) := ⟨by decide, by decide⟩
        have go_ := g
        refine g_calli (va_runV (As := []) (rest := []) ⟨hx, hb, hml, hown, hts⟩ (r_X2_findNamed l dC dI L kd tys fr_26 H.size g.2.2.2.1 a0_ ma0_ ka0_ q0_ mq0_ kq0_ q1_ mq1_ kq1_ q3_ mq3_ kq3_ q4_ mq4_ kq4_ q9_ mq9_ kq9_ 1201 kb_1201 x_12 h_13 (g.fcts [5, 6, 8, 9, 14, 3, 4] rfl)) (cwV 0 hts (gV_ t_1388 t_1390 t_49 t_183 t_1391) rfl rfl rfl (by decide +kernel) ⟨(Nat.le_of_ble_eq_true rfl), (Nat.le_of_ble_eq_true rfl)⟩) (pre3V g hK ma0_ ka0_ (by decide) (q := (RX2, TX2, 16)) rfl) rfl rfl hl.1 rfl (lv_room (Nat.le_of_ble_eq_true rfl)) dX2_readStatement_174 ⟨(Nat.le_of_ble_eq_true rfl), (Nat.le_of_ble_eq_true rfl)⟩) g hK (by decide) (by decide) (fx' := [(7, 6, q3_, .int x_27), (7, 15, q3_, .int x_22), (6, 10, q5_, .int y_17), (8, 8, q0_, .int x_12), (2, 0, a0_, .ref q0_), (2, 1, a0_, .ref q1_), (2, 2, a0_, .ref q2_), (2, 3, a0_, .ref q3_), (2, 4, a0_, .ref q4_), (2, 5, a0_, .ref q5_), (0, 0, q2_, .ref q0_), (0, 1, q2_, .ref q1_), (5, 0, q1_, .ref q8_), (5, 1, q1_, .ref q9_)]) rfl (fun r_108 fr_108 H locs hp hMr_108 g => ?_)
        obtain ⟨h_109, x_110, h_111, hF_112⟩ := hp
        have hG_113 := eOK.frame hMr_108 go_.2.2.2.1 mq2_ kq2_ (by decide) (by decide) hG_30
        have g := g.more hF_112
        have kb_0 : bd 0 0 (0 : Int32) := ⟨by decide, by decide⟩
        refine lv_if_eq (tgt := 187) hx hb dX2_readStatement_177 (by decide) (fun c_114 => ?_) (fun c_114 => ?_)
        · have fc_114 := eq_f c_114
          have b_115 : bd 0 0 r_108 := eqX fc_114 h_109 kb_0 (by decide)
          refine lv_aload_n hx hb dX2_readStatement_187 rfl (lv_at hl 1 rfl) ?_
          have go_ := g
          refine g_callv (va_runV (As := []) (rest := []) ⟨hx, hb, hml, hown, hts⟩ (r_X2_readAssignment l dC dI L kd tys fr_108 H.size g.2.2.2.1 a0_ ma0_ ka0_ q0_ mq0_ kq0_ q1_ mq1_ kq1_ q2_ mq2_ kq2_ q3_ mq3_ kq3_ q4_ mq4_ kq4_ q8_ mq8_ kq8_ q9_ mq9_ kq9_ x_110 h_111 x_12 h_13 hG_113 (g.fcts [5, 6, 7, 8, 9, 11, 12, 13, 14, 0, 4] rfl)) (cwV 0 hts (gV_ t_1397 t_1399 t_51 t_183 t_1400) rfl rfl rfl (by decide +kernel) ⟨(Nat.le_of_ble_eq_true rfl), (Nat.le_of_ble_eq_true rfl)⟩) (pre3V g hK ma0_ ka0_ (by decide) (q := (RX2, TX2, 16)) rfl) rfl rfl hl.1 rfl (lv_room (Nat.le_of_ble_eq_true rfl)) dX2_readStatement_188 ⟨(Nat.le_of_ble_eq_true rfl), (Nat.le_of_ble_eq_true rfl)⟩) g hK (by decide) (by decide) (fx' := [(7, 15, q3_, .int x_22), (6, 10, q5_, .int y_17), (8, 8, q0_, .int x_12), (2, 0, a0_, .ref q0_), (2, 1, a0_, .ref q1_), (2, 2, a0_, .ref q2_), (2, 3, a0_, .ref q3_), (2, 4, a0_, .ref q4_), (2, 5, a0_, .ref q5_), (0, 0, q2_, .ref q0_), (0, 1, q2_, .ref q1_), (5, 0, q1_, .ref q8_), (5, 1, q1_, .ref q9_)]) rfl (fun fr_116 H locs hp hMr_116 g => ?_)
          obtain ⟨x_117, h_118, x_119, h_120, hF_121⟩ := hp
          have hG_122 := eOK.frame hMr_116 go_.2.2.2.1 mq2_ kq2_ (by decide) (by decide) hG_113
          have g := g.more hF_121
          subst hQ
          exact W.vret hx hb hr (fun t ht hW => ⟨⟨_, rfl, Or.inr (⟨hG_122, x_117, h_118, x_119, h_120, x_12, h_13, (g.fcts [0, 1, 10] rfl)⟩), q3_of g hK ht hW⟩, g.2.2.1.F ht⟩) g.2.2.1.2.2 dX2_readStatement_191
        · have fc_114 := neq_f c_114
          have b_123 : bd 1 1 r_108 := neX fc_114 h_109 kb_0 (by decide)
          refine lv_aload_n hx hb dX2_readStatement_180 rfl (lv_at hl 1 rfl) ?_
          have go_ := g
          refine g_callv (va_runV (As := []) (rest := []) ⟨hx, hb, hml, hown, hts⟩ (r_X2_readArguments_3 l dC dI L kd tys fr_108 H.size g.2.2.2.1 a0_ ma0_ ka0_ q0_ mq0_ kq0_ q1_ mq1_ kq1_ q2_ mq2_ kq2_ q3_ mq3_ kq3_ q8_ mq8_ kq8_ q9_ mq9_ kq9_ x_110 h_111 x_12 h_13 hG_113 (g.fcts [5, 6, 7, 8, 11, 12, 13, 14, 0, 4] rfl)) (cwV 0 hts (gV_ t_1393 t_1395 t_50 t_183 t_1396) rfl rfl rfl (by decide +kernel) ⟨(Nat.le_of_ble_eq_true rfl), (Nat.le_of_ble_eq_true rfl)⟩) (pre3V g hK ma0_ ka0_ (by decide) (q := (RX2, TX2, 16)) rfl) rfl rfl hl.1 rfl (lv_room (Nat.le_of_ble_eq_true rfl)) dX2_readStatement_181 ⟨(Nat.le_of_ble_eq_true rfl), (Nat.le_of_ble_eq_true rfl)⟩) g hK (by decide) (by decide) (fx' := [(7, 15, q3_, .int x_22), (6, 10, q5_, .int y_17), (8, 8, q0_, .int x_12), (2, 0, a0_, .ref q0_), (2, 1, a0_, .ref q1_), (2, 2, a0_, .ref q2_), (2, 3, a0_, .ref q3_), (2, 4, a0_, .ref q4_), (2, 5, a0_, .ref q5_), (0, 0, q2_, .ref q0_), (0, 1, q2_, .ref q1_), (5, 0, q1_, .ref q8_), (5, 1, q1_, .ref q9_)]) rfl (fun fr_124 H locs hp hMr_124 g => ?_)
          obtain ⟨x_125, h_126, x_127, h_128, hF_129⟩ := hp
          have hG_130 := eOK.frame hMr_124 go_.2.2.2.1 mq2_ kq2_ (by decide) (by decide) hG_113
          have g := g.more hF_129
          refine lv_goto (tgt := 191) hx hb dX2_readStatement_184 (by decide) ?_
          subst hQ
          exact W.vret hx hb hr (fun t ht hW => ⟨⟨_, rfl, Or.inr (⟨hG_130, x_125, h_126, x_127, h_128, x_12, h_13, (g.fcts [0, 1, 4] rfl)⟩), q3_of g hK ht hW⟩, g.2.2.1.F ht⟩) g.2.2.1.2.2 dX2_readStatement_191
      · have fc_107 := eq_f c_107
        have b_131 : bd 11 11 r_1 := eqX fc_107 (bdT r_1) kb_11 (by decide)
        refine lv_aload_n hx hb dX2_readStatement_163 rfl (lv_at hl 1 rfl) ?_
        have kb_1201 : bd 1201 1201 (1201 : Int32) := ⟨by decide, by decide⟩
        have go_ := g
        refine g_calli (va_runV (As := []) (rest := []) ⟨hx, hb, hml, hown, hts⟩ (r_X2_findAbove l dC dI L kd tys fr_26 H.size g.2.2.2.1 a0_ ma0_ ka0_ q0_ mq0_ kq0_ q3_ mq3_ kq3_ q4_ mq4_ kq4_ 1201 kb_1201 x_12 h_13 (g.fcts [5, 8, 9, 3, 4] rfl)) (cwV 0 hts (gV_ t_1383 t_1385 t_48 t_183 t_1386) rfl rfl rfl (by decide +kernel) ⟨(Nat.le_of_ble_eq_true rfl), (Nat.le_of_ble_eq_true rfl)⟩) (pre3V g hK ma0_ ka0_ (by decide) (q := (RX2, TX2, 16)) rfl) rfl rfl hl.1 rfl (lv_room (Nat.le_of_ble_eq_true rfl)) dX2_readStatement_164 ⟨(Nat.le_of_ble_eq_true rfl), (Nat.le_of_ble_eq_true rfl)⟩) g hK (by decide) (by decide) (fx' := [(7, 6, q3_, .int x_27), (7, 15, q3_, .int x_22), (6, 10, q5_, .int y_17), (8, 8, q0_, .int x_12), (2, 0, a0_, .ref q0_), (2, 1, a0_, .ref q1_), (2, 2, a0_, .ref q2_), (2, 3, a0_, .ref q3_), (2, 4, a0_, .ref q4_), (2, 5, a0_, .ref q5_), (0, 0, q2_, .ref q0_), (0, 1, q2_, .ref q1_), (5, 0, q1_, .ref q8_), (5, 1, q1_, .ref q9_)]) rfl (fun r_132 fr_132 H locs hp hMr_132 g => ?_)
        obtain ⟨h_133, hF_134⟩ := hp
        have hG_135 := eOK.frame hMr_132 go_.2.2.2.1 mq2_ kq2_ (by decide) (by decide) hG_30
        obtain rfl : r_132 = 1 := h_133
        have g := g.more hF_134
        refine lv_if_eq (tgt := 187) hx hb dX2_readStatement_167 (by decide) (fun c_ => absurd c_ (by decide)) (fun c_ => ?_)
        refine lv_goto (tgt := 180) hx hb dX2_readStatement_170 (by decide) ?_
        refine lv_aload_n hx hb dX2_readStatement_180 rfl (lv_at hl 1 rfl) ?_
        have go_ := g
        refine g_callv (va_runV (As := []) (rest := []) ⟨hx, hb, hml, hown, hts⟩ (r_X2_readArguments_3 l dC dI L kd tys fr_132 H.size g.2.2.2.1 a0_ ma0_ ka0_ q0_ mq0_ kq0_ q1_ mq1_ kq1_ q2_ mq2_ kq2_ q3_ mq3_ kq3_ q8_ mq8_ kq8_ q9_ mq9_ kq9_ 1201 kb_1201 x_12 h_13 hG_135 (g.fcts [5, 6, 7, 8, 11, 12, 13, 14, 0, 4] rfl)) (cwV 0 hts (gV_ t_1393 t_1395 t_50 t_183 t_1396) rfl rfl rfl (by decide +kernel) ⟨(Nat.le_of_ble_eq_true rfl), (Nat.le_of_ble_eq_true rfl)⟩) (pre3V g hK ma0_ ka0_ (by decide) (q := (RX2, TX2, 16)) rfl) rfl rfl hl.1 rfl (lv_room (Nat.le_of_ble_eq_true rfl)) dX2_readStatement_181 ⟨(Nat.le_of_ble_eq_true rfl), (Nat.le_of_ble_eq_true rfl)⟩) g hK (by decide) (by decide) (fx' := [(7, 15, q3_, .int x_22), (6, 10, q5_, .int y_17), (8, 8, q0_, .int x_12), (2, 0, a0_, .ref q0_), (2, 1, a0_, .ref q1_), (2, 2, a0_, .ref q2_), (2, 3, a0_, .ref q3_), (2, 4, a0_, .ref q4_), (2, 5, a0_, .ref q5_), (0, 0, q2_, .ref q0_), (0, 1, q2_, .ref q1_), (5, 0, q1_, .ref q8_), (5, 1, q1_, .ref q9_)]) rfl (fun fr_136 H locs hp hMr_136 g => ?_)
        obtain ⟨x_137, h_138, x_139, h_140, hF_141⟩ := hp
        have hG_142 := eOK.frame hMr_136 go_.2.2.2.1 mq2_ kq2_ (by decide) (by decide) hG_135
        have g := g.more hF_141
        refine lv_goto (tgt := 191) hx hb dX2_readStatement_184 (by decide) ?_
        subst hQ
        exact W.vret hx hb hr (fun t ht hW => ⟨⟨_, rfl, Or.inr (⟨hG_142, x_137, h_138, x_139, h_140, x_12, h_13, (g.fcts [0, 1, 4] rfl)⟩), q3_of g hK ht hW⟩, g.2.2.1.F ht⟩) g.2.2.1.2.2 dX2_readStatement_191
    · have hG_143 := eOK.frame hMr_4 go_.2.2.2.1 mq2_ kq2_ (by decide) (by decide) hG_2
      obtain rfl : r_4 = 1 := h_6
      have b_144 : bd 3 27 r_1 := eqX rfl (bdT r_1) h_7 (by decide)
      refine lv_if_ne (tgt := 44) hx hb dX2_readStatement_23 (by decide) (fun c_ => ?_) (fun c_ => absurd c_ (by decide))
      refine lv_aload_n hx hb dX2_readStatement_44 rfl (lv_at hl 1 rfl) ?_
      refine g_getk (C := RX2) (T := TX2) (N := 16) hx hb hts (mc_ inX2) hown hK g rfl 5 (by decide) rfl (hts _ (List.mem_cons_of_mem _ t_421)) (fun _ h9 => h9) 5 rfl dX2_readStatement_45 ?_
      refine g_geti (C := RX6) (T := TX6) (N := 13) hx hb hts (mc_ inX6) hown hK g mq5_ kq5_ (by decide) rfl 10 (by decide) rfl (hts _ (List.mem_cons_of_mem _ t_588)) (fun _ h9 => h9) rfl dX2_readStatement_48 (fun x_145 bx_145 g => ?_)
      refine lv_bipush (v := 40) hx hb dX2_readStatement_51 (by decide) ?_
      have kb_40 : bd 40 40 (40 : Int32) := ⟨by decide, by decide⟩
      refine lv_icmp_lt (tgt := 60) hx hb dX2_readStatement_53 (by decide) (fun c_146 => ?_) (fun c_146 => ?_)
      · have fc_146 := lt_f c_146
        have b_147 : bd (-2147483648) 39 x_145 := ltL fc_146 (bdT x_145) kb_40 (by decide)
        refine lv_aload_n hx hb dX2_readStatement_60 rfl (lv_at hl 1 rfl) ?_
        refine g_getk (C := RX2) (T := TX2) (N := 16) hx hb hts (mc_ inX2) hown hK g rfl 5 (by decide) rfl (hts _ (List.mem_cons_of_mem _ t_421)) (fun _ h9 => h9) 6 rfl dX2_readStatement_61 ?_
        refine lv_dup hx hb dX2_readStatement_64 rfl ?_
        refine g_getk (C := RX6) (T := TX6) (N := 13) hx hb hts (mc_ inX6) hown hK g rfl 10 (by decide) rfl (hts _ (List.mem_cons_of_mem _ t_588)) (fun _ h9 => h9) 0 rfl dX2_readStatement_65 ?_
        refine lv_iconst (v := 1) hx hb dX2_readStatement_68 (by decide) ?_
        have kb_1 : bd 1 1 (1 : Int32) := ⟨by decide, by decide⟩
        refine lv_iadd hx hb dX2_readStatement_69 ?_
        refine lv_topi (fun y_148 ey_148 => ?_)
        have ty_148 := add_bd ey_148 b_147 kb_1 (by decide)
        have b_149 : bd (-2147483647) 40 y_148 := add_rg ty_148 b_147 kb_1 (by decide)
        have go_ := g
        refine g_put (C := RX6) (T := TX6) (N := 13) hx hb hts (mc_ inX6) tyX6 tyX6_ok nmX6 hown hK g mq5_ kq5_ (by decide) rfl 10 (by decide) (hts _ (List.mem_cons_of_mem _ t_588)) (fun _ h9 => h9) rfl rfl (okV_i (bd_sub b_149 (by decide))) rfl rfl (by decide) (Or.inr (Or.inl (by decide))) (fx' := [(2, 0, a0_, .ref q0_), (2, 1, a0_, .ref q1_), (2, 2, a0_, .ref q2_), (2, 3, a0_, .ref q3_), (2, 4, a0_, .ref q4_), (2, 5, a0_, .ref q5_), (0, 0, q2_, .ref q0_), (0, 1, q2_, .ref q1_), (5, 0, q1_, .ref q8_), (5, 1, q1_, .ref q9_), (8, 8, q0_, .int y0_)]) rfl dX2_readStatement_70 (fun f H locs hM_150 g => ?_)
        have hG_151 := eOK.frame hM_150 go_.2.2.2.1 mq2_ kq2_ (by decide) (by decide) hG_143
        refine lv_aload_n hx hb dX2_readStatement_73 rfl (lv_at hl 1 rfl) ?_
        refine g_getk (C := RX2) (T := TX2) (N := 16) hx hb hts (mc_ inX2) hown hK g rfl 3 (by decide) rfl (hts _ (List.mem_cons_of_mem _ t_419)) (fun _ h9 => h9) 4 rfl dX2_readStatement_74 ?_
        refine lv_bipush (v := 12) hx hb dX2_readStatement_77 (by decide) ?_
        refine lv_aload_n hx hb dX2_readStatement_79 rfl (lv_at hl 1 rfl) ?_
        refine g_getk (C := RX2) (T := TX2) (N := 16) hx hb hts (mc_ inX2) hown hK g rfl 3 (by decide) rfl (hts _ (List.mem_cons_of_mem _ t_419)) (fun _ h9 => h9) 4 rfl dX2_readStatement_80 ?_
        have go_ := g
        refine g_calli (va_runV (As := []) (rest := [.int 12, .ref q3_]) ⟨hx, hb, hml, hown, hts⟩ (r_X7_addStatement l dC dI L kd tys f H.size g.2.2.2.1 q3_ mq3_ kq3_) (cwV 0 hts (gV_ t_1359 t_1360 t_1361 t_191 t_1362) rfl rfl rfl (by decide +kernel) ⟨(Nat.le_of_ble_eq_true rfl), (Nat.le_of_ble_eq_true rfl)⟩) (pre3V g hK mq3_ kq3_ (by decide) (q := (RX7, TX7, 19)) rfl) rfl rfl hl.1 rfl (lv_room (Nat.le_of_ble_eq_true rfl)) dX2_readStatement_83 ⟨(Nat.le_of_ble_eq_true rfl), (Nat.le_of_ble_eq_true rfl)⟩) g hK (by decide) (by decide) (fx' := [(6, 10, q5_, .int y_148), (2, 0, a0_, .ref q0_), (2, 1, a0_, .ref q1_), (2, 2, a0_, .ref q2_), (2, 3, a0_, .ref q3_), (2, 4, a0_, .ref q4_), (2, 5, a0_, .ref q5_), (0, 0, q2_, .ref q0_), (0, 1, q2_, .ref q1_), (5, 0, q1_, .ref q8_), (5, 1, q1_, .ref q9_), (8, 8, q0_, .int y0_)]) rfl (fun r_152 fr_152 H locs hp hMr_152 g => ?_)
        obtain ⟨h_153, x_154, h_155, hF_156⟩ := hp
        have hG_157 := eOK.frame hMr_152 go_.2.2.2.1 mq2_ kq2_ (by decide) (by decide) hG_151
        have g := g.more hF_156
        have go_ := g
        refine g_callv (va_runV (As := [.int 12, .int r_152]) (rest := []) ⟨hx, hb, hml, hown, hts⟩ (r_X7_emit l dC dI L kd tys fr_152 H.size g.2.2.2.1 q3_ mq3_ kq3_ 12 r_152) (cwV 2 hts (gV_ t_1301 t_1204 t_1205 t_191 t_1206) rfl rfl rfl (by decide +kernel) ⟨(Nat.le_of_ble_eq_true rfl), (Nat.le_of_ble_eq_true rfl)⟩) (pre3V g hK mq3_ kq3_ (by decide) (q := (RX7, TX7, 19)) rfl) rfl rfl hl.1 rfl (lv_room (Nat.le_of_ble_eq_true rfl)) dX2_readStatement_86 ⟨(Nat.le_of_ble_eq_true rfl), (Nat.le_of_ble_eq_true rfl)⟩) g hK (by decide) (by decide) (fx' := [(7, 15, q3_, .int x_154), (6, 10, q5_, .int y_148), (2, 0, a0_, .ref q0_), (2, 1, a0_, .ref q1_), (2, 2, a0_, .ref q2_), (2, 3, a0_, .ref q3_), (2, 4, a0_, .ref q4_), (2, 5, a0_, .ref q5_), (0, 0, q2_, .ref q0_), (0, 1, q2_, .ref q1_), (5, 0, q1_, .ref q8_), (5, 1, q1_, .ref q9_), (8, 8, q0_, .int y0_)]) rfl (fun fr_158 H locs hp hMr_158 g => ?_)
        obtain ⟨x_159, h_160, hF_161⟩ := hp
        have hG_162 := eOK.frame hMr_158 go_.2.2.2.1 mq2_ kq2_ (by decide) (by decide) hG_157
        have g := g.more hF_161
        refine lv_iload_n hx hb dX2_readStatement_89 rfl (lv_at hl 0 rfl) ?_
        by_cases e_163 : r_1 = 22
        · refine lv_topi (fun z_164 ez_164 => ?_)
          obtain rfl : z_164 = 22 := ez_164.trans e_163
          have kb_22 : bd 22 22 (22 : Int32) := ⟨by decide, by decide⟩
          have b_165 : bd 22 22 r_1 := eqX (eq_f e_163) b_144 kb_22 (by decide)
          refine lv_tableIn (off := 38) (tgt := 128) hx hb dX2_readStatement_90 (by decide) (by decide) rfl (by decide) ?_
          refine lv_aload_n hx hb dX2_readStatement_128 rfl (lv_at hl 1 rfl) ?_
          have go_ := g
          refine g_callv (va_runV (As := []) (rest := []) ⟨hx, hb, hml, hown, hts⟩ (r_X2_readLet_2 l dC dI L kd tys fr_158 H.size g.2.2.2.1 a0_ ma0_ ka0_ q0_ mq0_ kq0_ q1_ mq1_ kq1_ q2_ mq2_ kq2_ q3_ mq3_ kq3_ q8_ mq8_ kq8_ q9_ mq9_ kq9_ y0_ by0_ hG_162 (g.fcts [3, 4, 5, 6, 9, 10, 11, 12, 13] rfl)) (cwV 0 hts (gV_ t_1363 t_1365 t_44 t_183 t_1366) rfl rfl rfl (by decide +kernel) ⟨(Nat.le_of_ble_eq_true rfl), (Nat.le_of_ble_eq_true rfl)⟩) (pre3V g hK ma0_ ka0_ (by decide) (q := (RX2, TX2, 16)) rfl) rfl rfl hl.1 rfl (lv_room (Nat.le_of_ble_eq_true rfl)) dX2_readStatement_129 ⟨(Nat.le_of_ble_eq_true rfl), (Nat.le_of_ble_eq_true rfl)⟩) g hK (by decide) (by decide) (fx' := [(7, 15, q3_, .int x_154), (6, 10, q5_, .int y_148), (2, 0, a0_, .ref q0_), (2, 1, a0_, .ref q1_), (2, 2, a0_, .ref q2_), (2, 3, a0_, .ref q3_), (2, 4, a0_, .ref q4_), (2, 5, a0_, .ref q5_), (0, 0, q2_, .ref q0_), (0, 1, q2_, .ref q1_), (5, 0, q1_, .ref q8_), (5, 1, q1_, .ref q9_)]) rfl (fun fr_166 H locs hp hMr_166 g => ?_)
          rcases hp with ⟨hG_167, x_168, h_169, x_170, h_171, x_172, h_173, hF_174⟩ | ⟨hG_175, x_176, h_177, x_178, h_179, x_180, h_181, hF_182⟩
          · have g := g.more hF_174
            refine lv_goto (tgt := 191) hx hb dX2_readStatement_132 (by decide) ?_
            subst hQ
            exact W.vret hx hb hr (fun t ht hW => ⟨⟨_, rfl, Or.inl ⟨hG_167, x_168, h_169, (g.fcts [0, 1] rfl)⟩, q3_of g hK ht hW⟩, g.2.2.1.F ht⟩) g.2.2.1.2.2 dX2_readStatement_191
          · have g := g.more hF_182
            refine lv_goto (tgt := 191) hx hb dX2_readStatement_132 (by decide) ?_
            subst hQ
            exact W.vret hx hb hr (fun t ht hW => ⟨⟨_, rfl, Or.inr (⟨hG_175, x_176, h_177, x_180, h_181, x_178, h_179, (g.fcts [0, 2, 1] rfl)⟩), q3_of g hK ht hW⟩, g.2.2.1.F ht⟩) g.2.2.1.2.2 dX2_readStatement_191
        by_cases e_183 : r_1 = 23
        · refine lv_topi (fun z_184 ez_184 => ?_)
          obtain rfl : z_184 = 23 := ez_184.trans e_183
          have kb_23 : bd 23 23 (23 : Int32) := ⟨by decide, by decide⟩
          have b_185 : bd 23 23 r_1 := eqX (eq_f e_183) b_144 kb_23 (by decide)
          refine lv_tableIn (off := 45) (tgt := 135) hx hb dX2_readStatement_90 (by decide) (by decide) rfl (by decide) ?_
          refine lv_aload_n hx hb dX2_readStatement_135 rfl (lv_at hl 1 rfl) ?_
          refine lv_iload_n hx hb dX2_readStatement_136 rfl (lv_at hl 0 rfl) ?_
          have go_ := g
          refine g_callv (va_runV (As := [.int r_1]) (rest := []) ⟨hx, hb, hml, hown, hts⟩ (r_X2_readTest_2 l dC dI L kd tys fr_158 H.size g.2.2.2.1 a0_ ma0_ ka0_ r_1 q0_ mq0_ kq0_ q1_ mq1_ kq1_ q2_ mq2_ kq2_ q3_ mq3_ kq3_ q8_ mq8_ kq8_ q9_ mq9_ kq9_ y0_ by0_ hG_162 (g.fcts [3, 4, 5, 6, 9, 10, 11, 12, 13] rfl)) (cwV 1 hts (gV_ t_1367 t_1369 t_45 t_183 t_1370) rfl rfl rfl (by decide +kernel) ⟨(Nat.le_of_ble_eq_true rfl), (Nat.le_of_ble_eq_true rfl)⟩) (pre3V g hK ma0_ ka0_ (by decide) (q := (RX2, TX2, 16)) rfl) rfl rfl hl.1 rfl (lv_room (Nat.le_of_ble_eq_true rfl)) dX2_readStatement_137 ⟨(Nat.le_of_ble_eq_true rfl), (Nat.le_of_ble_eq_true rfl)⟩) g hK (by decide) (by decide) (fx' := [(7, 15, q3_, .int x_154), (6, 10, q5_, .int y_148), (2, 0, a0_, .ref q0_), (2, 1, a0_, .ref q1_), (2, 2, a0_, .ref q2_), (2, 3, a0_, .ref q3_), (2, 4, a0_, .ref q4_), (2, 5, a0_, .ref q5_), (0, 0, q2_, .ref q0_), (0, 1, q2_, .ref q1_), (5, 0, q1_, .ref q8_), (5, 1, q1_, .ref q9_)]) rfl (fun fr_186 H locs hp hMr_186 g => ?_)
          rcases hp with ⟨hG_187, x_188, h_189, x_190, h_191, x_192, h_193, hF_194⟩ | ⟨hG_195, x_196, h_197, x_198, h_199, hF_200⟩
          · have g := g.more hF_194
            refine lv_goto (tgt := 191) hx hb dX2_readStatement_140 (by decide) ?_
            subst hQ
            exact W.vret hx hb hr (fun t ht hW => ⟨⟨_, rfl, Or.inl ⟨hG_187, x_188, h_189, (g.fcts [0, 2] rfl)⟩, q3_of g hK ht hW⟩, g.2.2.1.F ht⟩) g.2.2.1.2.2 dX2_readStatement_191
          · have g := g.more hF_200
            refine lv_goto (tgt := 191) hx hb dX2_readStatement_140 (by decide) ?_
            have kb_1201 : bd 1201 1201 (1201 : Int32) := ⟨by decide, by decide⟩
            subst hQ
            exact W.vret hx hb hr (fun t ht hW => ⟨⟨_, rfl, Or.inr (⟨hG_195, 1201, kb_1201, x_198, h_199, x_196, h_197, (g.fcts [0, 2, 1] rfl)⟩), q3_of g hK ht hW⟩, g.2.2.1.F ht⟩) g.2.2.1.2.2 dX2_readStatement_191
        by_cases e_201 : r_1 = 24
        · refine lv_topi (fun z_202 ez_202 => ?_)
          obtain rfl : z_202 = 24 := ez_202.trans e_201
          have kb_24 : bd 24 24 (24 : Int32) := ⟨by decide, by decide⟩
          have b_203 : bd 24 24 r_1 := eqX (eq_f e_201) b_144 kb_24 (by decide)
          refine lv_tableIn (off := 67) (tgt := 157) hx hb dX2_readStatement_90 (by decide) (by decide) rfl (by decide) ?_
          refine lv_iload_n hx hb dX2_readStatement_157 rfl (lv_at hl 0 rfl) ?_
          refine lv_bipush (v := 11) hx hb dX2_readStatement_158 (by decide) ?_
          have kb_11 : bd 11 11 (11 : Int32) := ⟨by decide, by decide⟩
          refine lv_icmp_ne (tgt := 173) hx hb dX2_readStatement_160 (by decide) (fun c_204 => ?_) (fun c_204 => ?_)
          · have fc_204 := neq_f c_204
            refine lv_aload_n hx hb dX2_readStatement_173 rfl (lv_at hl 1 rfl) ?_
            have go_ := g
            refine g_calli (va_runV (As := []) (rest := []) ⟨hx, hb, hml, hown, hts⟩ (r_X2_findNamed_2 l dC dI L kd tys fr_158 H.size g.2.2.2.1 a0_ ma0_ ka0_ q0_ mq0_ kq0_ q1_ mq1_ kq1_ q3_ mq3_ kq3_ q4_ mq4_ kq4_ q9_ mq9_ kq9_ y0_ by0_ (g.fcts [3, 4, 6, 7, 12, 13] rfl)) (cwV 0 hts (gV_ t_1388 t_1390 t_49 t_183 t_1391) rfl rfl rfl (by decide +kernel) ⟨(Nat.le_of_ble_eq_true rfl), (Nat.le_of_ble_eq_true rfl)⟩) (pre3V g hK ma0_ ka0_ (by decide) (q := (RX2, TX2, 16)) rfl) rfl rfl hl.1 rfl (lv_room (Nat.le_of_ble_eq_true rfl)) dX2_readStatement_174 ⟨(Nat.le_of_ble_eq_true rfl), (Nat.le_of_ble_eq_true rfl)⟩) g hK (by decide) (by decide) (fx' := [(7, 6, q3_, .int x_159), (7, 15, q3_, .int x_154), (6, 10, q5_, .int y_148), (2, 0, a0_, .ref q0_), (2, 1, a0_, .ref q1_), (2, 2, a0_, .ref q2_), (2, 3, a0_, .ref q3_), (2, 4, a0_, .ref q4_), (2, 5, a0_, .ref q5_), (0, 0, q2_, .ref q0_), (0, 1, q2_, .ref q1_), (5, 0, q1_, .ref q8_), (5, 1, q1_, .ref q9_)]) rfl (fun r_205 fr_205 H locs hp hMr_205 g => ?_)
            rcases hp with ⟨h_206, x_207, h_208, x_209, h_210, hF_211⟩ | ⟨h_212, x_213, h_214, hF_215⟩
            · have hG_216 := eOK.frame hMr_205 go_.2.2.2.1 mq2_ kq2_ (by decide) (by decide) hG_162
              have g := g.more hF_211
              have kb_0 : bd 0 0 (0 : Int32) := ⟨by decide, by decide⟩
              refine lv_if_eq (tgt := 187) hx hb dX2_readStatement_177 (by decide) (fun c_217 => ?_) (fun c_217 => ?_)
              · have fc_217 := eq_f c_217
                have b_218 : bd 0 0 r_205 := eqX fc_217 h_206 kb_0 (by decide)
                refine lv_aload_n hx hb dX2_readStatement_187 rfl (lv_at hl 1 rfl) ?_
                have go_ := g
                refine g_callv (va_runV (As := []) (rest := []) ⟨hx, hb, hml, hown, hts⟩ (r_X2_readAssignment_2 l dC dI L kd tys fr_205 H.size g.2.2.2.1 a0_ ma0_ ka0_ q0_ mq0_ kq0_ q1_ mq1_ kq1_ q2_ mq2_ kq2_ q3_ mq3_ kq3_ q4_ mq4_ kq4_ q8_ mq8_ kq8_ q9_ mq9_ kq9_ y0_ by0_ hG_216 (g.fcts [6, 7, 8, 9, 10, 12, 13, 14, 15, 2] rfl)) (cwV 0 hts (gV_ t_1397 t_1399 t_51 t_183 t_1400) rfl rfl rfl (by decide +kernel) ⟨(Nat.le_of_ble_eq_true rfl), (Nat.le_of_ble_eq_true rfl)⟩) (pre3V g hK ma0_ ka0_ (by decide) (q := (RX2, TX2, 16)) rfl) rfl rfl hl.1 rfl (lv_room (Nat.le_of_ble_eq_true rfl)) dX2_readStatement_188 ⟨(Nat.le_of_ble_eq_true rfl), (Nat.le_of_ble_eq_true rfl)⟩) g hK (by decide) (by decide) (fx' := [(2, 15, a0_, .int x_207), (7, 15, q3_, .int x_154), (6, 10, q5_, .int y_148), (2, 0, a0_, .ref q0_), (2, 1, a0_, .ref q1_), (2, 2, a0_, .ref q2_), (2, 3, a0_, .ref q3_), (2, 4, a0_, .ref q4_), (2, 5, a0_, .ref q5_), (0, 0, q2_, .ref q0_), (0, 1, q2_, .ref q1_), (5, 0, q1_, .ref q8_), (5, 1, q1_, .ref q9_)]) rfl (fun fr_219 H locs hp hMr_219 g => ?_)
                rcases hp with ⟨hG_220, x_221, h_222, x_223, h_224, hF_225⟩ | ⟨hG_226, x_227, h_228, x_229, h_230, x_231, h_232, hF_233⟩
                · have g := g.more hF_225
                  subst hQ
                  exact W.vret hx hb hr (fun t ht hW => ⟨⟨_, rfl, Or.inl ⟨hG_220, x_221, h_222, (g.fcts [0, 1] rfl)⟩, q3_of g hK ht hW⟩, g.2.2.1.F ht⟩) g.2.2.1.2.2 dX2_readStatement_191
                · have g := g.more hF_233
                  subst hQ
                  exact W.vret hx hb hr (fun t ht hW => ⟨⟨_, rfl, Or.inr (⟨hG_226, x_227, h_228, x_231, h_232, x_229, h_230, (g.fcts [0, 2, 1] rfl)⟩), q3_of g hK ht hW⟩, g.2.2.1.F ht⟩) g.2.2.1.2.2 dX2_readStatement_191
              · have fc_217 := neq_f c_217
                have b_234 : bd 1 1 r_205 := neX fc_217 h_206 kb_0 (by decide)
                refine lv_aload_n hx hb dX2_readStatement_180 rfl (lv_at hl 1 rfl) ?_
                have go_ := g
                refine g_callv (va_runV (As := []) (rest := []) ⟨hx, hb, hml, hown, hts⟩ (r_X2_readArguments_2 l dC dI L kd tys fr_205 H.size g.2.2.2.1 a0_ ma0_ ka0_ q0_ mq0_ kq0_ q1_ mq1_ kq1_ q2_ mq2_ kq2_ q3_ mq3_ kq3_ q8_ mq8_ kq8_ q9_ mq9_ kq9_ y0_ by0_ hG_216 (g.fcts [6, 7, 8, 9, 12, 13, 14, 15, 2] rfl)) (cwV 0 hts (gV_ t_1393 t_1395 t_50 t_183 t_1396) rfl rfl rfl (by decide +kernel) ⟨(Nat.le_of_ble_eq_true rfl), (Nat.le_of_ble_eq_true rfl)⟩) (pre3V g hK ma0_ ka0_ (by decide) (q := (RX2, TX2, 16)) rfl) rfl rfl hl.1 rfl (lv_room (Nat.le_of_ble_eq_true rfl)) dX2_readStatement_181 ⟨(Nat.le_of_ble_eq_true rfl), (Nat.le_of_ble_eq_true rfl)⟩) g hK (by decide) (by decide) (fx' := [(2, 15, a0_, .int x_207), (7, 15, q3_, .int x_154), (6, 10, q5_, .int y_148), (2, 0, a0_, .ref q0_), (2, 1, a0_, .ref q1_), (2, 2, a0_, .ref q2_), (2, 3, a0_, .ref q3_), (2, 4, a0_, .ref q4_), (2, 5, a0_, .ref q5_), (0, 0, q2_, .ref q0_), (0, 1, q2_, .ref q1_), (5, 0, q1_, .ref q8_), (5, 1, q1_, .ref q9_)]) rfl (fun fr_235 H locs hp hMr_235 g => ?_)
                rcases hp with ⟨hG_236, x_237, h_238, x_239, h_240, hF_241⟩ | ⟨hG_242, x_243, h_244, x_245, h_246, x_247, h_248, hF_249⟩
                · have g := g.more hF_241
                  refine lv_goto (tgt := 191) hx hb dX2_readStatement_184 (by decide) ?_
                  subst hQ
                  exact W.vret hx hb hr (fun t ht hW => ⟨⟨_, rfl, Or.inl ⟨hG_236, x_237, h_238, (g.fcts [0, 1] rfl)⟩, q3_of g hK ht hW⟩, g.2.2.1.F ht⟩) g.2.2.1.2.2 dX2_readStatement_191
                · have g := g.more hF_249
                  refine lv_goto (tgt := 191) hx hb dX2_readStatement_184 (by decide) ?_
                  subst hQ
                  exact W.vret hx hb hr (fun t ht hW => ⟨⟨_, rfl, Or.inr (⟨hG_242, x_243, h_244, x_247, h_248, x_245, h_246, (g.fcts [0, 2, 1] rfl)⟩), q3_of g hK ht hW⟩, g.2.2.1.F ht⟩) g.2.2.1.2.2 dX2_readStatement_191
            · have hG_250 := eOK.frame hMr_205 go_.2.2.2.1 mq2_ kq2_ (by decide) (by decide) hG_162
              have g := g.more hF_215
              have kb_0 : bd 0 0 (0 : Int32) := ⟨by decide, by decide⟩
              refine lv_if_eq (tgt := 187) hx hb dX2_readStatement_177 (by decide) (fun c_251 => ?_) (fun c_251 => ?_)
              · have fc_251 := eq_f c_251
                have b_252 : bd 0 0 r_205 := eqX fc_251 h_212 kb_0 (by decide)
                refine lv_aload_n hx hb dX2_readStatement_187 rfl (lv_at hl 1 rfl) ?_
                have kb_1201 : bd 1201 1201 (1201 : Int32) := ⟨by decide, by decide⟩
                have go_ := g
                refine g_callv (va_runV (As := []) (rest := []) ⟨hx, hb, hml, hown, hts⟩ (r_X2_readAssignment l dC dI L kd tys fr_205 H.size g.2.2.2.1 a0_ ma0_ ka0_ q0_ mq0_ kq0_ q1_ mq1_ kq1_ q2_ mq2_ kq2_ q3_ mq3_ kq3_ q4_ mq4_ kq4_ q8_ mq8_ kq8_ q9_ mq9_ kq9_ 1201 kb_1201 x_213 h_214 hG_250 (g.fcts [5, 6, 7, 8, 9, 11, 12, 13, 14, 0, 1] rfl)) (cwV 0 hts (gV_ t_1397 t_1399 t_51 t_183 t_1400) rfl rfl rfl (by decide +kernel) ⟨(Nat.le_of_ble_eq_true rfl), (Nat.le_of_ble_eq_true rfl)⟩) (pre3V g hK ma0_ ka0_ (by decide) (q := (RX2, TX2, 16)) rfl) rfl rfl hl.1 rfl (lv_room (Nat.le_of_ble_eq_true rfl)) dX2_readStatement_188 ⟨(Nat.le_of_ble_eq_true rfl), (Nat.le_of_ble_eq_true rfl)⟩) g hK (by decide) (by decide) (fx' := [(8, 8, q0_, .int x_213), (7, 15, q3_, .int x_154), (6, 10, q5_, .int y_148), (2, 0, a0_, .ref q0_), (2, 1, a0_, .ref q1_), (2, 2, a0_, .ref q2_), (2, 3, a0_, .ref q3_), (2, 4, a0_, .ref q4_), (2, 5, a0_, .ref q5_), (0, 0, q2_, .ref q0_), (0, 1, q2_, .ref q1_), (5, 0, q1_, .ref q8_), (5, 1, q1_, .ref q9_)]) rfl (fun fr_253 H locs hp hMr_253 g => ?_)
                obtain ⟨x_254, h_255, x_256, h_257, hF_258⟩ := hp
                have hG_259 := eOK.frame hMr_253 go_.2.2.2.1 mq2_ kq2_ (by decide) (by decide) hG_250
                have g := g.more hF_258
                subst hQ
                exact W.vret hx hb hr (fun t ht hW => ⟨⟨_, rfl, Or.inr (⟨hG_259, x_254, h_255, x_256, h_257, x_213, h_214, (g.fcts [0, 1, 8] rfl)⟩), q3_of g hK ht hW⟩, g.2.2.1.F ht⟩) g.2.2.1.2.2 dX2_readStatement_191
              · have fc_251 := neq_f c_251
                have b_260 : bd 1 1 r_205 := neX fc_251 h_212 kb_0 (by decide)
                refine lv_aload_n hx hb dX2_readStatement_180 rfl (lv_at hl 1 rfl) ?_
                have kb_1201 : bd 1201 1201 (1201 : Int32) := ⟨by decide, by decide⟩
                have go_ := g
                refine g_callv (va_runV (As := []) (rest := []) ⟨hx, hb, hml, hown, hts⟩ (r_X2_readArguments_3 l dC dI L kd tys fr_205 H.size g.2.2.2.1 a0_ ma0_ ka0_ q0_ mq0_ kq0_ q1_ mq1_ kq1_ q2_ mq2_ kq2_ q3_ mq3_ kq3_ q8_ mq8_ kq8_ q9_ mq9_ kq9_ 1201 kb_1201 x_213 h_214 hG_250 (g.fcts [5, 6, 7, 8, 11, 12, 13, 14, 0, 1] rfl)) (cwV 0 hts (gV_ t_1393 t_1395 t_50 t_183 t_1396) rfl rfl rfl (by decide +kernel) ⟨(Nat.le_of_ble_eq_true rfl), (Nat.le_of_ble_eq_true rfl)⟩) (pre3V g hK ma0_ ka0_ (by decide) (q := (RX2, TX2, 16)) rfl) rfl rfl hl.1 rfl (lv_room (Nat.le_of_ble_eq_true rfl)) dX2_readStatement_181 ⟨(Nat.le_of_ble_eq_true rfl), (Nat.le_of_ble_eq_true rfl)⟩) g hK (by decide) (by decide) (fx' := [(8, 8, q0_, .int x_213), (7, 15, q3_, .int x_154), (6, 10, q5_, .int y_148), (2, 0, a0_, .ref q0_), (2, 1, a0_, .ref q1_), (2, 2, a0_, .ref q2_), (2, 3, a0_, .ref q3_), (2, 4, a0_, .ref q4_), (2, 5, a0_, .ref q5_), (0, 0, q2_, .ref q0_), (0, 1, q2_, .ref q1_), (5, 0, q1_, .ref q8_), (5, 1, q1_, .ref q9_)]) rfl (fun fr_261 H locs hp hMr_261 g => ?_)
                obtain ⟨x_262, h_263, x_264, h_265, hF_266⟩ := hp
                have hG_267 := eOK.frame hMr_261 go_.2.2.2.1 mq2_ kq2_ (by decide) (by decide) hG_250
                have g := g.more hF_266
                refine lv_goto (tgt := 191) hx hb dX2_readStatement_184 (by decide) ?_
                subst hQ
                exact W.vret hx hb hr (fun t ht hW => ⟨⟨_, rfl, Or.inr (⟨hG_267, x_262, h_263, x_264, h_265, x_213, h_214, (g.fcts [0, 1, 2] rfl)⟩), q3_of g hK ht hW⟩, g.2.2.1.F ht⟩) g.2.2.1.2.2 dX2_readStatement_191
          · have fc_204 := eq_f c_204
            have b_268 : bd 24 11 r_1 := eqX fc_204 b_203 kb_11 (by decide)
            exact bd_no b_268 (by decide)
        by_cases e_269 : r_1 = 25
        · refine lv_topi (fun z_270 ez_270 => ?_)
          obtain rfl : z_270 = 25 := ez_270.trans e_269
          have kb_25 : bd 25 25 (25 : Int32) := ⟨by decide, by decide⟩
          have b_271 : bd 25 25 r_1 := eqX (eq_f e_269) b_144 kb_25 (by decide)
          refine lv_tableIn (off := 45) (tgt := 135) hx hb dX2_readStatement_90 (by decide) (by decide) rfl (by decide) ?_
          refine lv_aload_n hx hb dX2_readStatement_135 rfl (lv_at hl 1 rfl) ?_
          refine lv_iload_n hx hb dX2_readStatement_136 rfl (lv_at hl 0 rfl) ?_
          have go_ := g
          refine g_callv (va_runV (As := [.int r_1]) (rest := []) ⟨hx, hb, hml, hown, hts⟩ (r_X2_readTest_2 l dC dI L kd tys fr_158 H.size g.2.2.2.1 a0_ ma0_ ka0_ r_1 q0_ mq0_ kq0_ q1_ mq1_ kq1_ q2_ mq2_ kq2_ q3_ mq3_ kq3_ q8_ mq8_ kq8_ q9_ mq9_ kq9_ y0_ by0_ hG_162 (g.fcts [3, 4, 5, 6, 9, 10, 11, 12, 13] rfl)) (cwV 1 hts (gV_ t_1367 t_1369 t_45 t_183 t_1370) rfl rfl rfl (by decide +kernel) ⟨(Nat.le_of_ble_eq_true rfl), (Nat.le_of_ble_eq_true rfl)⟩) (pre3V g hK ma0_ ka0_ (by decide) (q := (RX2, TX2, 16)) rfl) rfl rfl hl.1 rfl (lv_room (Nat.le_of_ble_eq_true rfl)) dX2_readStatement_137 ⟨(Nat.le_of_ble_eq_true rfl), (Nat.le_of_ble_eq_true rfl)⟩) g hK (by decide) (by decide) (fx' := [(7, 15, q3_, .int x_154), (6, 10, q5_, .int y_148), (2, 0, a0_, .ref q0_), (2, 1, a0_, .ref q1_), (2, 2, a0_, .ref q2_), (2, 3, a0_, .ref q3_), (2, 4, a0_, .ref q4_), (2, 5, a0_, .ref q5_), (0, 0, q2_, .ref q0_), (0, 1, q2_, .ref q1_), (5, 0, q1_, .ref q8_), (5, 1, q1_, .ref q9_)]) rfl (fun fr_272 H locs hp hMr_272 g => ?_)
          rcases hp with ⟨hG_273, x_274, h_275, x_276, h_277, x_278, h_279, hF_280⟩ | ⟨hG_281, x_282, h_283, x_284, h_285, hF_286⟩
          · have g := g.more hF_280
            refine lv_goto (tgt := 191) hx hb dX2_readStatement_140 (by decide) ?_
            subst hQ
            exact W.vret hx hb hr (fun t ht hW => ⟨⟨_, rfl, Or.inl ⟨hG_273, x_274, h_275, (g.fcts [0, 2] rfl)⟩, q3_of g hK ht hW⟩, g.2.2.1.F ht⟩) g.2.2.1.2.2 dX2_readStatement_191
          · have g := g.more hF_286
            refine lv_goto (tgt := 191) hx hb dX2_readStatement_140 (by decide) ?_
            have kb_1201 : bd 1201 1201 (1201 : Int32) := ⟨by decide, by decide⟩
            subst hQ
            exact W.vret hx hb hr (fun t ht hW => ⟨⟨_, rfl, Or.inr (⟨hG_281, 1201, kb_1201, x_284, h_285, x_282, h_283, (g.fcts [0, 2, 1] rfl)⟩), q3_of g hK ht hW⟩, g.2.2.1.F ht⟩) g.2.2.1.2.2 dX2_readStatement_191
        by_cases e_287 : r_1 = 26
        · refine lv_topi (fun z_288 ez_288 => ?_)
          obtain rfl : z_288 = 26 := ez_288.trans e_287
          have kb_26 : bd 26 26 (26 : Int32) := ⟨by decide, by decide⟩
          have b_289 : bd 26 26 r_1 := eqX (eq_f e_287) b_144 kb_26 (by decide)
          refine lv_tableIn (off := 53) (tgt := 143) hx hb dX2_readStatement_90 (by decide) (by decide) rfl (by decide) ?_
          refine lv_aload_n hx hb dX2_readStatement_143 rfl (lv_at hl 1 rfl) ?_
          have go_ := g
          refine g_callv (va_runV (As := []) (rest := []) ⟨hx, hb, hml, hown, hts⟩ (r_X2_readReturn_2 l dC dI L kd tys fr_158 H.size g.2.2.2.1 a0_ ma0_ ka0_ q0_ mq0_ kq0_ q1_ mq1_ kq1_ q2_ mq2_ kq2_ q3_ mq3_ kq3_ q8_ mq8_ kq8_ q9_ mq9_ kq9_ y0_ by0_ hG_162 (g.fcts [3, 4, 5, 6, 9, 10, 11, 12, 13] rfl)) (cwV 0 hts (gV_ t_1371 t_1373 t_46 t_183 t_1374) rfl rfl rfl (by decide +kernel) ⟨(Nat.le_of_ble_eq_true rfl), (Nat.le_of_ble_eq_true rfl)⟩) (pre3V g hK ma0_ ka0_ (by decide) (q := (RX2, TX2, 16)) rfl) rfl rfl hl.1 rfl (lv_room (Nat.le_of_ble_eq_true rfl)) dX2_readStatement_144 ⟨(Nat.le_of_ble_eq_true rfl), (Nat.le_of_ble_eq_true rfl)⟩) g hK (by decide) (by decide) (fx' := [(7, 15, q3_, .int x_154), (6, 10, q5_, .int y_148), (2, 0, a0_, .ref q0_), (2, 1, a0_, .ref q1_), (2, 2, a0_, .ref q2_), (2, 3, a0_, .ref q3_), (2, 4, a0_, .ref q4_), (2, 5, a0_, .ref q5_), (0, 0, q2_, .ref q0_), (0, 1, q2_, .ref q1_), (5, 0, q1_, .ref q8_), (5, 1, q1_, .ref q9_)]) rfl (fun fr_290 H locs hp hMr_290 g => ?_)
          rcases hp with ⟨hG_291, x_292, h_293, x_294, h_295, hF_296⟩ | ⟨hG_297, x_298, h_299, x_300, h_301, x_302, h_303, hF_304⟩
          · have g := g.more hF_296
            refine lv_goto (tgt := 191) hx hb dX2_readStatement_147 (by decide) ?_
            subst hQ
            exact W.vret hx hb hr (fun t ht hW => ⟨⟨_, rfl, Or.inl ⟨hG_291, x_292, h_293, (g.fcts [0, 1] rfl)⟩, q3_of g hK ht hW⟩, g.2.2.1.F ht⟩) g.2.2.1.2.2 dX2_readStatement_191
          · have g := g.more hF_304
            refine lv_goto (tgt := 191) hx hb dX2_readStatement_147 (by decide) ?_
            subst hQ
            exact W.vret hx hb hr (fun t ht hW => ⟨⟨_, rfl, Or.inr (⟨hG_297, x_298, h_299, x_302, h_303, x_300, h_301, (g.fcts [0, 2, 1] rfl)⟩), q3_of g hK ht hW⟩, g.2.2.1.F ht⟩) g.2.2.1.2.2 dX2_readStatement_191
        by_cases e_305 : r_1 = 27
        · refine lv_topi (fun z_306 ez_306 => ?_)
          obtain rfl : z_306 = 27 := ez_306.trans e_305
          have kb_27 : bd 27 27 (27 : Int32) := ⟨by decide, by decide⟩
          have b_307 : bd 27 27 r_1 := eqX (eq_f e_305) b_144 kb_27 (by decide)
          refine lv_tableIn (off := 60) (tgt := 150) hx hb dX2_readStatement_90 (by decide) (by decide) rfl (by decide) ?_
          refine lv_aload_n hx hb dX2_readStatement_150 rfl (lv_at hl 1 rfl) ?_
          have go_ := g
          refine g_callv (va_runV (As := []) (rest := []) ⟨hx, hb, hml, hown, hts⟩ (r_X2_readThrow_2 l dC dI L kd tys fr_158 H.size g.2.2.2.1 a0_ ma0_ ka0_ q0_ mq0_ kq0_ q3_ mq3_ kq3_ y0_ by0_ (g.fcts [3, 6, 13] rfl)) (cwV 0 hts (gV_ t_1375 t_1377 t_47 t_183 t_1378) rfl rfl rfl (by decide +kernel) ⟨(Nat.le_of_ble_eq_true rfl), (Nat.le_of_ble_eq_true rfl)⟩) (pre3V g hK ma0_ ka0_ (by decide) (q := (RX2, TX2, 16)) rfl) rfl rfl hl.1 rfl (lv_room (Nat.le_of_ble_eq_true rfl)) dX2_readStatement_151 ⟨(Nat.le_of_ble_eq_true rfl), (Nat.le_of_ble_eq_true rfl)⟩) g hK (by decide) (by decide) (fx' := [(7, 15, q3_, .int x_154), (6, 10, q5_, .int y_148), (2, 0, a0_, .ref q0_), (2, 1, a0_, .ref q1_), (2, 2, a0_, .ref q2_), (2, 3, a0_, .ref q3_), (2, 4, a0_, .ref q4_), (2, 5, a0_, .ref q5_), (0, 0, q2_, .ref q0_), (0, 1, q2_, .ref q1_), (5, 0, q1_, .ref q8_), (5, 1, q1_, .ref q9_)]) rfl (fun fr_308 H locs hp hMr_308 g => ?_)
          rcases hp with ⟨x_309, h_310, x_311, h_312, x_313, h_314, hF_315⟩ | ⟨x_316, h_317, x_318, h_319, x_320, h_321, x_322, h_323, hF_324⟩
          · have hG_325 := eOK.frame hMr_308 go_.2.2.2.1 mq2_ kq2_ (by decide) (by decide) hG_162
            have g := g.more hF_315
            refine lv_goto (tgt := 191) hx hb dX2_readStatement_154 (by decide) ?_
            subst hQ
            exact W.vret hx hb hr (fun t ht hW => ⟨⟨_, rfl, Or.inl ⟨hG_325, x_309, h_310, (g.fcts [0, 1] rfl)⟩, q3_of g hK ht hW⟩, g.2.2.1.F ht⟩) g.2.2.1.2.2 dX2_readStatement_191
          · have hG_326 := eOK.frame hMr_308 go_.2.2.2.1 mq2_ kq2_ (by decide) (by decide) hG_162
            have g := g.more hF_324
            refine lv_goto (tgt := 191) hx hb dX2_readStatement_154 (by decide) ?_
            subst hQ
            exact W.vret hx hb hr (fun t ht hW => ⟨⟨_, rfl, Or.inr (⟨hG_326, x_316, h_317, x_320, h_321, x_318, h_319, (g.fcts [0, 2, 1] rfl)⟩), q3_of g hK ht hW⟩, g.2.2.1.F ht⟩) g.2.2.1.2.2 dX2_readStatement_191
        refine lv_tableOut (tgt := 157) hx hb dX2_readStatement_90 (by have a0 : r_1.toInt ≠ 22 := fun h => e_163 (Int32.toInt_inj.mp (h.trans (by decide))); have a1 : r_1.toInt ≠ 23 := fun h => e_183 (Int32.toInt_inj.mp (h.trans (by decide))); have a2 : r_1.toInt ≠ 24 := fun h => e_201 (Int32.toInt_inj.mp (h.trans (by decide))); have a3 : r_1.toInt ≠ 25 := fun h => e_269 (Int32.toInt_inj.mp (h.trans (by decide))); have a4 : r_1.toInt ≠ 26 := fun h => e_287 (Int32.toInt_inj.mp (h.trans (by decide))); have a5 : r_1.toInt ≠ 27 := fun h => e_305 (Int32.toInt_inj.mp (h.trans (by decide))); omega) (by decide) ?_
        refine lv_iload_n hx hb dX2_readStatement_157 rfl (lv_at hl 0 rfl) ?_
        refine lv_bipush (v := 11) hx hb dX2_readStatement_158 (by decide) ?_
        have kb_11 : bd 11 11 (11 : Int32) := ⟨by decide, by decide⟩
        refine lv_icmp_ne (tgt := 173) hx hb dX2_readStatement_160 (by decide) (fun c_327 => ?_) (fun c_327 => ?_)
        · have fc_327 := neq_f c_327
          refine lv_aload_n hx hb dX2_readStatement_173 rfl (lv_at hl 1 rfl) ?_
          have go_ := g
          refine g_calli (va_runV (As := []) (rest := []) ⟨hx, hb, hml, hown, hts⟩ (r_X2_findNamed_2 l dC dI L kd tys fr_158 H.size g.2.2.2.1 a0_ ma0_ ka0_ q0_ mq0_ kq0_ q1_ mq1_ kq1_ q3_ mq3_ kq3_ q4_ mq4_ kq4_ q9_ mq9_ kq9_ y0_ by0_ (g.fcts [3, 4, 6, 7, 12, 13] rfl)) (cwV 0 hts (gV_ t_1388 t_1390 t_49 t_183 t_1391) rfl rfl rfl (by decide +kernel) ⟨(Nat.le_of_ble_eq_true rfl), (Nat.le_of_ble_eq_true rfl)⟩) (pre3V g hK ma0_ ka0_ (by decide) (q := (RX2, TX2, 16)) rfl) rfl rfl hl.1 rfl (lv_room (Nat.le_of_ble_eq_true rfl)) dX2_readStatement_174 ⟨(Nat.le_of_ble_eq_true rfl), (Nat.le_of_ble_eq_true rfl)⟩) g hK (by decide) (by decide) (fx' := [(7, 6, q3_, .int x_159), (7, 15, q3_, .int x_154), (6, 10, q5_, .int y_148), (2, 0, a0_, .ref q0_), (2, 1, a0_, .ref q1_), (2, 2, a0_, .ref q2_), (2, 3, a0_, .ref q3_), (2, 4, a0_, .ref q4_), (2, 5, a0_, .ref q5_), (0, 0, q2_, .ref q0_), (0, 1, q2_, .ref q1_), (5, 0, q1_, .ref q8_), (5, 1, q1_, .ref q9_)]) rfl (fun r_328 fr_328 H locs hp hMr_328 g => ?_)
          rcases hp with ⟨h_329, x_330, h_331, x_332, h_333, hF_334⟩ | ⟨h_335, x_336, h_337, hF_338⟩
          · have hG_339 := eOK.frame hMr_328 go_.2.2.2.1 mq2_ kq2_ (by decide) (by decide) hG_162
            have g := g.more hF_334
            have kb_0 : bd 0 0 (0 : Int32) := ⟨by decide, by decide⟩
            refine lv_if_eq (tgt := 187) hx hb dX2_readStatement_177 (by decide) (fun c_340 => ?_) (fun c_340 => ?_)
            · have fc_340 := eq_f c_340
              have b_341 : bd 0 0 r_328 := eqX fc_340 h_329 kb_0 (by decide)
              refine lv_aload_n hx hb dX2_readStatement_187 rfl (lv_at hl 1 rfl) ?_
              have go_ := g
              refine g_callv (va_runV (As := []) (rest := []) ⟨hx, hb, hml, hown, hts⟩ (r_X2_readAssignment_2 l dC dI L kd tys fr_328 H.size g.2.2.2.1 a0_ ma0_ ka0_ q0_ mq0_ kq0_ q1_ mq1_ kq1_ q2_ mq2_ kq2_ q3_ mq3_ kq3_ q4_ mq4_ kq4_ q8_ mq8_ kq8_ q9_ mq9_ kq9_ y0_ by0_ hG_339 (g.fcts [6, 7, 8, 9, 10, 12, 13, 14, 15, 2] rfl)) (cwV 0 hts (gV_ t_1397 t_1399 t_51 t_183 t_1400) rfl rfl rfl (by decide +kernel) ⟨(Nat.le_of_ble_eq_true rfl), (Nat.le_of_ble_eq_true rfl)⟩) (pre3V g hK ma0_ ka0_ (by decide) (q := (RX2, TX2, 16)) rfl) rfl rfl hl.1 rfl (lv_room (Nat.le_of_ble_eq_true rfl)) dX2_readStatement_188 ⟨(Nat.le_of_ble_eq_true rfl), (Nat.le_of_ble_eq_true rfl)⟩) g hK (by decide) (by decide) (fx' := [(2, 15, a0_, .int x_330), (7, 15, q3_, .int x_154), (6, 10, q5_, .int y_148), (2, 0, a0_, .ref q0_), (2, 1, a0_, .ref q1_), (2, 2, a0_, .ref q2_), (2, 3, a0_, .ref q3_), (2, 4, a0_, .ref q4_), (2, 5, a0_, .ref q5_), (0, 0, q2_, .ref q0_), (0, 1, q2_, .ref q1_), (5, 0, q1_, .ref q8_), (5, 1, q1_, .ref q9_)]) rfl (fun fr_342 H locs hp hMr_342 g => ?_)
              rcases hp with ⟨hG_343, x_344, h_345, x_346, h_347, hF_348⟩ | ⟨hG_349, x_350, h_351, x_352, h_353, x_354, h_355, hF_356⟩
              · have g := g.more hF_348
                subst hQ
                exact W.vret hx hb hr (fun t ht hW => ⟨⟨_, rfl, Or.inl ⟨hG_343, x_344, h_345, (g.fcts [0, 1] rfl)⟩, q3_of g hK ht hW⟩, g.2.2.1.F ht⟩) g.2.2.1.2.2 dX2_readStatement_191
              · have g := g.more hF_356
                subst hQ
                exact W.vret hx hb hr (fun t ht hW => ⟨⟨_, rfl, Or.inr (⟨hG_349, x_350, h_351, x_354, h_355, x_352, h_353, (g.fcts [0, 2, 1] rfl)⟩), q3_of g hK ht hW⟩, g.2.2.1.F ht⟩) g.2.2.1.2.2 dX2_readStatement_191
            · have fc_340 := neq_f c_340
              have b_357 : bd 1 1 r_328 := neX fc_340 h_329 kb_0 (by decide)
              refine lv_aload_n hx hb dX2_readStatement_180 rfl (lv_at hl 1 rfl) ?_
              have go_ := g
              refine g_callv (va_runV (As := []) (rest := []) ⟨hx, hb, hml, hown, hts⟩ (r_X2_readArguments_2 l dC dI L kd tys fr_328 H.size g.2.2.2.1 a0_ ma0_ ka0_ q0_ mq0_ kq0_ q1_ mq1_ kq1_ q2_ mq2_ kq2_ q3_ mq3_ kq3_ q8_ mq8_ kq8_ q9_ mq9_ kq9_ y0_ by0_ hG_339 (g.fcts [6, 7, 8, 9, 12, 13, 14, 15, 2] rfl)) (cwV 0 hts (gV_ t_1393 t_1395 t_50 t_183 t_1396) rfl rfl rfl (by decide +kernel) ⟨(Nat.le_of_ble_eq_true rfl), (Nat.le_of_ble_eq_true rfl)⟩) (pre3V g hK ma0_ ka0_ (by decide) (q := (RX2, TX2, 16)) rfl) rfl rfl hl.1 rfl (lv_room (Nat.le_of_ble_eq_true rfl)) dX2_readStatement_181 ⟨(Nat.le_of_ble_eq_true rfl), (Nat.le_of_ble_eq_true rfl)⟩) g hK (by decide) (by decide) (fx' := [(2, 15, a0_, .int x_330), (7, 15, q3_, .int x_154), (6, 10, q5_, .int y_148), (2, 0, a0_, .ref q0_), (2, 1, a0_, .ref q1_), (2, 2, a0_, .ref q2_), (2, 3, a0_, .ref q3_), (2, 4, a0_, .ref q4_), (2, 5, a0_, .ref q5_), (0, 0, q2_, .ref q0_), (0, 1, q2_, .ref q1_), (5, 0, q1_, .ref q8_), (5, 1, q1_, .ref q9_)]) rfl (fun fr_358 H locs hp hMr_358 g => ?_)
              rcases hp with ⟨hG_359, x_360, h_361, x_362, h_363, hF_364⟩ | ⟨hG_365, x_366, h_367, x_368, h_369, x_370, h_371, hF_372⟩
              · have g := g.more hF_364
                refine lv_goto (tgt := 191) hx hb dX2_readStatement_184 (by decide) ?_
                subst hQ
                exact W.vret hx hb hr (fun t ht hW => ⟨⟨_, rfl, Or.inl ⟨hG_359, x_360, h_361, (g.fcts [0, 1] rfl)⟩, q3_of g hK ht hW⟩, g.2.2.1.F ht⟩) g.2.2.1.2.2 dX2_readStatement_191
              · have g := g.more hF_372
                refine lv_goto (tgt := 191) hx hb dX2_readStatement_184 (by decide) ?_
                subst hQ
                exact W.vret hx hb hr (fun t ht hW => ⟨⟨_, rfl, Or.inr (⟨hG_365, x_366, h_367, x_370, h_371, x_368, h_369, (g.fcts [0, 2, 1] rfl)⟩), q3_of g hK ht hW⟩, g.2.2.1.F ht⟩) g.2.2.1.2.2 dX2_readStatement_191
          · have hG_373 := eOK.frame hMr_328 go_.2.2.2.1 mq2_ kq2_ (by decide) (by decide) hG_162
            have g := g.more hF_338
            have kb_0 : bd 0 0 (0 : Int32) := ⟨by decide, by decide⟩
            refine lv_if_eq (tgt := 187) hx hb dX2_readStatement_177 (by decide) (fun c_374 => ?_) (fun c_374 => ?_)
            · have fc_374 := eq_f c_374
              have b_375 : bd 0 0 r_328 := eqX fc_374 h_335 kb_0 (by decide)
              refine lv_aload_n hx hb dX2_readStatement_187 rfl (lv_at hl 1 rfl) ?_
              have kb_1201 : bd 1201 1201 (1201 : Int32) := ⟨by decide, by decide⟩
              have go_ := g
              refine g_callv (va_runV (As := []) (rest := []) ⟨hx, hb, hml, hown, hts⟩ (r_X2_readAssignment l dC dI L kd tys fr_328 H.size g.2.2.2.1 a0_ ma0_ ka0_ q0_ mq0_ kq0_ q1_ mq1_ kq1_ q2_ mq2_ kq2_ q3_ mq3_ kq3_ q4_ mq4_ kq4_ q8_ mq8_ kq8_ q9_ mq9_ kq9_ 1201 kb_1201 x_336 h_337 hG_373 (g.fcts [5, 6, 7, 8, 9, 11, 12, 13, 14, 0, 1] rfl)) (cwV 0 hts (gV_ t_1397 t_1399 t_51 t_183 t_1400) rfl rfl rfl (by decide +kernel) ⟨(Nat.le_of_ble_eq_true rfl), (Nat.le_of_ble_eq_true rfl)⟩) (pre3V g hK ma0_ ka0_ (by decide) (q := (RX2, TX2, 16)) rfl) rfl rfl hl.1 rfl (lv_room (Nat.le_of_ble_eq_true rfl)) dX2_readStatement_188 ⟨(Nat.le_of_ble_eq_true rfl), (Nat.le_of_ble_eq_true rfl)⟩) g hK (by decide) (by decide) (fx' := [(8, 8, q0_, .int x_336), (7, 15, q3_, .int x_154), (6, 10, q5_, .int y_148), (2, 0, a0_, .ref q0_), (2, 1, a0_, .ref q1_), (2, 2, a0_, .ref q2_), (2, 3, a0_, .ref q3_), (2, 4, a0_, .ref q4_), (2, 5, a0_, .ref q5_), (0, 0, q2_, .ref q0_), (0, 1, q2_, .ref q1_), (5, 0, q1_, .ref q8_), (5, 1, q1_, .ref q9_)]) rfl (fun fr_376 H locs hp hMr_376 g => ?_)
              obtain ⟨x_377, h_378, x_379, h_380, hF_381⟩ := hp
              have hG_382 := eOK.frame hMr_376 go_.2.2.2.1 mq2_ kq2_ (by decide) (by decide) hG_373
              have g := g.more hF_381
              subst hQ
              exact W.vret hx hb hr (fun t ht hW => ⟨⟨_, rfl, Or.inr (⟨hG_382, x_377, h_378, x_379, h_380, x_336, h_337, (g.fcts [0, 1, 8] rfl)⟩), q3_of g hK ht hW⟩, g.2.2.1.F ht⟩) g.2.2.1.2.2 dX2_readStatement_191
            · have fc_374 := neq_f c_374
              have b_383 : bd 1 1 r_328 := neX fc_374 h_335 kb_0 (by decide)
              refine lv_aload_n hx hb dX2_readStatement_180 rfl (lv_at hl 1 rfl) ?_
              have kb_1201 : bd 1201 1201 (1201 : Int32) := ⟨by decide, by decide⟩
              have go_ := g
              refine g_callv (va_runV (As := []) (rest := []) ⟨hx, hb, hml, hown, hts⟩ (r_X2_readArguments_3 l dC dI L kd tys fr_328 H.size g.2.2.2.1 a0_ ma0_ ka0_ q0_ mq0_ kq0_ q1_ mq1_ kq1_ q2_ mq2_ kq2_ q3_ mq3_ kq3_ q8_ mq8_ kq8_ q9_ mq9_ kq9_ 1201 kb_1201 x_336 h_337 hG_373 (g.fcts [5, 6, 7, 8, 11, 12, 13, 14, 0, 1] rfl)) (cwV 0 hts (gV_ t_1393 t_1395 t_50 t_183 t_1396) rfl rfl rfl (by decide +kernel) ⟨(Nat.le_of_ble_eq_true rfl), (Nat.le_of_ble_eq_true rfl)⟩) (pre3V g hK ma0_ ka0_ (by decide) (q := (RX2, TX2, 16)) rfl) rfl rfl hl.1 rfl (lv_room (Nat.le_of_ble_eq_true rfl)) dX2_readStatement_181 ⟨(Nat.le_of_ble_eq_true rfl), (Nat.le_of_ble_eq_true rfl)⟩) g hK (by decide) (by decide) (fx' := [(8, 8, q0_, .int x_336), (7, 15, q3_, .int x_154), (6, 10, q5_, .int y_148), (2, 0, a0_, .ref q0_), (2, 1, a0_, .ref q1_), (2, 2, a0_, .ref q2_), (2, 3, a0_, .ref q3_), (2, 4, a0_, .ref q4_), (2, 5, a0_, .ref q5_), (0, 0, q2_, .ref q0_), (0, 1, q2_, .ref q1_), (5, 0, q1_, .ref q8_), (5, 1, q1_, .ref q9_)]) rfl (fun fr_384 H locs hp hMr_384 g => ?_)
              obtain ⟨x_385, h_386, x_387, h_388, hF_389⟩ := hp
              have hG_390 := eOK.frame hMr_384 go_.2.2.2.1 mq2_ kq2_ (by decide) (by decide) hG_373
              have g := g.more hF_389
              refine lv_goto (tgt := 191) hx hb dX2_readStatement_184 (by decide) ?_
              subst hQ
              exact W.vret hx hb hr (fun t ht hW => ⟨⟨_, rfl, Or.inr (⟨hG_390, x_385, h_386, x_387, h_388, x_336, h_337, (g.fcts [0, 1, 2] rfl)⟩), q3_of g hK ht hW⟩, g.2.2.1.F ht⟩) g.2.2.1.2.2 dX2_readStatement_191
        · have fc_327 := eq_f c_327
          have b_391 : bd 11 11 r_1 := eqX fc_327 b_144 kb_11 (by decide)
          refine lv_aload_n hx hb dX2_readStatement_163 rfl (lv_at hl 1 rfl) ?_
          have go_ := g
          refine g_calli (va_runV (As := []) (rest := []) ⟨hx, hb, hml, hown, hts⟩ (r_X2_findAbove_2 l dC dI L kd tys fr_158 H.size g.2.2.2.1 a0_ ma0_ ka0_ q0_ mq0_ kq0_ q3_ mq3_ kq3_ q4_ mq4_ kq4_ y0_ by0_ (g.fcts [3, 6, 7, 13] rfl)) (cwV 0 hts (gV_ t_1383 t_1385 t_48 t_183 t_1386) rfl rfl rfl (by decide +kernel) ⟨(Nat.le_of_ble_eq_true rfl), (Nat.le_of_ble_eq_true rfl)⟩) (pre3V g hK ma0_ ka0_ (by decide) (q := (RX2, TX2, 16)) rfl) rfl rfl hl.1 rfl (lv_room (Nat.le_of_ble_eq_true rfl)) dX2_readStatement_164 ⟨(Nat.le_of_ble_eq_true rfl), (Nat.le_of_ble_eq_true rfl)⟩) g hK (by decide) (by decide) (fx' := [(7, 6, q3_, .int x_159), (7, 15, q3_, .int x_154), (6, 10, q5_, .int y_148), (2, 0, a0_, .ref q0_), (2, 1, a0_, .ref q1_), (2, 2, a0_, .ref q2_), (2, 3, a0_, .ref q3_), (2, 4, a0_, .ref q4_), (2, 5, a0_, .ref q5_), (0, 0, q2_, .ref q0_), (0, 1, q2_, .ref q1_), (5, 0, q1_, .ref q8_), (5, 1, q1_, .ref q9_)]) rfl (fun r_392 fr_392 H locs hp hMr_392 g => ?_)
          rcases hp with ⟨h_393, x_394, h_395, x_396, h_397, x_398, h_399, x_400, h_401, hF_402⟩ | ⟨h_403, x_404, h_405, hF_406⟩
          · have hG_407 := eOK.frame hMr_392 go_.2.2.2.1 mq2_ kq2_ (by decide) (by decide) hG_162
            obtain rfl : r_392 = 1 := h_393
            have g := g.more hF_402
            refine lv_if_eq (tgt := 187) hx hb dX2_readStatement_167 (by decide) (fun c_ => absurd c_ (by decide)) (fun c_ => ?_)
            refine lv_goto (tgt := 180) hx hb dX2_readStatement_170 (by decide) ?_
            refine lv_aload_n hx hb dX2_readStatement_180 rfl (lv_at hl 1 rfl) ?_
            have go_ := g
            refine g_callv (va_runV (As := []) (rest := []) ⟨hx, hb, hml, hown, hts⟩ (r_X2_readArguments_2 l dC dI L kd tys fr_392 H.size g.2.2.2.1 a0_ ma0_ ka0_ q0_ mq0_ kq0_ q1_ mq1_ kq1_ q2_ mq2_ kq2_ q3_ mq3_ kq3_ q8_ mq8_ kq8_ q9_ mq9_ kq9_ y0_ by0_ hG_407 (g.fcts [9, 10, 11, 12, 15, 16, 17, 18, 3] rfl)) (cwV 0 hts (gV_ t_1393 t_1395 t_50 t_183 t_1396) rfl rfl rfl (by decide +kernel) ⟨(Nat.le_of_ble_eq_true rfl), (Nat.le_of_ble_eq_true rfl)⟩) (pre3V g hK ma0_ ka0_ (by decide) (q := (RX2, TX2, 16)) rfl) rfl rfl hl.1 rfl (lv_room (Nat.le_of_ble_eq_true rfl)) dX2_readStatement_181 ⟨(Nat.le_of_ble_eq_true rfl), (Nat.le_of_ble_eq_true rfl)⟩) g hK (by decide) (by decide) (fx' := [(2, 14, a0_, .int x_396), (2, 12, a0_, .int 18), (7, 1, q3_, .int x_398), (9, 1, q4_, .int x_400), (7, 15, q3_, .int x_154), (6, 10, q5_, .int y_148), (2, 0, a0_, .ref q0_), (2, 1, a0_, .ref q1_), (2, 2, a0_, .ref q2_), (2, 3, a0_, .ref q3_), (2, 4, a0_, .ref q4_), (2, 5, a0_, .ref q5_), (0, 0, q2_, .ref q0_), (0, 1, q2_, .ref q1_), (5, 0, q1_, .ref q8_), (5, 1, q1_, .ref q9_)]) rfl (fun fr_408 H locs hp hMr_408 g => ?_)
            rcases hp with ⟨hG_409, x_410, h_411, x_412, h_413, hF_414⟩ | ⟨hG_415, x_416, h_417, x_418, h_419, x_420, h_421, hF_422⟩
            · have g := g.more hF_414
              refine lv_goto (tgt := 191) hx hb dX2_readStatement_184 (by decide) ?_
              subst hQ
              exact W.vret hx hb hr (fun t ht hW => ⟨⟨_, rfl, Or.inl ⟨hG_409, x_410, h_411, (g.fcts [0, 1] rfl)⟩, q3_of g hK ht hW⟩, g.2.2.1.F ht⟩) g.2.2.1.2.2 dX2_readStatement_191
            · have g := g.more hF_422
              refine lv_goto (tgt := 191) hx hb dX2_readStatement_184 (by decide) ?_
              subst hQ
              exact W.vret hx hb hr (fun t ht hW => ⟨⟨_, rfl, Or.inr (⟨hG_415, x_416, h_417, x_420, h_421, x_418, h_419, (g.fcts [0, 2, 1] rfl)⟩), q3_of g hK ht hW⟩, g.2.2.1.F ht⟩) g.2.2.1.2.2 dX2_readStatement_191
          · have hG_423 := eOK.frame hMr_392 go_.2.2.2.1 mq2_ kq2_ (by decide) (by decide) hG_162
            obtain rfl : r_392 = 1 := h_403
            have g := g.more hF_406
            refine lv_if_eq (tgt := 187) hx hb dX2_readStatement_167 (by decide) (fun c_ => absurd c_ (by decide)) (fun c_ => ?_)
            refine lv_goto (tgt := 180) hx hb dX2_readStatement_170 (by decide) ?_
            refine lv_aload_n hx hb dX2_readStatement_180 rfl (lv_at hl 1 rfl) ?_
            have kb_1201 : bd 1201 1201 (1201 : Int32) := ⟨by decide, by decide⟩
            have go_ := g
            refine g_callv (va_runV (As := []) (rest := []) ⟨hx, hb, hml, hown, hts⟩ (r_X2_readArguments_3 l dC dI L kd tys fr_392 H.size g.2.2.2.1 a0_ ma0_ ka0_ q0_ mq0_ kq0_ q1_ mq1_ kq1_ q2_ mq2_ kq2_ q3_ mq3_ kq3_ q8_ mq8_ kq8_ q9_ mq9_ kq9_ 1201 kb_1201 x_404 h_405 hG_423 (g.fcts [5, 6, 7, 8, 11, 12, 13, 14, 0, 1] rfl)) (cwV 0 hts (gV_ t_1393 t_1395 t_50 t_183 t_1396) rfl rfl rfl (by decide +kernel) ⟨(Nat.le_of_ble_eq_true rfl), (Nat.le_of_ble_eq_true rfl)⟩) (pre3V g hK ma0_ ka0_ (by decide) (q := (RX2, TX2, 16)) rfl) rfl rfl hl.1 rfl (lv_room (Nat.le_of_ble_eq_true rfl)) dX2_readStatement_181 ⟨(Nat.le_of_ble_eq_true rfl), (Nat.le_of_ble_eq_true rfl)⟩) g hK (by decide) (by decide) (fx' := [(8, 8, q0_, .int x_404), (7, 15, q3_, .int x_154), (6, 10, q5_, .int y_148), (2, 0, a0_, .ref q0_), (2, 1, a0_, .ref q1_), (2, 2, a0_, .ref q2_), (2, 3, a0_, .ref q3_), (2, 4, a0_, .ref q4_), (2, 5, a0_, .ref q5_), (0, 0, q2_, .ref q0_), (0, 1, q2_, .ref q1_), (5, 0, q1_, .ref q8_), (5, 1, q1_, .ref q9_)]) rfl (fun fr_424 H locs hp hMr_424 g => ?_)
            obtain ⟨x_425, h_426, x_427, h_428, hF_429⟩ := hp
            have hG_430 := eOK.frame hMr_424 go_.2.2.2.1 mq2_ kq2_ (by decide) (by decide) hG_423
            have g := g.more hF_429
            refine lv_goto (tgt := 191) hx hb dX2_readStatement_184 (by decide) ?_
            subst hQ
            exact W.vret hx hb hr (fun t ht hW => ⟨⟨_, rfl, Or.inr (⟨hG_430, x_425, h_426, x_427, h_428, x_404, h_405, (g.fcts [0, 1, 2] rfl)⟩), q3_of g hK ht hW⟩, g.2.2.1.F ht⟩) g.2.2.1.2.2 dX2_readStatement_191
      · have fc_146 := nlt_f c_146
        have b_431 : bd 40 2147483647 x_145 := leR fc_146 kb_40 (bdT x_145) (by decide)
        refine lv_aload_n hx hb dX2_readStatement_56 rfl (lv_at hl 1 rfl) ?_
        have go_ := g
        refine g_callv (va_runV (As := []) (rest := []) ⟨hx, hb, hml, hown, hts⟩ (r_X2_refuseStatement l dC dI L kd tys fr_4 H.size g.2.2.2.1 a0_ ma0_ ka0_ q0_ mq0_ kq0_ q1_ mq1_ kq1_ q3_ mq3_ kq3_ q4_ mq4_ kq4_ q9_ mq9_ kq9_ y0_ by0_ (g.fcts [1, 2, 4, 5, 10, 11] rfl)) (cwV 0 hts (gV_ t_1354 t_1356 t_43 t_183 t_1357) rfl rfl rfl (by decide +kernel) ⟨(Nat.le_of_ble_eq_true rfl), (Nat.le_of_ble_eq_true rfl)⟩) (pre3V g hK ma0_ ka0_ (by decide) (q := (RX2, TX2, 16)) rfl) rfl rfl hl.1 rfl (lv_room (Nat.le_of_ble_eq_true rfl)) dX2_readStatement_57 ⟨(Nat.le_of_ble_eq_true rfl), (Nat.le_of_ble_eq_true rfl)⟩) g hK (by decide) (by decide) (fx' := [(6, 10, q5_, .int x_145), (2, 0, a0_, .ref q0_), (2, 1, a0_, .ref q1_), (2, 2, a0_, .ref q2_), (2, 3, a0_, .ref q3_), (2, 4, a0_, .ref q4_), (2, 5, a0_, .ref q5_), (0, 0, q2_, .ref q0_), (0, 1, q2_, .ref q1_), (5, 0, q1_, .ref q8_), (5, 1, q1_, .ref q9_)]) rfl (fun fr_432 H locs hp hMr_432 g => ?_)
        obtain ⟨x_433, h_434, hF_435⟩ := hp
        have hG_436 := eOK.frame hMr_432 go_.2.2.2.1 mq2_ kq2_ (by decide) (by decide) hG_143
        have g := g.more hF_435
        refine lv_aload_n hx hb dX2_readStatement_60 rfl (lv_at hl 1 rfl) ?_
        refine g_getk (C := RX2) (T := TX2) (N := 16) hx hb hts (mc_ inX2) hown hK g rfl 5 (by decide) rfl (hts _ (List.mem_cons_of_mem _ t_421)) (fun _ h9 => h9) 8 rfl dX2_readStatement_61 ?_
        refine lv_dup hx hb dX2_readStatement_64 rfl ?_
        refine g_getk (C := RX6) (T := TX6) (N := 13) hx hb hts (mc_ inX6) hown hK g rfl 10 (by decide) rfl (hts _ (List.mem_cons_of_mem _ t_588)) (fun _ h9 => h9) 2 rfl dX2_readStatement_65 ?_
        refine lv_iconst (v := 1) hx hb dX2_readStatement_68 (by decide) ?_
        have kb_1 : bd 1 1 (1 : Int32) := ⟨by decide, by decide⟩
        refine lv_iadd hx hb dX2_readStatement_69 ?_
        refine lv_topi (fun y_437 ey_437 => ?_)
        have go_ := g
        refine g_put (C := RX6) (T := TX6) (N := 13) hx hb hts (mc_ inX6) tyX6 tyX6_ok nmX6 hown hK g mq5_ kq5_ (by decide) rfl 10 (by decide) (hts _ (List.mem_cons_of_mem _ t_588)) (fun _ h9 => h9) rfl rfl (okV_i (bdT y_437)) rfl rfl (by decide) (Or.inr (Or.inl (by decide))) (fx' := [(8, 6, q0_, .int 1201), (8, 8, q0_, .int x_433), (2, 0, a0_, .ref q0_), (2, 1, a0_, .ref q1_), (2, 2, a0_, .ref q2_), (2, 3, a0_, .ref q3_), (2, 4, a0_, .ref q4_), (2, 5, a0_, .ref q5_), (0, 0, q2_, .ref q0_), (0, 1, q2_, .ref q1_), (5, 0, q1_, .ref q8_), (5, 1, q1_, .ref q9_)]) rfl dX2_readStatement_70 (fun f H locs hM_438 g => ?_)
        have hG_439 := eOK.frame hM_438 go_.2.2.2.1 mq2_ kq2_ (by decide) (by decide) hG_436
        refine lv_aload_n hx hb dX2_readStatement_73 rfl (lv_at hl 1 rfl) ?_
        refine g_getk (C := RX2) (T := TX2) (N := 16) hx hb hts (mc_ inX2) hown hK g rfl 3 (by decide) rfl (hts _ (List.mem_cons_of_mem _ t_419)) (fun _ h9 => h9) 6 rfl dX2_readStatement_74 ?_
        refine lv_bipush (v := 12) hx hb dX2_readStatement_77 (by decide) ?_
        refine lv_aload_n hx hb dX2_readStatement_79 rfl (lv_at hl 1 rfl) ?_
        refine g_getk (C := RX2) (T := TX2) (N := 16) hx hb hts (mc_ inX2) hown hK g rfl 3 (by decide) rfl (hts _ (List.mem_cons_of_mem _ t_419)) (fun _ h9 => h9) 6 rfl dX2_readStatement_80 ?_
        have go_ := g
        refine g_calli (va_runV (As := []) (rest := [.int 12, .ref q3_]) ⟨hx, hb, hml, hown, hts⟩ (r_X7_addStatement l dC dI L kd tys f H.size g.2.2.2.1 q3_ mq3_ kq3_) (cwV 0 hts (gV_ t_1359 t_1360 t_1361 t_191 t_1362) rfl rfl rfl (by decide +kernel) ⟨(Nat.le_of_ble_eq_true rfl), (Nat.le_of_ble_eq_true rfl)⟩) (pre3V g hK mq3_ kq3_ (by decide) (q := (RX7, TX7, 19)) rfl) rfl rfl hl.1 rfl (lv_room (Nat.le_of_ble_eq_true rfl)) dX2_readStatement_83 ⟨(Nat.le_of_ble_eq_true rfl), (Nat.le_of_ble_eq_true rfl)⟩) g hK (by decide) (by decide) (fx' := [(6, 10, q5_, .int y_437), (8, 6, q0_, .int 1201), (8, 8, q0_, .int x_433), (2, 0, a0_, .ref q0_), (2, 1, a0_, .ref q1_), (2, 2, a0_, .ref q2_), (2, 3, a0_, .ref q3_), (2, 4, a0_, .ref q4_), (2, 5, a0_, .ref q5_), (0, 0, q2_, .ref q0_), (0, 1, q2_, .ref q1_), (5, 0, q1_, .ref q8_), (5, 1, q1_, .ref q9_)]) rfl (fun r_440 fr_440 H locs hp hMr_440 g => ?_)
        obtain ⟨h_441, x_442, h_443, hF_444⟩ := hp
        have hG_445 := eOK.frame hMr_440 go_.2.2.2.1 mq2_ kq2_ (by decide) (by decide) hG_439
        have g := g.more hF_444
        have go_ := g
        refine g_callv (va_runV (As := [.int 12, .int r_440]) (rest := []) ⟨hx, hb, hml, hown, hts⟩ (r_X7_emit l dC dI L kd tys fr_440 H.size g.2.2.2.1 q3_ mq3_ kq3_ 12 r_440) (cwV 2 hts (gV_ t_1301 t_1204 t_1205 t_191 t_1206) rfl rfl rfl (by decide +kernel) ⟨(Nat.le_of_ble_eq_true rfl), (Nat.le_of_ble_eq_true rfl)⟩) (pre3V g hK mq3_ kq3_ (by decide) (q := (RX7, TX7, 19)) rfl) rfl rfl hl.1 rfl (lv_room (Nat.le_of_ble_eq_true rfl)) dX2_readStatement_86 ⟨(Nat.le_of_ble_eq_true rfl), (Nat.le_of_ble_eq_true rfl)⟩) g hK (by decide) (by decide) (fx' := [(7, 15, q3_, .int x_442), (6, 10, q5_, .int y_437), (8, 6, q0_, .int 1201), (8, 8, q0_, .int x_433), (2, 0, a0_, .ref q0_), (2, 1, a0_, .ref q1_), (2, 2, a0_, .ref q2_), (2, 3, a0_, .ref q3_), (2, 4, a0_, .ref q4_), (2, 5, a0_, .ref q5_), (0, 0, q2_, .ref q0_), (0, 1, q2_, .ref q1_), (5, 0, q1_, .ref q8_), (5, 1, q1_, .ref q9_)]) rfl (fun fr_446 H locs hp hMr_446 g => ?_)
        obtain ⟨x_447, h_448, hF_449⟩ := hp
        have hG_450 := eOK.frame hMr_446 go_.2.2.2.1 mq2_ kq2_ (by decide) (by decide) hG_445
        have g := g.more hF_449
        refine lv_iload_n hx hb dX2_readStatement_89 rfl (lv_at hl 0 rfl) ?_
        by_cases e_451 : r_1 = 22
        · refine lv_topi (fun z_452 ez_452 => ?_)
          obtain rfl : z_452 = 22 := ez_452.trans e_451
          have kb_22 : bd 22 22 (22 : Int32) := ⟨by decide, by decide⟩
          have b_453 : bd 22 22 r_1 := eqX (eq_f e_451) b_144 kb_22 (by decide)
          refine lv_tableIn (off := 38) (tgt := 128) hx hb dX2_readStatement_90 (by decide) (by decide) rfl (by decide) ?_
          refine lv_aload_n hx hb dX2_readStatement_128 rfl (lv_at hl 1 rfl) ?_
          have kb_1201 : bd 1201 1201 (1201 : Int32) := ⟨by decide, by decide⟩
          have go_ := g
          refine g_callv (va_runV (As := []) (rest := []) ⟨hx, hb, hml, hown, hts⟩ (r_X2_readLet l dC dI L kd tys fr_446 H.size g.2.2.2.1 a0_ ma0_ ka0_ q0_ mq0_ kq0_ q1_ mq1_ kq1_ q2_ mq2_ kq2_ q3_ mq3_ kq3_ q8_ mq8_ kq8_ q9_ mq9_ kq9_ 1201 kb_1201 x_433 h_434 hG_450 (g.fcts [5, 6, 7, 8, 11, 12, 13, 14, 3, 4] rfl)) (cwV 0 hts (gV_ t_1363 t_1365 t_44 t_183 t_1366) rfl rfl rfl (by decide +kernel) ⟨(Nat.le_of_ble_eq_true rfl), (Nat.le_of_ble_eq_true rfl)⟩) (pre3V g hK ma0_ ka0_ (by decide) (q := (RX2, TX2, 16)) rfl) rfl rfl hl.1 rfl (lv_room (Nat.le_of_ble_eq_true rfl)) dX2_readStatement_129 ⟨(Nat.le_of_ble_eq_true rfl), (Nat.le_of_ble_eq_true rfl)⟩) g hK (by decide) (by decide) (fx' := [(7, 15, q3_, .int x_442), (6, 10, q5_, .int y_437), (8, 8, q0_, .int x_433), (2, 0, a0_, .ref q0_), (2, 1, a0_, .ref q1_), (2, 2, a0_, .ref q2_), (2, 3, a0_, .ref q3_), (2, 4, a0_, .ref q4_), (2, 5, a0_, .ref q5_), (0, 0, q2_, .ref q0_), (0, 1, q2_, .ref q1_), (5, 0, q1_, .ref q8_), (5, 1, q1_, .ref q9_)]) rfl (fun fr_454 H locs hp hMr_454 g => ?_)
          obtain ⟨x_455, h_456, x_457, h_458, hF_459⟩ := hp
          have hG_460 := eOK.frame hMr_454 go_.2.2.2.1 mq2_ kq2_ (by decide) (by decide) hG_450
          have g := g.more hF_459
          refine lv_goto (tgt := 191) hx hb dX2_readStatement_132 (by decide) ?_
          subst hQ
          exact W.vret hx hb hr (fun t ht hW => ⟨⟨_, rfl, Or.inr (⟨hG_460, x_455, h_456, x_457, h_458, x_433, h_434, (g.fcts [0, 1, 10] rfl)⟩), q3_of g hK ht hW⟩, g.2.2.1.F ht⟩) g.2.2.1.2.2 dX2_readStatement_191
        by_cases e_461 : r_1 = 23
        · refine lv_topi (fun z_462 ez_462 => ?_)
          obtain rfl : z_462 = 23 := ez_462.trans e_461
          have kb_23 : bd 23 23 (23 : Int32) := ⟨by decide, by decide⟩
          have b_463 : bd 23 23 r_1 := eqX (eq_f e_461) b_144 kb_23 (by decide)
          refine lv_tableIn (off := 45) (tgt := 135) hx hb dX2_readStatement_90 (by decide) (by decide) rfl (by decide) ?_
          refine lv_aload_n hx hb dX2_readStatement_135 rfl (lv_at hl 1 rfl) ?_
          refine lv_iload_n hx hb dX2_readStatement_136 rfl (lv_at hl 0 rfl) ?_
          have kb_1201 : bd 1201 1201 (1201 : Int32) := ⟨by decide, by decide⟩
          have go_ := g
          refine g_callv (va_runV (As := [.int r_1]) (rest := []) ⟨hx, hb, hml, hown, hts⟩ (r_X2_readTest l dC dI L kd tys fr_446 H.size g.2.2.2.1 a0_ ma0_ ka0_ r_1 q0_ mq0_ kq0_ q1_ mq1_ kq1_ q2_ mq2_ kq2_ q3_ mq3_ kq3_ q8_ mq8_ kq8_ q9_ mq9_ kq9_ 1201 kb_1201 x_433 h_434 hG_450 (g.fcts [5, 6, 7, 8, 11, 12, 13, 14, 3, 4] rfl)) (cwV 1 hts (gV_ t_1367 t_1369 t_45 t_183 t_1370) rfl rfl rfl (by decide +kernel) ⟨(Nat.le_of_ble_eq_true rfl), (Nat.le_of_ble_eq_true rfl)⟩) (pre3V g hK ma0_ ka0_ (by decide) (q := (RX2, TX2, 16)) rfl) rfl rfl hl.1 rfl (lv_room (Nat.le_of_ble_eq_true rfl)) dX2_readStatement_137 ⟨(Nat.le_of_ble_eq_true rfl), (Nat.le_of_ble_eq_true rfl)⟩) g hK (by decide) (by decide) (fx' := [(7, 15, q3_, .int x_442), (6, 10, q5_, .int y_437), (8, 8, q0_, .int x_433), (2, 0, a0_, .ref q0_), (2, 1, a0_, .ref q1_), (2, 2, a0_, .ref q2_), (2, 3, a0_, .ref q3_), (2, 4, a0_, .ref q4_), (2, 5, a0_, .ref q5_), (0, 0, q2_, .ref q0_), (0, 1, q2_, .ref q1_), (5, 0, q1_, .ref q8_), (5, 1, q1_, .ref q9_)]) rfl (fun fr_464 H locs hp hMr_464 g => ?_)
          obtain ⟨x_465, h_466, hF_467⟩ := hp
          have hG_468 := eOK.frame hMr_464 go_.2.2.2.1 mq2_ kq2_ (by decide) (by decide) hG_450
          have g := g.more hF_467
          refine lv_goto (tgt := 191) hx hb dX2_readStatement_140 (by decide) ?_
          subst hQ
          exact W.vret hx hb hr (fun t ht hW => ⟨⟨_, rfl, Or.inr (⟨hG_468, 1201, kb_1201, x_465, h_466, x_433, h_434, (g.fcts [0, 1, 10] rfl)⟩), q3_of g hK ht hW⟩, g.2.2.1.F ht⟩) g.2.2.1.2.2 dX2_readStatement_191
        by_cases e_469 : r_1 = 24
        · refine lv_topi (fun z_470 ez_470 => ?_)
          obtain rfl : z_470 = 24 := ez_470.trans e_469
          have kb_24 : bd 24 24 (24 : Int32) := ⟨by decide, by decide⟩
          have b_471 : bd 24 24 r_1 := eqX (eq_f e_469) b_144 kb_24 (by decide)
          refine lv_tableIn (off := 67) (tgt := 157) hx hb dX2_readStatement_90 (by decide) (by decide) rfl (by decide) ?_
          refine lv_iload_n hx hb dX2_readStatement_157 rfl (lv_at hl 0 rfl) ?_
          refine lv_bipush (v := 11) hx hb dX2_readStatement_158 (by decide) ?_
          have kb_11 : bd 11 11 (11 : Int32) := ⟨by decide, by decide⟩
          refine lv_icmp_ne (tgt := 173) hx hb dX2_readStatement_160 (by decide) (fun c_472 => ?_) (fun c_472 => ?_)
          · have fc_472 := neq_f c_472
            refine lv_aload_n hx hb dX2_readStatement_173 rfl (lv_at hl 1 rfl) ?_
            have kb_1201 : bd 1201 1201 (1201 : Int32) := ⟨by decide, by decide⟩
            have go_ := g
            refine g_calli (va_runV (As := []) (rest := []) ⟨hx, hb, hml, hown, hts⟩ (r_X2_findNamed l dC dI L kd tys fr_446 H.size g.2.2.2.1 a0_ ma0_ ka0_ q0_ mq0_ kq0_ q1_ mq1_ kq1_ q3_ mq3_ kq3_ q4_ mq4_ kq4_ q9_ mq9_ kq9_ 1201 kb_1201 x_433 h_434 (g.fcts [5, 6, 8, 9, 14, 3, 4] rfl)) (cwV 0 hts (gV_ t_1388 t_1390 t_49 t_183 t_1391) rfl rfl rfl (by decide +kernel) ⟨(Nat.le_of_ble_eq_true rfl), (Nat.le_of_ble_eq_true rfl)⟩) (pre3V g hK ma0_ ka0_ (by decide) (q := (RX2, TX2, 16)) rfl) rfl rfl hl.1 rfl (lv_room (Nat.le_of_ble_eq_true rfl)) dX2_readStatement_174 ⟨(Nat.le_of_ble_eq_true rfl), (Nat.le_of_ble_eq_true rfl)⟩) g hK (by decide) (by decide) (fx' := [(7, 6, q3_, .int x_447), (7, 15, q3_, .int x_442), (6, 10, q5_, .int y_437), (8, 8, q0_, .int x_433), (2, 0, a0_, .ref q0_), (2, 1, a0_, .ref q1_), (2, 2, a0_, .ref q2_), (2, 3, a0_, .ref q3_), (2, 4, a0_, .ref q4_), (2, 5, a0_, .ref q5_), (0, 0, q2_, .ref q0_), (0, 1, q2_, .ref q1_), (5, 0, q1_, .ref q8_), (5, 1, q1_, .ref q9_)]) rfl (fun r_473 fr_473 H locs hp hMr_473 g => ?_)
            obtain ⟨h_474, x_475, h_476, hF_477⟩ := hp
            have hG_478 := eOK.frame hMr_473 go_.2.2.2.1 mq2_ kq2_ (by decide) (by decide) hG_450
            have g := g.more hF_477
            have kb_0 : bd 0 0 (0 : Int32) := ⟨by decide, by decide⟩
            refine lv_if_eq (tgt := 187) hx hb dX2_readStatement_177 (by decide) (fun c_479 => ?_) (fun c_479 => ?_)
            · have fc_479 := eq_f c_479
              have b_480 : bd 0 0 r_473 := eqX fc_479 h_474 kb_0 (by decide)
              refine lv_aload_n hx hb dX2_readStatement_187 rfl (lv_at hl 1 rfl) ?_
              have go_ := g
              refine g_callv (va_runV (As := []) (rest := []) ⟨hx, hb, hml, hown, hts⟩ (r_X2_readAssignment l dC dI L kd tys fr_473 H.size g.2.2.2.1 a0_ ma0_ ka0_ q0_ mq0_ kq0_ q1_ mq1_ kq1_ q2_ mq2_ kq2_ q3_ mq3_ kq3_ q4_ mq4_ kq4_ q8_ mq8_ kq8_ q9_ mq9_ kq9_ x_475 h_476 x_433 h_434 hG_478 (g.fcts [5, 6, 7, 8, 9, 11, 12, 13, 14, 0, 4] rfl)) (cwV 0 hts (gV_ t_1397 t_1399 t_51 t_183 t_1400) rfl rfl rfl (by decide +kernel) ⟨(Nat.le_of_ble_eq_true rfl), (Nat.le_of_ble_eq_true rfl)⟩) (pre3V g hK ma0_ ka0_ (by decide) (q := (RX2, TX2, 16)) rfl) rfl rfl hl.1 rfl (lv_room (Nat.le_of_ble_eq_true rfl)) dX2_readStatement_188 ⟨(Nat.le_of_ble_eq_true rfl), (Nat.le_of_ble_eq_true rfl)⟩) g hK (by decide) (by decide) (fx' := [(7, 15, q3_, .int x_442), (6, 10, q5_, .int y_437), (8, 8, q0_, .int x_433), (2, 0, a0_, .ref q0_), (2, 1, a0_, .ref q1_), (2, 2, a0_, .ref q2_), (2, 3, a0_, .ref q3_), (2, 4, a0_, .ref q4_), (2, 5, a0_, .ref q5_), (0, 0, q2_, .ref q0_), (0, 1, q2_, .ref q1_), (5, 0, q1_, .ref q8_), (5, 1, q1_, .ref q9_)]) rfl (fun fr_481 H locs hp hMr_481 g => ?_)
              obtain ⟨x_482, h_483, x_484, h_485, hF_486⟩ := hp
              have hG_487 := eOK.frame hMr_481 go_.2.2.2.1 mq2_ kq2_ (by decide) (by decide) hG_478
              have g := g.more hF_486
              subst hQ
              exact W.vret hx hb hr (fun t ht hW => ⟨⟨_, rfl, Or.inr (⟨hG_487, x_482, h_483, x_484, h_485, x_433, h_434, (g.fcts [0, 1, 10] rfl)⟩), q3_of g hK ht hW⟩, g.2.2.1.F ht⟩) g.2.2.1.2.2 dX2_readStatement_191
            · have fc_479 := neq_f c_479
              have b_488 : bd 1 1 r_473 := neX fc_479 h_474 kb_0 (by decide)
              refine lv_aload_n hx hb dX2_readStatement_180 rfl (lv_at hl 1 rfl) ?_
              have go_ := g
              refine g_callv (va_runV (As := []) (rest := []) ⟨hx, hb, hml, hown, hts⟩ (r_X2_readArguments_3 l dC dI L kd tys fr_473 H.size g.2.2.2.1 a0_ ma0_ ka0_ q0_ mq0_ kq0_ q1_ mq1_ kq1_ q2_ mq2_ kq2_ q3_ mq3_ kq3_ q8_ mq8_ kq8_ q9_ mq9_ kq9_ x_475 h_476 x_433 h_434 hG_478 (g.fcts [5, 6, 7, 8, 11, 12, 13, 14, 0, 4] rfl)) (cwV 0 hts (gV_ t_1393 t_1395 t_50 t_183 t_1396) rfl rfl rfl (by decide +kernel) ⟨(Nat.le_of_ble_eq_true rfl), (Nat.le_of_ble_eq_true rfl)⟩) (pre3V g hK ma0_ ka0_ (by decide) (q := (RX2, TX2, 16)) rfl) rfl rfl hl.1 rfl (lv_room (Nat.le_of_ble_eq_true rfl)) dX2_readStatement_181 ⟨(Nat.le_of_ble_eq_true rfl), (Nat.le_of_ble_eq_true rfl)⟩) g hK (by decide) (by decide) (fx' := [(7, 15, q3_, .int x_442), (6, 10, q5_, .int y_437), (8, 8, q0_, .int x_433), (2, 0, a0_, .ref q0_), (2, 1, a0_, .ref q1_), (2, 2, a0_, .ref q2_), (2, 3, a0_, .ref q3_), (2, 4, a0_, .ref q4_), (2, 5, a0_, .ref q5_), (0, 0, q2_, .ref q0_), (0, 1, q2_, .ref q1_), (5, 0, q1_, .ref q8_), (5, 1, q1_, .ref q9_)]) rfl (fun fr_489 H locs hp hMr_489 g => ?_)
              obtain ⟨x_490, h_491, x_492, h_493, hF_494⟩ := hp
              have hG_495 := eOK.frame hMr_489 go_.2.2.2.1 mq2_ kq2_ (by decide) (by decide) hG_478
              have g := g.more hF_494
              refine lv_goto (tgt := 191) hx hb dX2_readStatement_184 (by decide) ?_
              subst hQ
              exact W.vret hx hb hr (fun t ht hW => ⟨⟨_, rfl, Or.inr (⟨hG_495, x_490, h_491, x_492, h_493, x_433, h_434, (g.fcts [0, 1, 4] rfl)⟩), q3_of g hK ht hW⟩, g.2.2.1.F ht⟩) g.2.2.1.2.2 dX2_readStatement_191
          · have fc_472 := eq_f c_472
            have b_496 : bd 24 11 r_1 := eqX fc_472 b_471 kb_11 (by decide)
            exact bd_no b_496 (by decide)
        by_cases e_497 : r_1 = 25
        · refine lv_topi (fun z_498 ez_498 => ?_)
          obtain rfl : z_498 = 25 := ez_498.trans e_497
          have kb_25 : bd 25 25 (25 : Int32) := ⟨by decide, by decide⟩
          have b_499 : bd 25 25 r_1 := eqX (eq_f e_497) b_144 kb_25 (by decide)
          refine lv_tableIn (off := 45) (tgt := 135) hx hb dX2_readStatement_90 (by decide) (by decide) rfl (by decide) ?_
          refine lv_aload_n hx hb dX2_readStatement_135 rfl (lv_at hl 1 rfl) ?_
          refine lv_iload_n hx hb dX2_readStatement_136 rfl (lv_at hl 0 rfl) ?_
          have kb_1201 : bd 1201 1201 (1201 : Int32) := ⟨by decide, by decide⟩
          have go_ := g
          refine g_callv (va_runV (As := [.int r_1]) (rest := []) ⟨hx, hb, hml, hown, hts⟩ (r_X2_readTest l dC dI L kd tys fr_446 H.size g.2.2.2.1 a0_ ma0_ ka0_ r_1 q0_ mq0_ kq0_ q1_ mq1_ kq1_ q2_ mq2_ kq2_ q3_ mq3_ kq3_ q8_ mq8_ kq8_ q9_ mq9_ kq9_ 1201 kb_1201 x_433 h_434 hG_450 (g.fcts [5, 6, 7, 8, 11, 12, 13, 14, 3, 4] rfl)) (cwV 1 hts (gV_ t_1367 t_1369 t_45 t_183 t_1370) rfl rfl rfl (by decide +kernel) ⟨(Nat.le_of_ble_eq_true rfl), (Nat.le_of_ble_eq_true rfl)⟩) (pre3V g hK ma0_ ka0_ (by decide) (q := (RX2, TX2, 16)) rfl) rfl rfl hl.1 rfl (lv_room (Nat.le_of_ble_eq_true rfl)) dX2_readStatement_137 ⟨(Nat.le_of_ble_eq_true rfl), (Nat.le_of_ble_eq_true rfl)⟩) g hK (by decide) (by decide) (fx' := [(7, 15, q3_, .int x_442), (6, 10, q5_, .int y_437), (8, 8, q0_, .int x_433), (2, 0, a0_, .ref q0_), (2, 1, a0_, .ref q1_), (2, 2, a0_, .ref q2_), (2, 3, a0_, .ref q3_), (2, 4, a0_, .ref q4_), (2, 5, a0_, .ref q5_), (0, 0, q2_, .ref q0_), (0, 1, q2_, .ref q1_), (5, 0, q1_, .ref q8_), (5, 1, q1_, .ref q9_)]) rfl (fun fr_500 H locs hp hMr_500 g => ?_)
          obtain ⟨x_501, h_502, hF_503⟩ := hp
          have hG_504 := eOK.frame hMr_500 go_.2.2.2.1 mq2_ kq2_ (by decide) (by decide) hG_450
          have g := g.more hF_503
          refine lv_goto (tgt := 191) hx hb dX2_readStatement_140 (by decide) ?_
          subst hQ
          exact W.vret hx hb hr (fun t ht hW => ⟨⟨_, rfl, Or.inr (⟨hG_504, 1201, kb_1201, x_501, h_502, x_433, h_434, (g.fcts [0, 1, 10] rfl)⟩), q3_of g hK ht hW⟩, g.2.2.1.F ht⟩) g.2.2.1.2.2 dX2_readStatement_191
        by_cases e_505 : r_1 = 26
        · refine lv_topi (fun z_506 ez_506 => ?_)
          obtain rfl : z_506 = 26 := ez_506.trans e_505
          have kb_26 : bd 26 26 (26 : Int32) := ⟨by decide, by decide⟩
          have b_507 : bd 26 26 r_1 := eqX (eq_f e_505) b_144 kb_26 (by decide)
          refine lv_tableIn (off := 53) (tgt := 143) hx hb dX2_readStatement_90 (by decide) (by decide) rfl (by decide) ?_
          refine lv_aload_n hx hb dX2_readStatement_143 rfl (lv_at hl 1 rfl) ?_
          have kb_1201 : bd 1201 1201 (1201 : Int32) := ⟨by decide, by decide⟩
          have go_ := g
          refine g_callv (va_runV (As := []) (rest := []) ⟨hx, hb, hml, hown, hts⟩ (r_X2_readReturn l dC dI L kd tys fr_446 H.size g.2.2.2.1 a0_ ma0_ ka0_ q0_ mq0_ kq0_ q1_ mq1_ kq1_ q2_ mq2_ kq2_ q3_ mq3_ kq3_ q8_ mq8_ kq8_ q9_ mq9_ kq9_ 1201 kb_1201 x_433 h_434 hG_450 (g.fcts [5, 6, 7, 8, 11, 12, 13, 14, 3, 4] rfl)) (cwV 0 hts (gV_ t_1371 t_1373 t_46 t_183 t_1374) rfl rfl rfl (by decide +kernel) ⟨(Nat.le_of_ble_eq_true rfl), (Nat.le_of_ble_eq_true rfl)⟩) (pre3V g hK ma0_ ka0_ (by decide) (q := (RX2, TX2, 16)) rfl) rfl rfl hl.1 rfl (lv_room (Nat.le_of_ble_eq_true rfl)) dX2_readStatement_144 ⟨(Nat.le_of_ble_eq_true rfl), (Nat.le_of_ble_eq_true rfl)⟩) g hK (by decide) (by decide) (fx' := [(7, 15, q3_, .int x_442), (6, 10, q5_, .int y_437), (8, 8, q0_, .int x_433), (2, 0, a0_, .ref q0_), (2, 1, a0_, .ref q1_), (2, 2, a0_, .ref q2_), (2, 3, a0_, .ref q3_), (2, 4, a0_, .ref q4_), (2, 5, a0_, .ref q5_), (0, 0, q2_, .ref q0_), (0, 1, q2_, .ref q1_), (5, 0, q1_, .ref q8_), (5, 1, q1_, .ref q9_)]) rfl (fun fr_508 H locs hp hMr_508 g => ?_)
          obtain ⟨x_509, h_510, x_511, h_512, hF_513⟩ := hp
          have hG_514 := eOK.frame hMr_508 go_.2.2.2.1 mq2_ kq2_ (by decide) (by decide) hG_450
          have g := g.more hF_513
          refine lv_goto (tgt := 191) hx hb dX2_readStatement_147 (by decide) ?_
          subst hQ
          exact W.vret hx hb hr (fun t ht hW => ⟨⟨_, rfl, Or.inr (⟨hG_514, x_509, h_510, x_511, h_512, x_433, h_434, (g.fcts [0, 1, 10] rfl)⟩), q3_of g hK ht hW⟩, g.2.2.1.F ht⟩) g.2.2.1.2.2 dX2_readStatement_191
        by_cases e_515 : r_1 = 27
        · refine lv_topi (fun z_516 ez_516 => ?_)
          obtain rfl : z_516 = 27 := ez_516.trans e_515
          have kb_27 : bd 27 27 (27 : Int32) := ⟨by decide, by decide⟩
          have b_517 : bd 27 27 r_1 := eqX (eq_f e_515) b_144 kb_27 (by decide)
          refine lv_tableIn (off := 60) (tgt := 150) hx hb dX2_readStatement_90 (by decide) (by decide) rfl (by decide) ?_
          refine lv_aload_n hx hb dX2_readStatement_150 rfl (lv_at hl 1 rfl) ?_
          have kb_1201 : bd 1201 1201 (1201 : Int32) := ⟨by decide, by decide⟩
          have go_ := g
          refine g_callv (va_runV (As := []) (rest := []) ⟨hx, hb, hml, hown, hts⟩ (r_X2_readThrow l dC dI L kd tys fr_446 H.size g.2.2.2.1 a0_ ma0_ ka0_ q0_ mq0_ kq0_ q3_ mq3_ kq3_ 1201 kb_1201 x_433 h_434 (g.fcts [5, 8, 3, 4] rfl)) (cwV 0 hts (gV_ t_1375 t_1377 t_47 t_183 t_1378) rfl rfl rfl (by decide +kernel) ⟨(Nat.le_of_ble_eq_true rfl), (Nat.le_of_ble_eq_true rfl)⟩) (pre3V g hK ma0_ ka0_ (by decide) (q := (RX2, TX2, 16)) rfl) rfl rfl hl.1 rfl (lv_room (Nat.le_of_ble_eq_true rfl)) dX2_readStatement_151 ⟨(Nat.le_of_ble_eq_true rfl), (Nat.le_of_ble_eq_true rfl)⟩) g hK (by decide) (by decide) (fx' := [(7, 15, q3_, .int x_442), (6, 10, q5_, .int y_437), (8, 8, q0_, .int x_433), (2, 0, a0_, .ref q0_), (2, 1, a0_, .ref q1_), (2, 2, a0_, .ref q2_), (2, 3, a0_, .ref q3_), (2, 4, a0_, .ref q4_), (2, 5, a0_, .ref q5_), (0, 0, q2_, .ref q0_), (0, 1, q2_, .ref q1_), (5, 0, q1_, .ref q8_), (5, 1, q1_, .ref q9_)]) rfl (fun fr_518 H locs hp hMr_518 g => ?_)
          obtain ⟨x_519, h_520, x_521, h_522, x_523, h_524, hF_525⟩ := hp
          have hG_526 := eOK.frame hMr_518 go_.2.2.2.1 mq2_ kq2_ (by decide) (by decide) hG_450
          have g := g.more hF_525
          refine lv_goto (tgt := 191) hx hb dX2_readStatement_154 (by decide) ?_
          subst hQ
          exact W.vret hx hb hr (fun t ht hW => ⟨⟨_, rfl, Or.inr (⟨hG_526, x_519, h_520, x_521, h_522, x_433, h_434, (g.fcts [0, 1, 5] rfl)⟩), q3_of g hK ht hW⟩, g.2.2.1.F ht⟩) g.2.2.1.2.2 dX2_readStatement_191
        refine lv_tableOut (tgt := 157) hx hb dX2_readStatement_90 (by have a0 : r_1.toInt ≠ 22 := fun h => e_451 (Int32.toInt_inj.mp (h.trans (by decide))); have a1 : r_1.toInt ≠ 23 := fun h => e_461 (Int32.toInt_inj.mp (h.trans (by decide))); have a2 : r_1.toInt ≠ 24 := fun h => e_469 (Int32.toInt_inj.mp (h.trans (by decide))); have a3 : r_1.toInt ≠ 25 := fun h => e_497 (Int32.toInt_inj.mp (h.trans (by decide))); have a4 : r_1.toInt ≠ 26 := fun h => e_505 (Int32.toInt_inj.mp (h.trans (by decide))); have a5 : r_1.toInt ≠ 27 := fun h => e_515 (Int32.toInt_inj.mp (h.trans (by decide))); omega) (by decide) ?_
        refine lv_iload_n hx hb dX2_readStatement_157 rfl (lv_at hl 0 rfl) ?_
        refine lv_bipush (v := 11) hx hb dX2_readStatement_158 (by decide) ?_
        have kb_11 : bd 11 11 (11 : Int32) := ⟨by decide, by decide⟩
        refine lv_icmp_ne (tgt := 173) hx hb dX2_readStatement_160 (by decide) (fun c_527 => ?_) (fun c_527 => ?_)
        · have fc_527 := neq_f c_527
          refine lv_aload_n hx hb dX2_readStatement_173 rfl (lv_at hl 1 rfl) ?_
          have kb_1201 : bd 1201 1201 (1201 : Int32) := ⟨by decide, by decide⟩
          have go_ := g
          refine g_calli (va_runV (As := []) (rest := []) ⟨hx, hb, hml, hown, hts⟩ (r_X2_findNamed l dC dI L kd tys fr_446 H.size g.2.2.2.1 a0_ ma0_ ka0_ q0_ mq0_ kq0_ q1_ mq1_ kq1_ q3_ mq3_ kq3_ q4_ mq4_ kq4_ q9_ mq9_ kq9_ 1201 kb_1201 x_433 h_434 (g.fcts [5, 6, 8, 9, 14, 3, 4] rfl)) (cwV 0 hts (gV_ t_1388 t_1390 t_49 t_183 t_1391) rfl rfl rfl (by decide +kernel) ⟨(Nat.le_of_ble_eq_true rfl), (Nat.le_of_ble_eq_true rfl)⟩) (pre3V g hK ma0_ ka0_ (by decide) (q := (RX2, TX2, 16)) rfl) rfl rfl hl.1 rfl (lv_room (Nat.le_of_ble_eq_true rfl)) dX2_readStatement_174 ⟨(Nat.le_of_ble_eq_true rfl), (Nat.le_of_ble_eq_true rfl)⟩) g hK (by decide) (by decide) (fx' := [(7, 6, q3_, .int x_447), (7, 15, q3_, .int x_442), (6, 10, q5_, .int y_437), (8, 8, q0_, .int x_433), (2, 0, a0_, .ref q0_), (2, 1, a0_, .ref q1_), (2, 2, a0_, .ref q2_), (2, 3, a0_, .ref q3_), (2, 4, a0_, .ref q4_), (2, 5, a0_, .ref q5_), (0, 0, q2_, .ref q0_), (0, 1, q2_, .ref q1_), (5, 0, q1_, .ref q8_), (5, 1, q1_, .ref q9_)]) rfl (fun r_528 fr_528 H locs hp hMr_528 g => ?_)
          obtain ⟨h_529, x_530, h_531, hF_532⟩ := hp
          have hG_533 := eOK.frame hMr_528 go_.2.2.2.1 mq2_ kq2_ (by decide) (by decide) hG_450
          have g := g.more hF_532
          have kb_0 : bd 0 0 (0 : Int32) := ⟨by decide, by decide⟩
          refine lv_if_eq (tgt := 187) hx hb dX2_readStatement_177 (by decide) (fun c_534 => ?_) (fun c_534 => ?_)
          · have fc_534 := eq_f c_534
            have b_535 : bd 0 0 r_528 := eqX fc_534 h_529 kb_0 (by decide)
            refine lv_aload_n hx hb dX2_readStatement_187 rfl (lv_at hl 1 rfl) ?_
            have go_ := g
            refine g_callv (va_runV (As := []) (rest := []) ⟨hx, hb, hml, hown, hts⟩ (r_X2_readAssignment l dC dI L kd tys fr_528 H.size g.2.2.2.1 a0_ ma0_ ka0_ q0_ mq0_ kq0_ q1_ mq1_ kq1_ q2_ mq2_ kq2_ q3_ mq3_ kq3_ q4_ mq4_ kq4_ q8_ mq8_ kq8_ q9_ mq9_ kq9_ x_530 h_531 x_433 h_434 hG_533 (g.fcts [5, 6, 7, 8, 9, 11, 12, 13, 14, 0, 4] rfl)) (cwV 0 hts (gV_ t_1397 t_1399 t_51 t_183 t_1400) rfl rfl rfl (by decide +kernel) ⟨(Nat.le_of_ble_eq_true rfl), (Nat.le_of_ble_eq_true rfl)⟩) (pre3V g hK ma0_ ka0_ (by decide) (q := (RX2, TX2, 16)) rfl) rfl rfl hl.1 rfl (lv_room (Nat.le_of_ble_eq_true rfl)) dX2_readStatement_188 ⟨(Nat.le_of_ble_eq_true rfl), (Nat.le_of_ble_eq_true rfl)⟩) g hK (by decide) (by decide) (fx' := [(7, 15, q3_, .int x_442), (6, 10, q5_, .int y_437), (8, 8, q0_, .int x_433), (2, 0, a0_, .ref q0_), (2, 1, a0_, .ref q1_), (2, 2, a0_, .ref q2_), (2, 3, a0_, .ref q3_), (2, 4, a0_, .ref q4_), (2, 5, a0_, .ref q5_), (0, 0, q2_, .ref q0_), (0, 1, q2_, .ref q1_), (5, 0, q1_, .ref q8_), (5, 1, q1_, .ref q9_)]) rfl (fun fr_536 H locs hp hMr_536 g => ?_)
            obtain ⟨x_537, h_538, x_539, h_540, hF_541⟩ := hp
            have hG_542 := eOK.frame hMr_536 go_.2.2.2.1 mq2_ kq2_ (by decide) (by decide) hG_533
            have g := g.more hF_541
            subst hQ
            exact W.vret hx hb hr (fun t ht hW => ⟨⟨_, rfl, Or.inr (⟨hG_542, x_537, h_538, x_539, h_540, x_433, h_434, (g.fcts [0, 1, 10] rfl)⟩), q3_of g hK ht hW⟩, g.2.2.1.F ht⟩) g.2.2.1.2.2 dX2_readStatement_191
          · have fc_534 := neq_f c_534
            have b_543 : bd 1 1 r_528 := neX fc_534 h_529 kb_0 (by decide)
            refine lv_aload_n hx hb dX2_readStatement_180 rfl (lv_at hl 1 rfl) ?_
            have go_ := g
            refine g_callv (va_runV (As := []) (rest := []) ⟨hx, hb, hml, hown, hts⟩ (r_X2_readArguments_3 l dC dI L kd tys fr_528 H.size g.2.2.2.1 a0_ ma0_ ka0_ q0_ mq0_ kq0_ q1_ mq1_ kq1_ q2_ mq2_ kq2_ q3_ mq3_ kq3_ q8_ mq8_ kq8_ q9_ mq9_ kq9_ x_530 h_531 x_433 h_434 hG_533 (g.fcts [5, 6, 7, 8, 11, 12, 13, 14, 0, 4] rfl)) (cwV 0 hts (gV_ t_1393 t_1395 t_50 t_183 t_1396) rfl rfl rfl (by decide +kernel) ⟨(Nat.le_of_ble_eq_true rfl), (Nat.le_of_ble_eq_true rfl)⟩) (pre3V g hK ma0_ ka0_ (by decide) (q := (RX2, TX2, 16)) rfl) rfl rfl hl.1 rfl (lv_room (Nat.le_of_ble_eq_true rfl)) dX2_readStatement_181 ⟨(Nat.le_of_ble_eq_true rfl), (Nat.le_of_ble_eq_true rfl)⟩) g hK (by decide) (by decide) (fx' := [(7, 15, q3_, .int x_442), (6, 10, q5_, .int y_437), (8, 8, q0_, .int x_433), (2, 0, a0_, .ref q0_), (2, 1, a0_, .ref q1_), (2, 2, a0_, .ref q2_), (2, 3, a0_, .ref q3_), (2, 4, a0_, .ref q4_), (2, 5, a0_, .ref q5_), (0, 0, q2_, .ref q0_), (0, 1, q2_, .ref q1_), (5, 0, q1_, .ref q8_), (5, 1, q1_, .ref q9_)]) rfl (fun fr_544 H locs hp hMr_544 g => ?_)
            obtain ⟨x_545, h_546, x_547, h_548, hF_549⟩ := hp
            have hG_550 := eOK.frame hMr_544 go_.2.2.2.1 mq2_ kq2_ (by decide) (by decide) hG_533
            have g := g.more hF_549
            refine lv_goto (tgt := 191) hx hb dX2_readStatement_184 (by decide) ?_
            subst hQ
            exact W.vret hx hb hr (fun t ht hW => ⟨⟨_, rfl, Or.inr (⟨hG_550, x_545, h_546, x_547, h_548, x_433, h_434, (g.fcts [0, 1, 4] rfl)⟩), q3_of g hK ht hW⟩, g.2.2.1.F ht⟩) g.2.2.1.2.2 dX2_readStatement_191
        · have fc_527 := eq_f c_527
          have b_551 : bd 11 11 r_1 := eqX fc_527 b_144 kb_11 (by decide)
          refine lv_aload_n hx hb dX2_readStatement_163 rfl (lv_at hl 1 rfl) ?_
          have kb_1201 : bd 1201 1201 (1201 : Int32) := ⟨by decide, by decide⟩
          have go_ := g
          refine g_calli (va_runV (As := []) (rest := []) ⟨hx, hb, hml, hown, hts⟩ (r_X2_findAbove l dC dI L kd tys fr_446 H.size g.2.2.2.1 a0_ ma0_ ka0_ q0_ mq0_ kq0_ q3_ mq3_ kq3_ q4_ mq4_ kq4_ 1201 kb_1201 x_433 h_434 (g.fcts [5, 8, 9, 3, 4] rfl)) (cwV 0 hts (gV_ t_1383 t_1385 t_48 t_183 t_1386) rfl rfl rfl (by decide +kernel) ⟨(Nat.le_of_ble_eq_true rfl), (Nat.le_of_ble_eq_true rfl)⟩) (pre3V g hK ma0_ ka0_ (by decide) (q := (RX2, TX2, 16)) rfl) rfl rfl hl.1 rfl (lv_room (Nat.le_of_ble_eq_true rfl)) dX2_readStatement_164 ⟨(Nat.le_of_ble_eq_true rfl), (Nat.le_of_ble_eq_true rfl)⟩) g hK (by decide) (by decide) (fx' := [(7, 6, q3_, .int x_447), (7, 15, q3_, .int x_442), (6, 10, q5_, .int y_437), (8, 8, q0_, .int x_433), (2, 0, a0_, .ref q0_), (2, 1, a0_, .ref q1_), (2, 2, a0_, .ref q2_), (2, 3, a0_, .ref q3_), (2, 4, a0_, .ref q4_), (2, 5, a0_, .ref q5_), (0, 0, q2_, .ref q0_), (0, 1, q2_, .ref q1_), (5, 0, q1_, .ref q8_), (5, 1, q1_, .ref q9_)]) rfl (fun r_552 fr_552 H locs hp hMr_552 g => ?_)
          obtain ⟨h_553, hF_554⟩ := hp
          have hG_555 := eOK.frame hMr_552 go_.2.2.2.1 mq2_ kq2_ (by decide) (by decide) hG_450
          obtain rfl : r_552 = 1 := h_553
          have g := g.more hF_554
          refine lv_if_eq (tgt := 187) hx hb dX2_readStatement_167 (by decide) (fun c_ => absurd c_ (by decide)) (fun c_ => ?_)
          refine lv_goto (tgt := 180) hx hb dX2_readStatement_170 (by decide) ?_
          refine lv_aload_n hx hb dX2_readStatement_180 rfl (lv_at hl 1 rfl) ?_
          have go_ := g
          refine g_callv (va_runV (As := []) (rest := []) ⟨hx, hb, hml, hown, hts⟩ (r_X2_readArguments_3 l dC dI L kd tys fr_552 H.size g.2.2.2.1 a0_ ma0_ ka0_ q0_ mq0_ kq0_ q1_ mq1_ kq1_ q2_ mq2_ kq2_ q3_ mq3_ kq3_ q8_ mq8_ kq8_ q9_ mq9_ kq9_ 1201 kb_1201 x_433 h_434 hG_555 (g.fcts [5, 6, 7, 8, 11, 12, 13, 14, 0, 4] rfl)) (cwV 0 hts (gV_ t_1393 t_1395 t_50 t_183 t_1396) rfl rfl rfl (by decide +kernel) ⟨(Nat.le_of_ble_eq_true rfl), (Nat.le_of_ble_eq_true rfl)⟩) (pre3V g hK ma0_ ka0_ (by decide) (q := (RX2, TX2, 16)) rfl) rfl rfl hl.1 rfl (lv_room (Nat.le_of_ble_eq_true rfl)) dX2_readStatement_181 ⟨(Nat.le_of_ble_eq_true rfl), (Nat.le_of_ble_eq_true rfl)⟩) g hK (by decide) (by decide) (fx' := [(7, 15, q3_, .int x_442), (6, 10, q5_, .int y_437), (8, 8, q0_, .int x_433), (2, 0, a0_, .ref q0_), (2, 1, a0_, .ref q1_), (2, 2, a0_, .ref q2_), (2, 3, a0_, .ref q3_), (2, 4, a0_, .ref q4_), (2, 5, a0_, .ref q5_), (0, 0, q2_, .ref q0_), (0, 1, q2_, .ref q1_), (5, 0, q1_, .ref q8_), (5, 1, q1_, .ref q9_)]) rfl (fun fr_556 H locs hp hMr_556 g => ?_)
          obtain ⟨x_557, h_558, x_559, h_560, hF_561⟩ := hp
          have hG_562 := eOK.frame hMr_556 go_.2.2.2.1 mq2_ kq2_ (by decide) (by decide) hG_555
          have g := g.more hF_561
          refine lv_goto (tgt := 191) hx hb dX2_readStatement_184 (by decide) ?_
          subst hQ
          exact W.vret hx hb hr (fun t ht hW => ⟨⟨_, rfl, Or.inr (⟨hG_562, x_557, h_558, x_559, h_560, x_433, h_434, (g.fcts [0, 1, 4] rfl)⟩), q3_of g hK ht hW⟩, g.2.2.1.F ht⟩) g.2.2.1.2.2 dX2_readStatement_191
  · have fc_3 := eq_f c_3
    have b_563 : bd 125 125 r_1 := eqX fc_3 (bdT r_1) kb_125 (by decide)
    refine lv_aload_n hx hb dX2_readStatement_14 rfl (lv_at hl 1 rfl) ?_
    have go_ := g
    refine g_callv (va_runV (As := []) (rest := []) ⟨hx, hb, hml, hown, hts⟩ (r_X2_closeBlock l dC dI L kd tys fr_1 H.size g.2.2.2.1 a0_ ma0_ ka0_ q0_ mq0_ kq0_ q3_ mq3_ kq3_ y0_ by0_ (g.fcts [0, 3, 10] rfl)) (cwV 0 hts (gV_ t_1346 t_1348 t_42 t_183 t_1349) rfl rfl rfl (by decide +kernel) ⟨(Nat.le_of_ble_eq_true rfl), (Nat.le_of_ble_eq_true rfl)⟩) (pre3V g hK ma0_ ka0_ (by decide) (q := (RX2, TX2, 16)) rfl) rfl rfl hl.1 rfl (lv_room (Nat.le_of_ble_eq_true rfl)) dX2_readStatement_15 ⟨(Nat.le_of_ble_eq_true rfl), (Nat.le_of_ble_eq_true rfl)⟩) g hK (by decide) (by decide) (fx' := [(2, 0, a0_, .ref q0_), (2, 1, a0_, .ref q1_), (2, 2, a0_, .ref q2_), (2, 3, a0_, .ref q3_), (2, 4, a0_, .ref q4_), (2, 5, a0_, .ref q5_), (0, 0, q2_, .ref q0_), (0, 1, q2_, .ref q1_), (5, 0, q1_, .ref q8_), (5, 1, q1_, .ref q9_)]) rfl (fun fr_564 H locs hp hMr_564 g => ?_)
    rcases hp with ⟨x_565, h_566, hF_567⟩ | ⟨x_568, h_569, x_570, h_571, hF_572⟩
    · have hG_573 := eOK.frame hMr_564 go_.2.2.2.1 mq2_ kq2_ (by decide) (by decide) hG_2
      have g := g.more hF_567
      subst hQ
      exact W.vret hx hb hr (fun t ht hW => ⟨⟨_, rfl, Or.inl ⟨hG_573, x_565, h_566, (g.fcts [0, 1] rfl)⟩, q3_of g hK ht hW⟩, g.2.2.1.F ht⟩) g.2.2.1.2.2 dX2_readStatement_18
    · have hG_574 := eOK.frame hMr_564 go_.2.2.2.1 mq2_ kq2_ (by decide) (by decide) hG_2
      have g := g.more hF_572
      have kb_1201 : bd 1201 1201 (1201 : Int32) := ⟨by decide, by decide⟩
      subst hQ
      exact W.vret hx hb hr (fun t ht hW => ⟨⟨_, rfl, Or.inr (⟨hG_574, 1201, kb_1201, x_570, h_571, x_568, h_569, (g.fcts [0, 2, 1] rfl)⟩), q3_of g hK ht hW⟩, g.2.2.1.F ht⟩) g.2.2.1.2.2 dX2_readStatement_18
