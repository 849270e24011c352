set_option maxHeartbeats 4000000 in
set_option maxRecDepth 100000 in
theorem r_X2_readStatement (l : Launch) (dC : Nat → ClassId) (dI : Nat → Nat → Nat) (L : List Nat) (kd : Nat → Nat) (tys : List (ClassId × FieldType)) (f0 : Nat → va_E) (sz : Nat) (hWT : WT L kd tys f0) (a0_ : Nat) (ma0_ : a0_ ∈ L) (ka0_ : kd a0_ = 2) (q0_ : Nat) (mq0_ : q0_ ∈ L) (kq0_ : kd q0_ = 8) (q1_ : Nat) (mq1_ : q1_ ∈ L) (kq1_ : kd q1_ = 5) (q2_ : Nat) (mq2_ : q2_ ∈ L) (kq2_ : kd q2_ = 0) (q3_ : Nat) (mq3_ : q3_ ∈ L) (kq3_ : kd q3_ = 7) (q4_ : Nat) (mq4_ : q4_ ∈ L) (kq4_ : kd q4_ = 9) (q5_ : Nat) (mq5_ : q5_ ∈ L) (kq5_ : kd q5_ = 6) (q8_ : Nat) (mq8_ : q8_ ∈ L) (kq8_ : kd q8_ = 7) (q9_ : Nat) (mq9_ : q9_ ∈ L) (kq9_ : kd q9_ = 9) (y0_ : Int32) (by0_ : bd 0 0 y0_) (hGeq2_ : eOK f0 q2_) (hfx : Fs L kd f0 [(2, 0, a0_, .ref q0_), (2, 1, a0_, .ref q1_), (2, 2, a0_, .ref q2_), (2, 3, a0_, .ref q3_), (2, 4, a0_, .ref q4_), (2, 5, a0_, .ref q5_), (0, 0, q2_, .ref q0_), (0, 1, q2_, .ref q1_), (5, 0, q1_, .ref q8_), (5, 1, q1_, .ref q9_), (8, 8, q0_, .int y0_)]) : Met l yX2_readStatement (.code yX2_readStatement cX2_readStatement 2 none :: lw_g) ({ frames := 5, cells := 0, slots := 0, locals := 122 }) (va_Pc [.ref a0_] (P3 (dC, dI) L tys f0 sz)) (va_Qv (fun (f : Nat → va_E) => (eOK f q2_ ∧ ∃ z0_ : Int32, bd 1 1201 z0_ ∧ ∃ z1_ : Int32, bd 0 0 z1_ ∧ Fs L kd f [(8, 6, q0_, .int z0_), (8, 8, q0_, .int z1_)]) ∨ (eOK f q2_ ∧ ∃ z0_ : Int32, bd 1201 1201 z0_ ∧ ∃ z1_ : Int32, bd 1 2000 z1_ ∧ ∃ z2_ : Int32, bd 1 7 z2_ ∧ Fs L kd f [(8, 6, q0_, .int z0_), (7, 6, q3_, .int z1_), (8, 8, q0_, .int z2_)])) (Q3 (dC, dI) L kd tys [(0, 2), (0, 8), (0, 10), (0, 11), (0, 12), (0, 13), (2, 11), (2, 12), (2, 13), (2, 14), (2, 15), (5, 6), (6, 10), (7, 6), (7, 15), (7, 17), (7, 18), (8, 6), (8, 8), (8, 9)] [110, 111, 112, 113, 114, 115, 118, 119, 120, 121, 133, 138, 139, 146, 147] f0 sz) (pA L sz)) 0 0 (pA L sz) := by
  refine Met.ofW (cc := cX2_readStatement) (maxL := 2) (ret := none) (by decide) rfl ?_
  intro p e s m args below meth c s₁ B hml hv
  obtain ⟨rfl, hsz, hP, hK, hD0⟩ := hv
  have hx := B.exec
  have hb := B.bytes
  have hr := B.returns
  have hts := atoms_spec (ws := (.code yX2_readStatement cX2_readStatement 2 none :: lw_g)) B.pre
  have hown : s.vm.findClass RX2 = some m.cls := findClass_of_methodNamed B.named
  have hlocks := B.notSynchronized
  subst hsz
  have g : G3 (dC, dI) L kd tys s f0 [(0, 2), (0, 8), (0, 10), (0, 11), (0, 12), (0, 13), (2, 11), (2, 12), (2, 13), (2, 14), (2, 15), (5, 6), (6, 10), (7, 6), (7, 15), (7, 17), (7, 18), (8, 6), (8, 8), (8, 9)] [110, 111, 112, 113, 114, 115, 118, 119, 120, 121, 133, 138, 139, 146, 147] f0 s.heap [] [(2, 0, a0_, .ref q0_), (2, 1, a0_, .ref q1_), (2, 2, a0_, .ref q2_), (2, 3, a0_, .ref q3_), (2, 4, a0_, .ref q4_), (2, 5, a0_, .ref q5_), (0, 0, q2_, .ref q0_), (0, 1, q2_, .ref q1_), (5, 0, q1_, .ref q8_), (5, 1, q1_, .ref q9_), (8, 8, q0_, .int y0_)] := G3.start hP hD0 hWT hfx
  have hl := lv_entry ([.ref a0_]) (n := 2) (Nat.le_of_ble_eq_true rfl)
  rw [lg_entry_eq]
  generalize (lg_sl ([.ref a0_]) ++ List.replicate (2 - (lg_sl ([.ref a0_])).length) Slot.unset).toArray = ls at hl ⊢
  have hl : lv_has ls 2 [(0, .ref a0_)] := hl
  refine W_q (fun Q hQ => ?_)
  refine lv_aload_n hx hb dX2_readStatement_0 rfl (lv_at hl 0 rfl) ?_
  refine g_getk (C := RX2) (T := TX2) (N := 16) hx hb hts (mc_ inX2) hown hK g rfl 0 (by decide) rfl (hts _ (List.mem_cons_of_mem _ t_416)) (fun _ h9 => h9) 0 rfl dX2_readStatement_1 ?_
  have go_ := g
  refine g_calli (va_runV (As := []) (rest := []) ⟨hx, hb, hml, hown, hts⟩ (r_X8_kind l dC dI L kd tys f0 s.heap.size g.2.2.2.1 q0_ mq0_ kq0_) (cwV 0 hts (gV_ t_1118 t_1119 t_1120 t_184 t_1121) rfl rfl rfl (by decide +kernel) ⟨(Nat.le_of_ble_eq_true rfl), (Nat.le_of_ble_eq_true rfl)⟩) (pre3V g hK mq0_ kq0_ (by decide) (q := (RX8, TX8, 10)) rfl) rfl rfl hl.1 rfl (lv_room (Nat.le_of_ble_eq_true rfl)) dX2_readStatement_4 ⟨(Nat.le_of_ble_eq_true rfl), (Nat.le_of_ble_eq_true rfl)⟩) g hK (by decide) (by decide) (fx' := [(2, 0, a0_, .ref q0_), (2, 1, a0_, .ref q1_), (2, 2, a0_, .ref q2_), (2, 3, a0_, .ref q3_), (2, 4, a0_, .ref q4_), (2, 5, a0_, .ref q5_), (0, 0, q2_, .ref q0_), (0, 1, q2_, .ref q1_), (5, 0, q1_, .ref q8_), (5, 1, q1_, .ref q9_), (8, 8, q0_, .int y0_)]) rfl (fun r_1 fr_1 H locs hp hMr_1 g => ?_)
  have hG_2 := eOK.frame hMr_1 go_.2.2.2.1 mq2_ kq2_ (by decide) (by decide) hGeq2_
  refine lv_istore_n (lv' := [(1, .int r_1), (0, .ref a0_)]) hx hb dX2_readStatement_7 rfl hl (by decide) rfl (fun ls hl => ?_)
  refine lv_iload_n hx hb dX2_readStatement_8 rfl (lv_at hl 0 rfl) ?_
  refine lv_bipush (v := 125) hx hb dX2_readStatement_9 (by decide) ?_
  have kb_125 : bd 125 125 (125 : Int32) := ⟨by decide, by decide⟩
  refine lv_icmp_ne (tgt := 19) hx hb dX2_readStatement_11 (by decide) (fun c_3 => ?_) (fun c_3 => ?_)
  · have fc_3 := neq_f c_3
    refine lv_iload_n hx hb dX2_readStatement_19 rfl (lv_at hl 0 rfl) ?_
    have go_ := g
    refine g_calli (va_runS (As := [.int r_1]) (rest := []) ⟨hx, hb, hml, hown, hts⟩ (r_X2_startsStatement l dC dI L kd tys fr_1 H.size g.2.2.2.1 r_1) (va_cwS 1 hts (gS_ t_1351 t_1352 t_183 t_1353) rfl rfl rfl (by decide +kernel) ⟨(Nat.le_of_ble_eq_true rfl), (Nat.le_of_ble_eq_true rfl)⟩) (pre3S g hK) rfl rfl hl.1 rfl (lv_room (Nat.le_of_ble_eq_true rfl)) dX2_readStatement_20 ⟨(Nat.le_of_ble_eq_true rfl), (Nat.le_of_ble_eq_true rfl)⟩) g hK (by decide) (by decide) (fx' := [(2, 0, a0_, .ref q0_), (2, 1, a0_, .ref q1_), (2, 2, a0_, .ref q2_), (2, 3, a0_, .ref q3_), (2, 4, a0_, .ref q4_), (2, 5, a0_, .ref q5_), (0, 0, q2_, .ref q0_), (0, 1, q2_, .ref q1_), (5, 0, q1_, .ref q8_), (5, 1, q1_, .ref q9_), (8, 8, q0_, .int y0_)]) rfl (fun r_4 fr_4 H locs hp hMr_4 g => ?_)
    rcases hp with ⟨h_5, -⟩ | ⟨h_6, h_7, -⟩
    · have hG_8 := eOK.frame hMr_4 go_.2.2.2.1 mq2_ kq2_ (by decide) (by decide) hG_2
      obtain rfl : r_4 = 0 := h_5
      refine lv_if_ne (tgt := 44) hx hb dX2_readStatement_23 (by decide) (fun c_ => absurd c_ (by decide)) (fun c_ => ?_)
      refine lv_aload_n hx hb dX2_readStatement_26 rfl (lv_at hl 1 rfl) ?_
      refine g_getk (C := RX2) (T := TX2) (N := 16) hx hb hts (mc_ inX2) hown hK g rfl 0 (by decide) rfl (hts _ (List.mem_cons_of_mem _ t_416)) (fun _ h9 => h9) 0 rfl dX2_readStatement_27 ?_
      refine lv_iconst (v := 1) hx hb dX2_readStatement_30 (by decide) ?_
      refine lv_aload_n hx hb dX2_readStatement_31 rfl (lv_at hl 1 rfl) ?_
      refine g_getk (C := RX2) (T := TX2) (N := 16) hx hb hts (mc_ inX2) hown hK g rfl 0 (by decide) rfl (hts _ (List.mem_cons_of_mem _ t_416)) (fun _ h9 => h9) 0 rfl dX2_readStatement_32 ?_
      have go_ := g
      refine g_calli (va_runV (As := []) (rest := [.int 1, .ref q0_]) ⟨hx, hb, hml, hown, hts⟩ (r_X8_place l dC dI L kd tys fr_4 H.size g.2.2.2.1 q0_ mq0_ kq0_) (cwV 0 hts (gV_ t_1110 t_1111 t_1112 t_184 t_1113) rfl rfl rfl (by decide +kernel) ⟨(Nat.le_of_ble_eq_true rfl), (Nat.le_of_ble_eq_true rfl)⟩) (pre3V g hK mq0_ kq0_ (by decide) (q := (RX8, TX8, 10)) rfl) rfl rfl hl.1 rfl (lv_room (Nat.le_of_ble_eq_true rfl)) dX2_readStatement_35 ⟨(Nat.le_of_ble_eq_true rfl), (Nat.le_of_ble_eq_true rfl)⟩) g hK (by decide) (by decide) (fx' := [(2, 0, a0_, .ref q0_), (2, 1, a0_, .ref q1_), (2, 2, a0_, .ref q2_), (2, 3, a0_, .ref q3_), (2, 4, a0_, .ref q4_), (2, 5, a0_, .ref q5_), (0, 0, q2_, .ref q0_), (0, 1, q2_, .ref q1_), (5, 0, q1_, .ref q8_), (5, 1, q1_, .ref q9_), (8, 8, q0_, .int y0_)]) rfl (fun r_9 fr_9 H locs hp hMr_9 g => ?_)
      have hG_10 := eOK.frame hMr_9 go_.2.2.2.1 mq2_ kq2_ (by decide) (by decide) hG_8
      have kb_1 : bd 1 1 (1 : Int32) := ⟨by decide, by decide⟩
      have go_ := g
      refine g_callv (va_runV (As := [.int 1, .int r_9]) (rest := []) ⟨hx, hb, hml, hown, hts⟩ (r_X8_fail l dC dI L kd tys fr_9 H.size g.2.2.2.1 q0_ mq0_ kq0_ 1 (bd_sub kb_1 (by decide)) r_9 y0_ by0_ (g.fcts [10] rfl)) (cwV 2 hts (gV_ t_1122 t_1107 t_1108 t_184 t_1109) rfl rfl rfl (by decide +kernel) ⟨(Nat.le_of_ble_eq_true rfl), (Nat.le_of_ble_eq_true rfl)⟩) (pre3V g hK mq0_ kq0_ (by decide) (q := (RX8, TX8, 10)) rfl) rfl rfl hl.1 rfl (lv_room (Nat.le_of_ble_eq_true rfl)) dX2_readStatement_38 ⟨(Nat.le_of_ble_eq_true rfl), (Nat.le_of_ble_eq_true rfl)⟩) g hK (by decide) (by decide) (fx' := [(2, 0, a0_, .ref q0_), (2, 1, a0_, .ref q1_), (2, 2, a0_, .ref q2_), (2, 3, a0_, .ref q3_), (2, 4, a0_, .ref q4_), (2, 5, a0_, .ref q5_), (0, 0, q2_, .ref q0_), (0, 1, q2_, .ref q1_), (5, 0, q1_, .ref q8_), (5, 1, q1_, .ref q9_)]) rfl (fun fr_11 H locs hp hMr_11 g => ?_)
      obtain ⟨x_12, h_13, hF_14⟩ := hp
      have hG_15 := eOK.frame hMr_11 go_.2.2.2.1 mq2_ kq2_ (by decide) (by decide) hG_10
      have g := g.more hF_14
      refine lv_goto (tgt := 60) hx hb dX2_readStatement_41 (by decide) ?_
      refine lv_aload_n hx hb dX2_readStatement_60 rfl (lv_at hl 1 rfl) ?_
      refine g_getk (C := RX2) (T := TX2) (N := 16) hx hb hts (mc_ inX2) hown hK g rfl 5 (by decide) rfl (hts _ (List.mem_cons_of_mem _ t_421)) (fun _ h9 => h9) 7 rfl dX2_readStatement_61 ?_
      refine lv_dup hx hb dX2_readStatement_64 rfl ?_
      refine g_geti (C := RX6) (T := TX6) (N := 13) hx hb hts (mc_ inX6) hown hK g mq5_ kq5_ (by decide) rfl 10 (by decide) rfl (hts _ (List.mem_cons_of_mem _ t_588)) (fun _ h9 => h9) rfl dX2_readStatement_65 (fun x_16 bx_16 g => ?_)
      refine lv_iconst (v := 1) hx hb dX2_readStatement_68 (by decide) ?_
      refine lv_iadd hx hb dX2_readStatement_69 ?_
      refine lv_topi (fun y_17 ey_17 => ?_)
      have go_ := g
      refine g_put (C := RX6) (T := TX6) (N := 13) hx hb hts (mc_ inX6) tyX6 tyX6_ok nmX6 hown hK g mq5_ kq5_ (by decide) rfl 10 (by decide) (hts _ (List.mem_cons_of_mem _ t_588)) (fun _ h9 => h9) rfl rfl (okV_i (bdT y_17)) rfl rfl (by decide) (Or.inr (Or.inl (by decide))) (fx' := [(8, 6, q0_, .int 1201), (8, 8, q0_, .int x_12), (2, 0, a0_, .ref q0_), (2, 1, a0_, .ref q1_), (2, 2, a0_, .ref q2_), (2, 3, a0_, .ref q3_), (2, 4, a0_, .ref q4_), (2, 5, a0_, .ref q5_), (0, 0, q2_, .ref q0_), (0, 1, q2_, .ref q1_), (5, 0, q1_, .ref q8_), (5, 1, q1_, .ref q9_)]) rfl dX2_readStatement_70 (fun f H locs hM_18 g => ?_)
      have hG_19 := eOK.frame hM_18 go_.2.2.2.1 mq2_ kq2_ (by decide) (by decide) hG_15
      refine lv_aload_n hx hb dX2_readStatement_73 rfl (lv_at hl 1 rfl) ?_
      refine g_getk (C := RX2) (T := TX2) (N := 16) hx hb hts (mc_ inX2) hown hK g rfl 3 (by decide) rfl (hts _ (List.mem_cons_of_mem _ t_419)) (fun _ h9 => h9) 6 rfl dX2_readStatement_74 ?_
      refine lv_bipush (v := 12) hx hb dX2_readStatement_77 (by decide) ?_
      refine lv_aload_n hx hb dX2_readStatement_79 rfl (lv_at hl 1 rfl) ?_
      refine g_getk (C := RX2) (T := TX2) (N := 16) hx hb hts (mc_ inX2) hown hK g rfl 3 (by decide) rfl (hts _ (List.mem_cons_of_mem _ t_419)) (fun _ h9 => h9) 6 rfl dX2_readStatement_80 ?_
      have go_ := g
      refine g_calli (va_runV (As := []) (rest := [.int 12, .ref q3_]) ⟨hx, hb, hml, hown, hts⟩ (r_X7_addStatement l dC dI L kd tys f H.size g.2.2.2.1 q3_ mq3_ kq3_) (cwV 0 hts (gV_ t_1359 t_1360 t_1361 t_191 t_1362) rfl rfl rfl (by decide +kernel) ⟨(Nat.le_of_ble_eq_true rfl), (Nat.le_of_ble_eq_true rfl)⟩) (pre3V g hK mq3_ kq3_ (by decide) (q := (RX7, TX7, 19)) rfl) rfl rfl hl.1 rfl (lv_room (Nat.le_of_ble_eq_true rfl)) dX2_readStatement_83 ⟨(Nat.le_of_ble_eq_true rfl), (Nat.le_of_ble_eq_true rfl)⟩) g hK (by decide) (by decide) (fx' := [(6, 10, q5_, .int y_17), (8, 6, q0_, .int 1201), (8, 8, q0_, .int x_12), (2, 0, a0_, .ref q0_), (2, 1, a0_, .ref q1_), (2, 2, a0_, .ref q2_), (2, 3, a0_, .ref q3_), (2, 4, a0_, .ref q4_), (2, 5, a0_, .ref q5_), (0, 0, q2_, .ref q0_), (0, 1, q2_, .ref q1_), (5, 0, q1_, .ref q8_), (5, 1, q1_, .ref q9_)]) rfl (fun r_20 fr_20 H locs hp hMr_20 g => ?_)
      obtain ⟨h_21, x_22, h_23, hF_24⟩ := hp
      have hG_25 := eOK.frame hMr_20 go_.2.2.2.1 mq2_ kq2_ (by decide) (by decide) hG_19
      have g := g.more hF_24
      have go_ := g
      refine g_callv (va_runV (As := [.int 12, .int r_20]) (rest := []) ⟨hx, hb, hml, hown, hts⟩ (r_X7_emit l dC dI L kd tys fr_20 H.size g.2.2.2.1 q3_ mq3_ kq3_ 12 r_20) (cwV 2 hts (gV_ t_1301 t_1204 t_1205 t_191 t_1206) rfl rfl rfl (by decide +kernel) ⟨(Nat.le_of_ble_eq_true rfl), (Nat.le_of_ble_eq_true rfl)⟩) (pre3V g hK mq3_ kq3_ (by decide) (q := (RX7, TX7, 19)) rfl) rfl rfl hl.1 rfl (lv_room (Nat.le_of_ble_eq_true rfl)) dX2_readStatement_86 ⟨(Nat.le_of_ble_eq_true rfl), (Nat.le_of_ble_eq_true rfl)⟩) g hK (by decide) (by decide) (fx' := [(7, 15, q3_, .int x_22), (6, 10, q5_, .int y_17), (8, 6, q0_, .int 1201), (8, 8, q0_, .int x_12), (2, 0, a0_, .ref q0_), (2, 1, a0_, .ref q1_), (2, 2, a0_, .ref q2_), (2, 3, a0_, .ref q3_), (2, 4, a0_, .ref q4_), (2, 5, a0_, .ref q5_), (0, 0, q2_, .ref q0_), (0, 1, q2_, .ref q1_), (5, 0, q1_, .ref q8_), (5, 1, q1_, .ref q9_)]) rfl (fun fr_26 H locs hp hMr_26 g => ?_)
      obtain ⟨x_27, h_28, hF_29⟩ := hp
      have hG_30 := eOK.frame hMr_26 go_.2.2.2.1 mq2_ kq2_ (by decide) (by decide) hG_25
      have g := g.more hF_29
      refine lv_iload_n hx hb dX2_readStatement_89 rfl (lv_at hl 0 rfl) ?_
      by_cases e_31 : r_1 = 22
      · refine lv_topi (fun z_32 ez_32 => ?_)
        obtain rfl : z_32 = 22 := ez_32.trans e_31
        have kb_22 : bd 22 22 (22 : Int32) := ⟨by decide, by decide⟩
        have b_33 : bd 22 22 r_1 := eqX (eq_f e_31) (bdT r_1) kb_22 (by decide)
        refine lv_tableIn (off := 38) (tgt := 128) hx hb dX2_readStatement_90 (by decide) (by decide) rfl (by decide) ?_
        refine lv_aload_n hx hb dX2_readStatement_128 rfl (lv_at hl 1 rfl) ?_
        have kb_1201 : bd 1201 1201 (1201 : Int32) := ⟨by decide, by decide⟩
        have go_ := g
        refine g_callv (va_runV (As := []) (rest := []) ⟨hx, hb, hml, hown, hts⟩ (r_X2_readLet l dC dI L kd tys fr_26 H.size g.2.2.2.1 a0_ ma0_ ka0_ q0_ mq0_ kq0_ q1_ mq1_ kq1_ q2_ mq2_ kq2_ q3_ mq3_ kq3_ q8_ mq8_ kq8_ q9_ mq9_ kq9_ 1201 kb_1201 x_12 h_13 hG_30 (g.fcts [5, 6, 7, 8, 11, 12, 13, 14, 3, 4] rfl)) (cwV 0 hts (gV_ t_1363 t_1365 t_44 t_183 t_1366) rfl rfl rfl (by decide +kernel) ⟨(Nat.le_of_ble_eq_true rfl), (Nat.le_of_ble_eq_true rfl)⟩) (pre3V g hK ma0_ ka0_ (by decide) (q := (RX2, TX2, 16)) rfl) rfl rfl hl.1 rfl (lv_room (Nat.le_of_ble_eq_true rfl)) dX2_readStatement_129 ⟨(Nat.le_of_ble_eq_true rfl), (Nat.le_of_ble_eq_true rfl)⟩) g hK (by decide) (by decide) (fx' := [(7, 15, q3_, .int x_22), (6, 10, q5_, .int y_17), (8, 8, q0_, .int x_12), (2, 0, a0_, .ref q0_), (2, 1, a0_, .ref q1_), (2, 2, a0_, .ref q2_), (2, 3, a0_, .ref q3_), (2, 4, a0_, .ref q4_), (2, 5, a0_, .ref q5_), (0, 0, q2_, .ref q0_), (0, 1, q2_, .ref q1_), (5, 0, q1_, .ref q8_), (5, 1, q1_, .ref q9_)]) rfl (fun fr_34 H locs hp hMr_34 g => ?_)
        obtain ⟨x_35, h_36, x_37, h_38, hF_39⟩ := hp
        have hG_40 := eOK.frame hMr_34 go_.2.2.2.1 mq2_ kq2_ (by decide) (by decide) hG_30
        have g := g.more hF_39
        refine lv_goto (tgt := 191) hx hb dX2_readStatement_132 (by decide) ?_
        subst hQ
        exact W.vret hx hb hr (fun t ht hW => ⟨⟨_, rfl, Or.inr (⟨hG_40, x_35, h_36, x_37, h_38, x_12, h_13, (g.fcts [0, 1, 10] rfl)⟩), q3_of g hK ht hW⟩, g.2.2.1.F ht⟩) g.2.2.1.2.2 dX2_readStatement_191
      by_cases e_41 : r_1 = 23
      · refine lv_topi (fun z_42 ez_42 => ?_)
        obtain rfl : z_42 = 23 := ez_42.trans e_41
        have kb_23 : bd 23 23 (23 : Int32) := ⟨by decide, by decide⟩
        have b_43 : bd 23 23 r_1 := eqX (eq_f e_41) (bdT r_1) kb_23 (by decide)
        refine lv_tableIn (off := 45) (tgt := 135) hx hb dX2_readStatement_90 (by decide) (by decide) rfl (by decide) ?_
        refine lv_aload_n hx hb dX2_readStatement_135 rfl (lv_at hl 1 rfl) ?_
        refine lv_iload_n hx hb dX2_readStatement_136 rfl (lv_at hl 0 rfl) ?_
        have kb_1201 : bd 1201 1201 (1201 : Int32) := ⟨by decide, by decide⟩
        have go_ := g
        refine g_callv (va_runV (As := [.int r_1]) (rest := []) ⟨hx, hb, hml, hown, hts⟩ (r_X2_readTest l dC dI L kd tys fr_26 H.size g.2.2.2.1 a0_ ma0_ ka0_ r_1 q0_ mq0_ kq0_ q1_ mq1_ kq1_ q2_ mq2_ kq2_ q3_ mq3_ kq3_ q8_ mq8_ kq8_ q9_ mq9_ kq9_ 1201 kb_1201 x_12 h_13 hG_30 (g.fcts [5, 6, 7, 8, 11, 12, 13, 14, 3, 4] rfl)) (cwV 1 hts (gV_ t_1367 t_1369 t_45 t_183 t_1370) rfl rfl rfl (by decide +kernel) ⟨(Nat.le_of_ble_eq_true rfl), (Nat.le_of_ble_eq_true rfl)⟩) (pre3V g hK ma0_ ka0_ (by decide) (q := (RX2, TX2, 16)) rfl) rfl rfl hl.1 rfl (lv_room (Nat.le_of_ble_eq_true rfl)) dX2_readStatement_137 ⟨(Nat.le_of_ble_eq_true rfl), (Nat.le_of_ble_eq_true rfl)⟩) g hK (by decide) (by decide) (fx' := [(7, 15, q3_, .int x_22), (6, 10, q5_, .int y_17), (8, 8, q0_, .int x_12), (2, 0, a0_, .ref q0_), (2, 1, a0_, .ref q1_), (2, 2, a0_, .ref q2_), (2, 3, a0_, .ref q3_), (2, 4, a0_, .ref q4_), (2, 5, a0_, .ref q5_), (0, 0, q2_, .ref q0_), (0, 1, q2_, .ref q1_), (5, 0, q1_, .ref q8_), (5, 1, q1_, .ref q9_)]) rfl (fun fr_44 H locs hp hMr_44 g => ?_)
        obtain ⟨x_45, h_46, hF_47⟩ := hp
        have hG_48 := eOK.frame hMr_44 go_.2.2.2.1 mq2_ kq2_ (by decide) (by decide) hG_30
        have g := g.more hF_47
        refine lv_goto (tgt := 191) hx hb dX2_readStatement_140 (by decide) ?_
        subst hQ
        exact W.vret hx hb hr (fun t ht hW => ⟨⟨_, rfl, Or.inr (⟨hG_48, 1201, kb_1201, x_45, h_46, x_12, h_13, (g.fcts [0, 1, 10] rfl)⟩), q3_of g hK ht hW⟩, g.2.2.1.F ht⟩) g.2.2.1.2.2 dX2_readStatement_191
      by_cases e_49 : r_1 = 24
      · refine lv_topi (fun z_50 ez_50 => ?_)
        obtain rfl : z_50 = 24 := ez_50.trans e_49
        have kb_24 : bd 24 24 (24 : Int32) := ⟨by decide, by decide⟩
        have b_51 : bd 24 24 r_1 := eqX (eq_f e_49) (bdT r_1) kb_24 (by decide)
        refine lv_tableIn (off := 67) (tgt := 157) hx hb dX2_readStatement_90 (by decide) (by decide) rfl (by decide) ?_
        refine lv_iload_n hx hb dX2_readStatement_157 rfl (lv_at hl 0 rfl) ?_
        refine lv_bipush (v := 11) hx hb dX2_readStatement_158 (by decide) ?_
        have kb_11 : bd 11 11 (11 : Int32) := ⟨by decide, by decide⟩
        refine lv_icmp_ne (tgt := 173) hx hb dX2_readStatement_160 (by decide) (fun c_52 => ?_) (fun c_52 => ?_)
        · have fc_52 := neq_f c_52
          refine lv_aload_n hx hb dX2_readStatement_173 rfl (lv_at hl 1 rfl) ?_
          have kb_1201 : bd 1201 1201 (1201 : Int32) := ⟨by decide, by decide⟩
          have go_ := g
          refine g_calli (va_runV (As := []) (rest := []) ⟨hx, hb, hml, hown, hts⟩ (r_X2_findNamed l dC dI L kd tys fr_26 H.size g.2.2.2.1 a0_ ma0_ ka0_ q0_ mq0_ kq0_ q1_ mq1_ kq1_ q3_ mq3_ kq3_ q4_ mq4_ kq4_ q9_ mq9_ kq9_ 1201 kb_1201 x_12 h_13 (g.fcts [5, 6, 8, 9, 14, 3, 4] rfl)) (cwV 0 hts (gV_ t_1388 t_1390 t_49 t_183 t_1391) rfl rfl rfl (by decide +kernel) ⟨(Nat.le_of_ble_eq_true rfl), (Nat.le_of_ble_eq_true rfl)⟩) (pre3V g hK ma0_ ka0_ (by decide) (q := (RX2, TX2, 16)) rfl) rfl rfl hl.1 rfl (lv_room (Nat.le_of_ble_eq_true rfl)) dX2_readStatement_174 ⟨(Nat.le_of_ble_eq_true rfl), (Nat.le_of_ble_eq_true rfl)⟩) g hK (by decide) (by decide) (fx' := [(7, 6, q3_, .int x_27), (7, 15, q3_, .int x_22), (6, 10, q5_, .int y_17), (8, 8, q0_, .int x_12), (2, 0, a0_, .ref q0_), (2, 1, a0_, .ref q1_), (2, 2, a0_, .ref q2_), (2, 3, a0_, .ref q3_), (2, 4, a0_, .ref q4_), (2, 5, a0_, .ref q5_), (0, 0, q2_, .ref q0_), (0, 1, q2_, .ref q1_), (5, 0, q1_, .ref q8_), (5, 1, q1_, .ref q9_)]) rfl (fun r_53 fr_53 H locs hp hMr_53 g => ?_)
          obtain ⟨h_54, x_55, h_56, hF_57⟩ := hp
          have hG_58 := eOK.frame hMr_53 go_.2.2.2.1 mq2_ kq2_ (by decide) (by decide) hG_30
          have g := g.more hF_57
          have kb_0 : bd 0 0 (0 : Int32) := ⟨by decide, by decide⟩
          refine lv_if_eq (tgt := 187) hx hb dX2_readStatement_177 (by decide) (fun c_59 => ?_) (fun c_59 => ?_)
          · have fc_59 := eq_f c_59
            have b_60 : bd 0 0 r_53 := eqX fc_59 h_54 kb_0 (by decide)
            refine lv_aload_n hx hb dX2_readStatement_187 rfl (lv_at hl 1 rfl) ?_
            have go_ := g
            refine g_callv (va_runV (As := []) (rest := []) ⟨hx, hb, hml, hown, hts⟩ (r_X2_readAssignment l dC dI L kd tys fr_53 H.size g.2.2.2.1 a0_ ma0_ ka0_ q0_ mq0_ kq0_ q1_ mq1_ kq1_ q2_ mq2_ kq2_ q3_ mq3_ kq3_ q4_ mq4_ kq4_ q8_ mq8_ kq8_ q9_ mq9_ kq9_ x_55 h_56 x_12 h_13 hG_58 (g.fcts [5, 6, 7, 8, 9, 11, 12, 13, 14, 0, 4] rfl)) (cwV 0 hts (gV_ t_1397 t_1399 t_51 t_183 t_1400) rfl rfl rfl (by decide +kernel) ⟨(Nat.le_of_ble_eq_true rfl), (Nat.le_of_ble_eq_true rfl)⟩) (pre3V g hK ma0_ ka0_ (by decide) (q := (RX2, TX2, 16)) rfl) rfl rfl hl.1 rfl (lv_room (Nat.le_of_ble_eq_true rfl)) dX2_readStatement_188 ⟨(Nat.le_of_ble_eq_true rfl), (Nat.le_of_ble_eq_true rfl)⟩) g hK (by decide) (by decide) (fx' := [(7, 15, q3_, .int x_22), (6, 10, q5_, .int y_17), (8, 8, q0_, .int x_12), (2, 0, a0_, .ref q0_), (2, 1, a0_, .ref q1_), (2, 2, a0_, .ref q2_), (2, 3, a0_, .ref q3_), (2, 4, a0_, .ref q4_), (2, 5, a0_, .ref q5_), (0, 0, q2_, .ref q0_), (0, 1, q2_, .ref q1_), (5, 0, q1_, .ref q8_), (5, 1, q1_, .ref q9_)]) rfl (fun fr_61 H locs hp hMr_61 g => ?_)
            obtain ⟨x_62, h_63, x_64, h_65, hF_66⟩ := hp
            have hG_67 := eOK.frame hMr_61 go_.2.2.2.1 mq2_ kq2_ (by decide) (by decide) hG_58
            have g := g.more hF_66
            subst hQ
            exact W.vret hx hb hr (fun t ht hW => ⟨⟨_, rfl, Or.inr (⟨hG_67, x_62, h_63, x_64, h_65, x_12, h_13, (g.fcts [0, 1, 10] rfl)⟩), q3_of g hK ht hW⟩, g.2.2.1.F ht⟩) g.2.2.1.2.2 dX2_readStatement_191
          · have fc_59 := neq_f c_59
            have b_68 : bd 1 1 r_53 := neX fc_59 h_54 kb_0 (by decide)
            refine lv_aload_n hx hb dX2_readStatement_180 rfl (lv_at hl 1 rfl) ?_
            have go_ := g
            refine g_callv (va_runV (As := []) (rest := []) ⟨hx, hb, hml, hown, hts⟩ (r_X2_readArguments_3 l dC dI L kd tys fr_53 H.size g.2.2.2.1 a0_ ma0_ ka0_ q0_ mq0_ kq0_ q1_ mq1_ kq1_ q2_ mq2_ kq2_ q3_ mq3_ kq3_ q8_ mq8_ kq8_ q9_ mq9_ kq9_ x_55 h_56 x_12 h_13 hG_58 (g.fcts [5, 6, 7, 8, 11, 12, 13, 14, 0, 4] rfl)) (cwV 0 hts (gV_ t_1393 t_1395 t_50 t_183 t_1396) rfl rfl rfl (by decide +kernel) ⟨(Nat.le_of_ble_eq_true rfl), (Nat.le_of_ble_eq_true rfl)⟩) (pre3V g hK ma0_ ka0_ (by decide) (q := (RX2, TX2, 16)) rfl) rfl rfl hl.1 rfl (lv_room (Nat.le_of_ble_eq_true rfl)) dX2_readStatement_181 ⟨(Nat.le_of_ble_eq_true rfl), (Nat.le_of_ble_eq_true rfl)⟩) g hK (by decide) (by decide) (fx' := [(7, 15, q3_, .int x_22), (6, 10, q5_, .int y_17), (8, 8, q0_, .int x_12), (2, 0, a0_, .ref q0_), (2, 1, a0_, .ref q1_), (2, 2, a0_, .ref q2_), (2, 3, a0_, .ref q3_), (2, 4, a0_, .ref q4_), (2, 5, a0_, .ref q5_), (0, 0, q2_, .ref q0_), (0, 1, q2_, .ref q1_), (5, 0, q1_, .ref q8_), (5, 1, q1_, .ref q9_)]) rfl (fun fr_69 H locs hp hMr_69 g => ?_)
            obtain ⟨x_70, h_71, x_72, h_73, hF_74⟩ := hp
            have hG_75 := eOK.frame hMr_69 go_.2.2.2.1 mq2_ kq2_ (by decide) (by decide) hG_58
            have g := g.more hF_74
            refine lv_goto (tgt := 191) hx hb dX2_readStatement_184 (by decide) ?_
            subst hQ
            exact W.vret hx hb hr (fun t ht hW => ⟨⟨_, rfl, Or.inr (⟨hG_75, x_70, h_71, x_72, h_73, x_12, h_13, (g.fcts [0, 1, 4] rfl)⟩), q3_of g hK ht hW⟩, g.2.2.1.F ht⟩) g.2.2.1.2.2 dX2_readStatement_191
        · have fc_52 := eq_f c_52
          have b_76 : bd 24 11 r_1 := eqX fc_52 b_51 kb_11 (by decide)
          exact bd_no b_76 (by decide)
      by_cases e_77 : r_1 = 25
      · refine lv_topi (fun z_78 ez_78 => ?_)
        obtain rfl : z_78 = 25 := ez_78.trans e_77
        have kb_25 : bd 25 25 (25 : Int32) := ⟨by decide, by decide⟩
        have b_79 : bd 25 25 r_1 := eqX (eq_f e_77) (bdT r_1) kb_25 (by decide)
        refine lv_tableIn (off := 45) (tgt := 135) hx hb dX2_readStatement_90 (by decide) (by decide) rfl (by decide) ?_
        refine lv_aload_n hx hb dX2_readStatement_135 rfl (lv_at hl 1 rfl) ?_
        refine lv_iload_n hx hb dX2_readStatement_136 rfl (lv_at hl 0 rfl) ?_
        have kb_1201 : bd 1201 1201 (1201 : Int32) := ⟨by decide, by decide⟩
        have go_ := g
        refine g_callv (va_runV (As := [.int r_1]) (rest := []) ⟨hx, hb, hml, hown, hts⟩ (r_X2_readTest l dC dI L kd tys fr_26 H.size g.2.2.2.1 a0_ ma0_ ka0_ r_1 q0_ mq0_ kq0_ q1_ mq1_ kq1_ q2_ mq2_ kq2_ q3_ mq3_ kq3_ q8_ mq8_ kq8_ q9_ mq9_ kq9_ 1201 kb_1201 x_12 h_13 hG_30 (g.fcts [5, 6, 7, 8, 11, 12, 13, 14, 3, 4] rfl)) (cwV 1 hts (gV_ t_1367 t_1369 t_45 t_183 t_1370) rfl rfl rfl (by decide +kernel) ⟨(Nat.le_of_ble_eq_true rfl), (Nat.le_of_ble_eq_true rfl)⟩) (pre3V g hK ma0_ ka0_ (by decide) (q := (RX2, TX2, 16)) rfl) rfl rfl hl.1 rfl (lv_room (Nat.le_of_ble_eq_true rfl)) dX2_readStatement_137 ⟨(Nat.le_of_ble_eq_true rfl), (Nat.le_of_ble_eq_true rfl)⟩) g hK (by decide) (by decide) (fx' := [(7, 15, q3_, .int x_22), (6, 10, q5_, .int y_17), (8, 8, q0_, .int x_12), (2, 0, a0_, .ref q0_), (2, 1, a0_, .ref q1_), (2, 2, a0_, .ref q2_), (2, 3, a0_, .ref q3_), (2, 4, a0_, .ref q4_), (2, 5, a0_, .ref q5_), (0, 0, q2_, .ref q0_), (0, 1, q2_, .ref q1_), (5, 0, q1_, .ref q8_), (5, 1, q1_, .ref q9_)]) rfl (fun fr_80 H locs hp hMr_80 g => ?_)
        obtain ⟨x_81, h_82, hF_83⟩ := hp
        have hG_84 := eOK.frame hMr_80 go_.2.2.2.1 mq2_ kq2_ (by decide) (by decide) hG_30
        have g := g.more hF_83
        refine lv_goto (tgt := 191) hx hb dX2_readStatement_140 (by decide) ?_
        subst hQ
        exact W.vret hx hb hr (fun t ht hW => ⟨⟨_, rfl, Or.inr (⟨hG_84, 1201, kb_1201, x_81, h_82, x_12, h_13, (g.fcts [0, 1, 10] rfl)⟩), q3_of g hK ht hW⟩, g.2.2.1.F ht⟩) g.2.2.1.2.2 dX2_readStatement_191
      by_cases e_85 : r_1 = 26
      · refine lv_topi (fun z_86 ez_86 => ?_)
        obtain rfl : z_86 = 26 := ez_86.trans e_85
        have kb_26 : bd 26 26 (26 : Int32) := ⟨by decide, by decide⟩
        have b_87 : bd 26 26 r_1 := eqX (eq_f e_85) (bdT r_1) kb_26 (by decide)
        refine lv_tableIn (off := 53) (tgt := 143) hx hb dX2_readStatement_90 (by decide) (by decide) rfl (by decide) ?_
        refine lv_aload_n hx hb dX2_readStatement_143 rfl (lv_at hl 1 rfl) ?_
        have kb_1201 : bd 1201 1201 (1201 : Int32) := ⟨by decide, by decide⟩
        have go_ := g
        refine g_callv (va_runV (As := []) (rest := []) ⟨hx, hb, hml, hown, hts⟩ (r_X2_readReturn l dC dI L kd tys fr_26 H.size g.2.2.2.1 a0_ ma0_ ka0_ q0_ mq0_ kq0_ q1_ mq1_ kq1_ q2_ mq2_ kq2_ q3_ mq3_ kq3_ q8_ mq8_ kq8_ q9_ mq9_ kq9_ 1201 kb_1201 x_12 h_13 hG_30 (g.fcts [5, 6, 7, 8, 11, 12, 13, 14, 3, 4] rfl)) (cwV 0 hts (gV_ t_1371 t_1373 t_46 t_183 t_1374) rfl rfl rfl (by decide +kernel) ⟨(Nat.le_of_ble_eq_true rfl), (Nat.le_of_ble_eq_true rfl)⟩) (pre3V g hK ma0_ ka0_ (by decide) (q := (RX2, TX2, 16)) rfl) rfl rfl hl.1 rfl (lv_room (Nat.le_of_ble_eq_true rfl)) dX2_readStatement_144 ⟨(Nat.le_of_ble_eq_true rfl), (Nat.le_of_ble_eq_true rfl)⟩) g hK (by decide) (by decide) (fx' := [(7, 15, q3_, .int x_22), (6, 10, q5_, .int y_17), (8, 8, q0_, .int x_12), (2, 0, a0_, .ref q0_), (2, 1, a0_, .ref q1_), (2, 2, a0_, .ref q2_), (2, 3, a0_, .ref q3_), (2, 4, a0_, .ref q4_), (2, 5, a0_, .ref q5_), (0, 0, q2_, .ref q0_), (0, 1, q2_, .ref q1_), (5, 0, q1_, .ref q8_), (5, 1, q1_, .ref q9_)]) rfl (fun fr_88 H locs hp hMr_88 g => ?_)
        obtain ⟨x_89, h_90, x_91, h_92, hF_93⟩ := hp
        have hG_94 := eOK.frame hMr_88 go_.2.2.2.1 mq2_ kq2_ (by decide) (by decide) hG_30
        have g := g.more hF_93
        refine lv_goto (tgt := 191) hx hb dX2_readStatement_147 (by decide) ?_
        subst hQ
        exact W.vret hx hb hr (fun t ht hW => ⟨⟨_, rfl, Or.inr (⟨hG_94, x_89, h_90, x_91, h_92, x_12, h_13, (g.fcts [0, 1, 10] rfl)⟩), q3_of g hK ht hW⟩, g.2.2.1.F ht⟩) g.2.2.1.2.2 dX2_readStatement_191
      by_cases e_95 : r_1 = 27
      · refine lv_topi (fun z_96 ez_96 => ?_)
        obtain rfl : z_96 = 27 := ez_96.trans e_95
        have kb_27 : bd 27 27 (27 : Int32) := ⟨by decide, by decide⟩
        have b_97 : bd 27 27 r_1 := eqX (eq_f e_95) (bdT r_1) kb_27 (by decide)
        refine lv_tableIn (off := 60) (tgt := 150) hx hb dX2_readStatement_90 (by decide) (by decide) rfl (by decide) ?_
        refine lv_aload_n hx hb dX2_readStatement_150 rfl (lv_at hl 1 rfl) ?_
        have kb_1201 : bd 1201 1201 (1201 : Int32) := ⟨by decide, by decide⟩
        have go_ := g
        refine g_callv (va_runV (As := []) (rest := []) ⟨hx, hb, hml, hown, hts⟩ (r_X2_readThrow l dC dI L kd tys fr_26 H.size g.2.2.2.1 a0_ ma0_ ka0_ q0_ mq0_ kq0_ q3_ mq3_ kq3_ 1201 kb_1201 x_12 h_13 (g.fcts [5, 8, 3, 4] rfl)) (cwV 0 hts (gV_ t_1375 t_1377 t_47 t_183 t_1378) rfl rfl rfl (by decide +kernel) ⟨(Nat.le_of_ble_eq_true rfl), (Nat.le_of_ble_eq_true rfl)⟩) (pre3V g hK ma0_ ka0_ (by decide) (q := (RX2, TX2, 16)) rfl) rfl rfl hl.1 rfl (lv_room (Nat.le_of_ble_eq_true rfl)) dX2_readStatement_151 ⟨(Nat.le_of_ble_eq_true rfl), (Nat.le_of_ble_eq_true rfl)⟩) g hK (by decide) (by decide) (fx' := [(7, 15, q3_, .int x_22), (6, 10, q5_, .int y_17), (8, 8, q0_, .int x_12), (2, 0, a0_, .ref q0_), (2, 1, a0_, .ref q1_), (2, 2, a0_, .ref q2_), (2, 3, a0_, .ref q3_), (2, 4, a0_, .ref q4_), (2, 5, a0_, .ref q5_), (0, 0, q2_, .ref q0_), (0, 1, q2_, .ref q1_), (5, 0, q1_, .ref q8_), (5, 1, q1_, .ref q9_)]) rfl (fun fr_98 H locs hp hMr_98 g => ?_)
        obtain ⟨x_99, h_100, x_101, h_102, x_103, h_104, hF_105⟩ := hp
        have hG_106 := eOK.frame hMr_98 go_.2.2.2.1 mq2_ kq2_ (by decide) (by decide) hG_30
        have g := g.more hF_105
        refine lv_goto (tgt := 191) hx hb dX2_readStatement_154 (by decide) ?_
        subst hQ
        exact W.vret hx hb hr (fun t ht hW => ⟨⟨_, rfl, Or.inr (⟨hG_106, x_99, h_100, x_101, h_102, x_12, h_13, (g.fcts [0, 1, 5] rfl)⟩), q3_of g hK ht hW⟩, g.2.2.1.F ht⟩) g.2.2.1.2.2 dX2_readStatement_191
      refine lv_tableOut (tgt := 157) hx hb dX2_readStatement_90 (by have a0 : r_1.toInt ≠ 22 := fun h => e_31 (Int32.toInt_inj.mp (h.trans (by decide))); have a1 : r_1.toInt ≠ 23 := fun h => e_41 (Int32.toInt_inj.mp (h.trans (by decide))); have a2 : r_1.toInt ≠ 24 := fun h => e_49 (Int32.toInt_inj.mp (h.trans (by decide))); have a3 : r_1.toInt ≠ 25 := fun h => e_77 (Int32.toInt_inj.mp (h.trans (by decide))); have a4 : r_1.toInt ≠ 26 := fun h => e_85 (Int32.toInt_inj.mp (h.trans (by decide))); have a5 : r_1.toInt ≠ 27 := fun h => e_95 (Int32.toInt_inj.mp (h.trans (by decide))); omega) (by decide) ?_
      refine lv_iload_n hx hb dX2_readStatement_157 rfl (lv_at hl 0 rfl) ?_
      refine lv_bipush (v := 11) hx hb dX2_readStatement_158 (by decide) ?_
      have kb_11 : bd 11 11 (11 : Int32) := ⟨by decide, by decide⟩
      refine lv_icmp_ne (tgt := 173) hx hb dX2_readStatement_160 (by decide) (fun c_107 => ?_) (fun c_107 => ?_)
      · have fc_107 := neq_f c_107
        refine lv_aload_n hx hb dX2_readStatement_173 rfl (lv_at hl 1 rfl) ?_
        have kb_1201 : bd 1201 1201 (1201 : Int32) := ⟨by decide, by decide⟩
        have go_ := g
        refine g_calli (va_runV (As := []) (rest := []) ⟨hx, hb, hml, hown, hts⟩ (r_X2_findNamed l dC dI L kd tys fr_26 H.size g.2.2.2.1 a0_ ma0_ ka0_ q0_ mq0_ kq0_ q1_ mq1_ kq1_ q3_ mq3_ kq3_ q4_ mq4_ kq4_ q9_ mq9_ kq9_ 1201 kb_1201 x_12 h_13 (g.fcts [5, 6, 8, 9, 14, 3, 4] rfl)) (cwV 0 hts (gV_ t_1388 t_1390 t_49 t_183 t_1391) rfl rfl rfl (by decide +kernel) ⟨(Nat.le_of_ble_eq_true rfl), (Nat.le_of_ble_eq_true rfl)⟩) (pre3V g hK ma0_ ka0_ (by decide) (q := (RX2, TX2, 16)) rfl) rfl rfl hl.1 rfl (lv_room (Nat.le_of_ble_eq_true rfl)) dX2_readStatement_174 ⟨(Nat.le_of_ble_eq_true rfl), (Nat.le_of_ble_eq_true rfl)⟩) g hK (by decide) (by decide) (fx' := [(7, 6, q3_, .int x_27), (7, 15, q3_, .int x_22), (6, 10, q5_, .int y_17), (8, 8, q0_, .int x_12), (2, 0, a0_, .ref q0_), (2, 1, a0_, .ref q1_), (2, 2, a0_, .ref q2_), (2, 3, a0_, .ref q3_), (2, 4, a0_, .ref q4_), (2, 5, a0_, .ref q5_), (0, 0, q2_, .ref q0_), (0, 1, q2_, .ref q1_), (5, 0, q1_, .ref q8_), (5, 1, q1_, .ref q9_)]) rfl (fun r_108 fr_108 H locs hp hMr_108 g => ?_)
        obtain ⟨h_109, x_110, h_111, hF_112⟩ := hp
        have hG_113 := eOK.frame hMr_108 go_.2.2.2.1 mq2_ kq2_ (by decide) (by decide) hG_30
        have g := g.more hF_112
        have kb_0 : bd 0 0 (0 : Int32) := ⟨by decide, by decide⟩
        refine lv_if_eq (tgt := 187) hx hb dX2_readStatement_177 (by decide) (fun c_114 => ?_) (fun c_114 => ?_)
        · have fc_114 := eq_f c_114
          have b_115 : bd 0 0 r_108 := eqX fc_114 h_109 kb_0 (by decide)
          refine lv_aload_n hx hb dX2_readStatement_187 rfl (lv_at hl 1 rfl) ?_
          have go_ := g
          refine g_callv (va_runV (As := []) (rest := []) ⟨hx, hb, hml, hown, hts⟩ (r_X2_readAssignment l dC dI L kd tys fr_108 H.size g.2.2.2.1 a0_ ma0_ ka0_ q0_ mq0_ kq0_ q1_ mq1_ kq1_ q2_ mq2_ kq2_ q3_ mq3_ kq3_ q4_ mq4_ kq4_ q8_ mq8_ kq8_ q9_ mq9_ kq9_ x_110 h_111 x_12 h_13 hG_113 (g.fcts [5, 6, 7, 8, 9, 11, 12, 13, 14, 0, 4] rfl)) (cwV 0 hts (gV_ t_1397 t_1399 t_51 t_183 t_1400) rfl rfl rfl (by decide +kernel) ⟨(Nat.le_of_ble_eq_true rfl), (Nat.le_of_ble_eq_true rfl)⟩) (pre3V g hK ma0_ ka0_ (by decide) (q := (RX2, TX2, 16)) rfl) rfl rfl hl.1 rfl (lv_room (Nat.le_of_ble_eq_true rfl)) dX2_readStatement_188 ⟨(Nat.le_of_ble_eq_true rfl), (Nat.le_of_ble_eq_true rfl)⟩) g hK (by decide) (by decide) (fx' := [(7, 15, q3_, .int x_22), (6, 10, q5_, .int y_17), (8, 8, q0_, .int x_12), (2, 0, a0_, .ref q0_), (2, 1, a0_, .ref q1_), (2, 2, a0_, .ref q2_), (2, 3, a0_, .ref q3_), (2, 4, a0_, .ref q4_), (2, 5, a0_, .ref q5_), (0, 0, q2_, .ref q0_), (0, 1, q2_, .ref q1_), (5, 0, q1_, .ref q8_), (5, 1, q1_, .ref q9_)]) rfl (fun fr_116 H locs hp hMr_116 g => ?_)
          obtain ⟨x_117, h_118, x_119, h_120, hF_121⟩ := hp
          have hG_122 := eOK.frame hMr_116 go_.2.2.2.1 mq2_ kq2_ (by decide) (by decide) hG_113
          have g := g.more hF_121
          subst hQ
          exact W.vret hx hb hr (fun t ht hW => ⟨⟨_, rfl, Or.inr (⟨hG_122, x_117, h_118, x_119, h_120, x_12, h_13, (g.fcts [0, 1, 10] rfl)⟩), q3_of g hK ht hW⟩, g.2.2.1.F ht⟩) g.2.2.1.2.2 dX2_readStatement_191
        · have fc_114 := neq_f c_114
          have b_123 : bd 1 1 r_108 := neX fc_114 h_109 kb_0 (by decide)
          refine lv_aload_n hx hb dX2_readStatement_180 rfl (lv_at hl 1 rfl) ?_
          have go_ := g
          refine g_callv (va_runV (As := []) (rest := []) ⟨hx, hb, hml, hown, hts⟩ (r_X2_readArguments_3 l dC dI L kd tys fr_108 H.size g.2.2.2.1 a0_ ma0_ ka0_ q0_ mq0_ kq0_ q1_ mq1_ kq1_ q2_ mq2_ kq2_ q3_ mq3_ kq3_ q8_ mq8_ kq8_ q9_ mq9_ kq9_ x_110 h_111 x_12 h_13 hG_113 (g.fcts [5, 6, 7, 8, 11, 12, 13, 14, 0, 4] rfl)) (cwV 0 hts (gV_ t_1393 t_1395 t_50 t_183 t_1396) rfl rfl rfl (by decide +kernel) ⟨(Nat.le_of_ble_eq_true rfl), (Nat.le_of_ble_eq_true rfl)⟩) (pre3V g hK ma0_ ka0_ (by decide) (q := (RX2, TX2, 16)) rfl) rfl rfl hl.1 rfl (lv_room (Nat.le_of_ble_eq_true rfl)) dX2_readStatement_181 ⟨(Nat.le_of_ble_eq_true rfl), (Nat.le_of_ble_eq_true rfl)⟩) g hK (by decide) (by decide) (fx' := [(7, 15, q3_, .int x_22), (6, 10, q5_, .int y_17), (8, 8, q0_, .int x_12), (2, 0, a0_, .ref q0_), (2, 1, a0_, .ref q1_), (2, 2, a0_, .ref q2_), (2, 3, a0_, .ref q3_), (2, 4, a0_, .ref q4_), (2, 5, a0_, .ref q5_), (0, 0, q2_, .ref q0_), (0, 1, q2_, .ref q1_), (5, 0, q1_, .ref q8_), (5, 1, q1_, .ref q9_)]) rfl (fun fr_124 H locs hp hMr_124 g => ?_)
          obtain ⟨x_125, h_126, x_127, h_128, hF_129⟩ := hp
          have hG_130 := eOK.frame hMr_124 go_.2.2.2.1 mq2_ kq2_ (by decide) (by decide) hG_113
          have g := g.more hF_129
          refine lv_goto (tgt := 191) hx hb dX2_readStatement_184 (by decide) ?_
          subst hQ
          exact W.vret hx hb hr (fun t ht hW => ⟨⟨_, rfl, Or.inr (⟨hG_130, x_125, h_126, x_127, h_128, x_12, h_13, (g.fcts [0, 1, 4] rfl)⟩), q3_of g hK ht hW⟩, g.2.2.1.F ht⟩) g.2.2.1.2.2 dX2_readStatement_191
      · have fc_107 := eq_f c_107
        have b_131 : bd 11 11 r_1 := eqX fc_107 (bdT r_1) kb_11 (by decide)
        refine lv_aload_n hx hb dX2_readStatement_163 rfl (lv_at hl 1 rfl) ?_
        have kb_1201 : bd 1201 1201 (1201 : Int32) := ⟨by decide, by decide⟩
        have go_ := g
        refine g_calli (va_runV (As := []) (rest := []) ⟨hx, hb, hml, hown, hts⟩ (r_X2_findAbove l dC dI L kd tys fr_26 H.size g.2.2.2.1 a0_ ma0_ ka0_ q0_ mq0_ kq0_ q3_ mq3_ kq3_ q4_ mq4_ kq4_ 1201 kb_1201 x_12 h_13 (g.fcts [5, 8, 9, 3, 4] rfl)) (cwV 0 hts (gV_ t_1383 t_1385 t_48 t_183 t_1386) rfl rfl rfl (by decide +kernel) ⟨(Nat.le_of_ble_eq_true rfl), (Nat.le_of_ble_eq_true rfl)⟩) (pre3V g hK ma0_ ka0_ (by decide) (q := (RX2, TX2, 16)) rfl) rfl rfl hl.1 rfl (lv_room (Nat.le_of_ble_eq_true rfl)) dX2_readStatement_164 ⟨(Nat.le_of_ble_eq_true rfl), (Nat.le_of_ble_eq_true rfl)⟩) g hK (by decide) (by decide) (fx' := [(7, 6, q3_, .int x_27), (7, 15, q3_, .int x_22), (6, 10, q5_, .int y_17), (8, 8, q0_, .int x_12), (2, 0, a0_, .ref q0_), (2, 1, a0_, .ref q1_), (2, 2, a0_, .ref q2_), (2, 3, a0_, .ref q3_), (2, 4, a0_, .ref q4_), (2, 5, a0_, .ref q5_), (0, 0, q2_, .ref q0_), (0, 1, q2_, .ref q1_), (5, 0, q1_, .ref q8_), (5, 1, q1_, .ref q9_)]) rfl (fun r_132 fr_132 H locs hp hMr_132 g => ?_)
        obtain ⟨h_133, hF_134⟩ := hp
        have hG_135 := eOK.frame hMr_132 go_.2.2.2.1 mq2_ kq2_ (by decide) (by decide) hG_30
        obtain rfl : r_132 = 1 := h_133
        have g := g.more hF_134
        refine lv_if_eq (tgt := 187) hx hb dX2_readStatement_167 (by decide) (fun c_ => absurd c_ (by decide)) (fun c_ => ?_)
        refine lv_goto (tgt := 180) hx hb dX2_readStatement_170 (by decide) ?_
        refine lv_aload_n hx hb dX2_readStatement_180 rfl (lv_at hl 1 rfl) ?_
        have go_ := g
        refine g_callv (va_runV (As := []) (rest := []) ⟨hx, hb, hml, hown, hts⟩ (r_X2_readArguments_3 l dC dI L kd tys fr_132 H.size g.2.2.2.1 a0_ ma0_ ka0_ q0_ mq0_ kq0_ q1_ mq1_ kq1_ q2_ mq2_ kq2_ q3_ mq3_ kq3_ q8_ mq8_ kq8_ q9_ mq9_ kq9_ 1201 kb_1201 x_12 h_13 hG_135 (g.fcts [5, 6, 7, 8, 11, 12, 13, 14, 0, 4] rfl)) (cwV 0 hts (gV_ t_1393 t_1395 t_50 t_183 t_1396) rfl rfl rfl (by decide +kernel) ⟨(Nat.le_of_ble_eq_true rfl), (Nat.le_of_ble_eq_true rfl)⟩) (pre3V g hK ma0_ ka0_ (by decide) (q := (RX2, TX2, 16)) rfl) rfl rfl hl.1 rfl (lv_room (Nat.le_of_ble_eq_true rfl)) dX2_readStatement_181 ⟨(Nat.le_of_ble_eq_true rfl), (Nat.le_of_ble_eq_true rfl)⟩) g hK (by decide) (by decide) (fx' := [(7, 15, q3_, .int x_22), (6, 10, q5_, .int y_17), (8, 8, q0_, .int x_12), (2, 0, a0_, .ref q0_), (2, 1, a0_, .ref q1_), (2, 2, a0_, .ref q2_), (2, 3, a0_, .ref q3_), (2, 4, a0_, .ref q4_), (2, 5, a0_, .ref q5_), (0, 0, q2_, .ref q0_), (0, 1, q2_, .ref q1_), (5, 0, q1_, .ref q8_), (5, 1, q1_, .ref q9_)]) rfl (fun fr_136 H locs hp hMr_136 g => ?_)
        obtain ⟨x_137, h_138, x_139, h_140, hF_141⟩ := hp
        have hG_142 := eOK.frame hMr_136 go_.2.2.2.1 mq2_ kq2_ (by decide) (by decide) hG_135
        have g := g.more hF_141
        refine lv_goto (tgt := 191) hx hb dX2_readStatement_184 (by decide) ?_
        subst hQ
        exact W.vret hx hb hr (fun t ht hW => ⟨⟨_, rfl, Or.inr (⟨hG_142, x_137, h_138, x_139, h_140, x_12, h_13, (g.fcts [0, 1, 4] rfl)⟩), q3_of g hK ht hW⟩, g.2.2.1.F ht⟩) g.2.2.1.2.2 dX2_readStatement_191
    · have hG_143 := eOK.frame hMr_4 go_.2.2.2.1 mq2_ kq2_ (by decide) (by decide) hG_2
      obtain rfl : r_4 = 1 := h_6
      have b_144 : bd 3 27 r_1 := eqX rfl (bdT r_1) h_7 (by decide)
      refine lv_if_ne (tgt := 44) hx hb dX2_readStatement_23 (by decide) (fun c_ => ?_) (fun c_ => absurd c_ (by decide))
      refine lv_aload_n hx hb dX2_readStatement_44 rfl (lv_at hl 1 rfl) ?_
      refine g_getk (C := RX2) (T := TX2) (N := 16) hx hb hts (mc_ inX2) hown hK g rfl 5 (by decide) rfl (hts _ (List.mem_cons_of_mem _ t_421)) (fun _ h9 => h9) 5 rfl dX2_readStatement_45 ?_
      refine g_geti (C := RX6) (T := TX6) (N := 13) hx hb hts (mc_ inX6) hown hK g mq5_ kq5_ (by decide) rfl 10 (by decide) rfl (hts _ (List.mem_cons_of_mem _ t_588)) (fun _ h9 => h9) rfl dX2_readStatement_48 (fun x_145 bx_145 g => ?_)
      refine lv_bipush (v := 40) hx hb dX2_readStatement_51 (by decide) ?_
      have kb_40 : bd 40 40 (40 : Int32) := ⟨by decide, by decide⟩
      refine lv_icmp_lt (tgt := 60) hx hb dX2_readStatement_53 (by decide) (fun c_146 => ?_) (fun c_146 => ?_)
      · have fc_146 := lt_f c_146
        have b_147 : bd (-2147483648) 39 x_145 := ltL fc_146 (bdT x_145) kb_40 (by decide)
        refine lv_aload_n hx hb dX2_readStatement_60 rfl (lv_at hl 1 rfl) ?_
        refine g_getk (C := RX2) (T := TX2) (N := 16) hx hb hts (mc_ inX2) hown hK g rfl 5 (by decide) rfl (hts _ (List.mem_cons_of_mem _ t_421)) (fun _ h9 => h9) 6 rfl dX2_readStatement_61 ?_
        refine lv_dup hx hb dX2_readStatement_64 rfl ?_
        refine g_getk (C := RX6) (T := TX6) (N := 13) hx hb hts (mc_ inX6) hown hK g rfl 10 (by decide) rfl (hts _ (List.mem_cons_of_mem _ t_588)) (fun _ h9 => h9) 0 rfl dX2_readStatement_65 ?_
        refine lv_iconst (v := 1) hx hb dX2_readStatement_68 (by decide) ?_
        have kb_1 : bd 1 1 (1 : Int32) := ⟨by decide, by decide⟩
        refine lv_iadd hx hb dX2_readStatement_69 ?_
        refine lv_topi (fun y_148 ey_148 => ?_)
        have ty_148 := add_bd ey_148 b_147 kb_1 (by decide)
        have b_149 : bd (-2147483647) 40 y_148 := add_rg ty_148 b_147 kb_1 (by decide)
        have go_ := g
        refine g_put (C := RX6) (T := TX6) (N := 13) hx hb hts (mc_ inX6) tyX6 tyX6_ok nmX6 hown hK g mq5_ kq5_ (by decide) rfl 10 (by decide) (hts _ (List.mem_cons_of_mem _ t_588)) (fun _ h9 => h9) rfl rfl (okV_i (bd_sub b_149 (by decide))) rfl rfl (by decide) (Or.inr (Or.inl (by decide))) (fx' := [(2, 0, a0_, .ref q0_), (2, 1, a0_, .ref q1_), (2, 2, a0_, .ref q2_), (2, 3, a0_, .ref q3_), (2, 4, a0_, .ref q4_), (2, 5, a0_, .ref q5_), (0, 0, q2_, .ref q0_), (0, 1, q2_, .ref q1_), (5, 0, q1_, .ref q8_), (5, 1, q1_, .ref q9_), (8, 8, q0_, .int y0_)]) rfl dX2_readStatement_70 (fun f H locs hM_150 g => ?_)
        have hG_151 := eOK.frame hM_150 go_.2.2.2.1 mq2_ kq2_ (by decide) (by decide) hG_143
        refine lv_aload_n hx hb dX2_readStatement_73 rfl (lv_at hl 1 rfl) ?_
        refine g_getk (C := RX2) (T := TX2) (N := 16) hx hb hts (mc_ inX2) hown hK g rfl 3 (by decide) rfl (hts _ (List.mem_cons_of_mem _ t_419)) (fun _ h9 => h9) 4 rfl dX2_readStatement_74 ?_
        refine lv_bipush (v := 12) hx hb dX2_readStatement_77 (by decide) ?_
        refine lv_aload_n hx hb dX2_readStatement_79 rfl (lv_at hl 1 rfl) ?_
        refine g_getk (C := RX2) (T := TX2) (N := 16) hx hb hts (mc_ inX2) hown hK g rfl 3 (by decide) rfl (hts _ (List.mem_cons_of_mem _ t_419)) (fun _ h9 => h9) 4 rfl dX2_readStatement_80 ?_
        have go_ := g
        refine g_calli (va_runV (As := []) (rest := [.int 12, .ref q3_]) ⟨hx, hb, hml, hown, hts⟩ (r_X7_addStatement l dC dI L kd tys f H.size g.2.2.2.1 q3_ mq3_ kq3_) (cwV 0 hts (gV_ t_1359 t_1360 t_1361 t_191 t_1362) rfl rfl rfl (by decide +kernel) ⟨(Nat.le_of_ble_eq_true rfl), (Nat.le_of_ble_eq_true rfl)⟩) (pre3V g hK mq3_ kq3_ (by decide) (q := (RX7, TX7, 19)) rfl) rfl rfl hl.1 rfl (lv_room (Nat.le_of_ble_eq_true rfl)) dX2_readStatement_83 ⟨(Nat.le_of_ble_eq_true rfl), (Nat.le_of_ble_eq_true rfl)⟩) g hK (by decide) (by decide) (fx' := [(6, 10, q5_, .int y_148), (2, 0, a0_, .ref q0_), (2, 1, a0_, .ref q1_), (2, 2, a0_, .ref q2_), (2, 3, a0_, .ref q3_), (2, 4, a0_, .ref q4_), (2, 5, a0_, .ref q5_), (0, 0, q2_, .ref q0_), (0, 1, q2_, .ref q1_), (5, 0, q1_, .ref q8_), (5, 1, q1_, .ref q9_), (8, 8, q0_, .int y0_)]) rfl (fun r_152 fr_152 H locs hp hMr_152 g => ?_)
        obtain ⟨h_153, x_154, h_155, hF_156⟩ := hp
        have hG_157 := eOK.frame hMr_152 go_.2.2.2.1 mq2_ kq2_ (by decide) (by decide) hG_151
        have g := g.more hF_156
        have go_ := g
        refine g_callv (va_runV (As := [.int 12, .int r_152]) (rest := []) ⟨hx, hb, hml, hown, hts⟩ (r_X7_emit l dC dI L kd tys fr_152 H.size g.2.2.2.1 q3_ mq3_ kq3_ 12 r_152) (cwV 2 hts (gV_ t_1301 t_1204 t_1205 t_191 t_1206) rfl rfl rfl (by decide +kernel) ⟨(Nat.le_of_ble_eq_true rfl), (Nat.le_of_ble_eq_true rfl)⟩) (pre3V g hK mq3_ kq3_ (by decide) (q := (RX7, TX7, 19)) rfl) rfl rfl hl.1 rfl (lv_room (Nat.le_of_ble_eq_true rfl)) dX2_readStatement_86 ⟨(Nat.le_of_ble_eq_true rfl), (Nat.le_of_ble_eq_true rfl)⟩) g hK (by decide) (by decide) (fx' := [(7, 15, q3_, .int x_154), (6, 10, q5_, .int y_148), (2, 0, a0_, .ref q0_), (2, 1, a0_, .ref q1_), (2, 2, a0_, .ref q2_), (2, 3, a0_, .ref q3_), (2, 4, a0_, .ref q4_), (2, 5, a0_, .ref q5_), (0, 0, q2_, .ref q0_), (0, 1, q2_, .ref q1_), (5, 0, q1_, .ref q8_), (5, 1, q1_, .ref q9_), (8, 8, q0_, .int y0_)]) rfl (fun fr_158 H locs hp hMr_158 g => ?_)
        obtain ⟨x_159, h_160, hF_161⟩ := hp
        have hG_162 := eOK.frame hMr_158 go_.2.2.2.1 mq2_ kq2_ (by decide) (by decide) hG_157
        have g := g.more hF_161
        refine lv_iload_n hx hb dX2_readStatement_89 rfl (lv_at hl 0 rfl) ?_
        by_cases e_163 : r_1 = 22
        · refine lv_topi (fun z_164 ez_164 => ?_)
          obtain rfl : z_164 = 22 := ez_164.trans e_163
          have kb_22 : bd 22 22 (22 : Int32) := ⟨by decide, by decide⟩
          have b_165 : bd 22 22 r_1 := eqX (eq_f e_163) b_144 kb_22 (by decide)
          refine lv_tableIn (off := 38) (tgt := 128) hx hb dX2_readStatement_90 (by decide) (by decide) rfl (by decide) ?_
          refine lv_aload_n hx hb dX2_readStatement_128 rfl (lv_at hl 1 rfl) ?_
          have go_ := g
          refine g_callv (va_runV (As := []) (rest := []) ⟨hx, hb, hml, hown, hts⟩ (r_X2_readLet_2 l dC dI L kd tys fr_158 H.size g.2.2.2.1 a0_ ma0_ ka0_ q0_ mq0_ kq0_ q1_ mq1_ kq1_ q2_ mq2_ kq2_ q3_ mq3_ kq3_ q8_ mq8_ kq8_ q9_ mq9_ kq9_ y0_ by0_ hG_162 (g.fcts [3, 4, 5, 6, 9, 10, 11, 12, 13] rfl)) (cwV 0 hts (gV_ t_1363 t_1365 t_44 t_183 t_1366) rfl rfl rfl (by decide +kernel) ⟨(Nat.le_of_ble_eq_true rfl), (Nat.le_of_ble_eq_true rfl)⟩) (pre3V g hK ma0_ ka0_ (by decide) (q := (RX2, TX2, 16)) rfl) rfl rfl hl.1 rfl (lv_room (Nat.le_of_ble_eq_true rfl)) dX2_readStatement_129 ⟨(Nat.le_of_ble_eq_true rfl), (Nat.le_of_ble_eq_true rfl)⟩) g hK (by decide) (by decide) (fx' := [(7, 15, q3_, .int x_154), (6, 10, q5_, .int y_148), (2, 0, a0_, .ref q0_), (2, 1, a0_, .ref q1_), (2, 2, a0_, .ref q2_), (2, 3, a0_, .ref q3_), (2, 4, a0_, .ref q4_), (2, 5, a0_, .ref q5_), (0, 0, q2_, .ref q0_), (0, 1, q2_, .ref q1_), (5, 0, q1_, .ref q8_), (5, 1, q1_, .ref q9_)]) rfl (fun fr_166 H locs hp hMr_166 g => ?_)
          rcases hp with ⟨hG_167, x_168, h_169, x_170, h_171, x_172, h_173, x_174, h_175, hF_176⟩ | ⟨hG_177, x_178, h_179, x_180, h_181, x_182, h_183, hF_184⟩
          · have g := g.more hF_176
            refine lv_goto (tgt := 191) hx hb dX2_readStatement_132 (by decide) ?_
            subst hQ
            exact W.vret hx hb hr (fun t ht hW => ⟨⟨_, rfl, Or.inl ⟨hG_167, x_168, h_169, x_170, h_171, (g.fcts [0, 1] rfl)⟩, q3_of g hK ht hW⟩, g.2.2.1.F ht⟩) g.2.2.1.2.2 dX2_readStatement_191
          · have g := g.more hF_184
            refine lv_goto (tgt := 191) hx hb dX2_readStatement_132 (by decide) ?_
            subst hQ
            exact W.vret hx hb hr (fun t ht hW => ⟨⟨_, rfl, Or.inr (⟨hG_177, x_178, h_179, x_182, h_183, x_180, h_181, (g.fcts [0, 2, 1] rfl)⟩), q3_of g hK ht hW⟩, g.2.2.1.F ht⟩) g.2.2.1.2.2 dX2_readStatement_191
        by_cases e_185 : r_1 = 23
        · refine lv_topi (fun z_186 ez_186 => ?_)
          obtain rfl : z_186 = 23 := ez_186.trans e_185
          have kb_23 : bd 23 23 (23 : Int32) := ⟨by decide, by decide⟩
          have b_187 : bd 23 23 r_1 := eqX (eq_f e_185) b_144 kb_23 (by decide)
          refine lv_tableIn (off := 45) (tgt := 135) hx hb dX2_readStatement_90 (by decide) (by decide) rfl (by decide) ?_
          refine lv_aload_n hx hb dX2_readStatement_135 rfl (lv_at hl 1 rfl) ?_
          refine lv_iload_n hx hb dX2_readStatement_136 rfl (lv_at hl 0 rfl) ?_
          have go_ := g
          refine g_callv (va_runV (As := [.int r_1]) (rest := []) ⟨hx, hb, hml, hown, hts⟩ (r_X2_readTest_2 l dC dI L kd tys fr_158 H.size g.2.2.2.1 a0_ ma0_ ka0_ r_1 q0_ mq0_ kq0_ q1_ mq1_ kq1_ q2_ mq2_ kq2_ q3_ mq3_ kq3_ q8_ mq8_ kq8_ q9_ mq9_ kq9_ y0_ by0_ hG_162 (g.fcts [3, 4, 5, 6, 9, 10, 11, 12, 13] rfl)) (cwV 1 hts (gV_ t_1367 t_1369 t_45 t_183 t_1370) rfl rfl rfl (by decide +kernel) ⟨(Nat.le_of_ble_eq_true rfl), (Nat.le_of_ble_eq_true rfl)⟩) (pre3V g hK ma0_ ka0_ (by decide) (q := (RX2, TX2, 16)) rfl) rfl rfl hl.1 rfl (lv_room (Nat.le_of_ble_eq_true rfl)) dX2_readStatement_137 ⟨(Nat.le_of_ble_eq_true rfl), (Nat.le_of_ble_eq_true rfl)⟩) g hK (by decide) (by decide) (fx' := [(7, 15, q3_, .int x_154), (6, 10, q5_, .int y_148), (2, 0, a0_, .ref q0_), (2, 1, a0_, .ref q1_), (2, 2, a0_, .ref q2_), (2, 3, a0_, .ref q3_), (2, 4, a0_, .ref q4_), (2, 5, a0_, .ref q5_), (0, 0, q2_, .ref q0_), (0, 1, q2_, .ref q1_), (5, 0, q1_, .ref q8_), (5, 1, q1_, .ref q9_)]) rfl (fun fr_188 H locs hp hMr_188 g => ?_)
          rcases hp with ⟨hG_189, x_190, h_191, x_192, h_193, x_194, h_195, x_196, h_197, hF_198⟩ | ⟨hG_199, x_200, h_201, x_202, h_203, hF_204⟩
          · have g := g.more hF_198
            refine lv_goto (tgt := 191) hx hb dX2_readStatement_140 (by decide) ?_
            subst hQ
            exact W.vret hx hb hr (fun t ht hW => ⟨⟨_, rfl, Or.inl ⟨hG_189, x_190, h_191, x_194, h_195, (g.fcts [0, 2] rfl)⟩, q3_of g hK ht hW⟩, g.2.2.1.F ht⟩) g.2.2.1.2.2 dX2_readStatement_191
          · have g := g.more hF_204
            refine lv_goto (tgt := 191) hx hb dX2_readStatement_140 (by decide) ?_
            have kb_1201 : bd 1201 1201 (1201 : Int32) := ⟨by decide, by decide⟩
            subst hQ
            exact W.vret hx hb hr (fun t ht hW => ⟨⟨_, rfl, Or.inr (⟨hG_199, 1201, kb_1201, x_202, h_203, x_200, h_201, (g.fcts [0, 2, 1] rfl)⟩), q3_of g hK ht hW⟩, g.2.2.1.F ht⟩) g.2.2.1.2.2 dX2_readStatement_191
        by_cases e_205 : r_1 = 24
        · refine lv_topi (fun z_206 ez_206 => ?_)
          obtain rfl : z_206 = 24 := ez_206.trans e_205
          have kb_24 : bd 24 24 (24 : Int32) := ⟨by decide, by decide⟩
          have b_207 : bd 24 24 r_1 := eqX (eq_f e_205) b_144 kb_24 (by decide)
          refine lv_tableIn (off := 67) (tgt := 157) hx hb dX2_readStatement_90 (by decide) (by decide) rfl (by decide) ?_
          refine lv_iload_n hx hb dX2_readStatement_157 rfl (lv_at hl 0 rfl) ?_
          refine lv_bipush (v := 11) hx hb dX2_readStatement_158 (by decide) ?_
          have kb_11 : bd 11 11 (11 : Int32) := ⟨by decide, by decide⟩
          refine lv_icmp_ne (tgt := 173) hx hb dX2_readStatement_160 (by decide) (fun c_208 => ?_) (fun c_208 => ?_)
          · have fc_208 := neq_f c_208
            refine lv_aload_n hx hb dX2_readStatement_173 rfl (lv_at hl 1 rfl) ?_
            have go_ := g
            refine g_calli (va_runV (As := []) (rest := []) ⟨hx, hb, hml, hown, hts⟩ (r_X2_findNamed_2 l dC dI L kd tys fr_158 H.size g.2.2.2.1 a0_ ma0_ ka0_ q0_ mq0_ kq0_ q1_ mq1_ kq1_ q3_ mq3_ kq3_ q4_ mq4_ kq4_ q9_ mq9_ kq9_ y0_ by0_ (g.fcts [3, 4, 6, 7, 12, 13] rfl)) (cwV 0 hts (gV_ t_1388 t_1390 t_49 t_183 t_1391) rfl rfl rfl (by decide +kernel) ⟨(Nat.le_of_ble_eq_true rfl), (Nat.le_of_ble_eq_true rfl)⟩) (pre3V g hK ma0_ ka0_ (by decide) (q := (RX2, TX2, 16)) rfl) rfl rfl hl.1 rfl (lv_room (Nat.le_of_ble_eq_true rfl)) dX2_readStatement_174 ⟨(Nat.le_of_ble_eq_true rfl), (Nat.le_of_ble_eq_true rfl)⟩) g hK (by decide) (by decide) (fx' := [(7, 6, q3_, .int x_159), (7, 15, q3_, .int x_154), (6, 10, q5_, .int y_148), (2, 0, a0_, .ref q0_), (2, 1, a0_, .ref q1_), (2, 2, a0_, .ref q2_), (2, 3, a0_, .ref q3_), (2, 4, a0_, .ref q4_), (2, 5, a0_, .ref q5_), (0, 0, q2_, .ref q0_), (0, 1, q2_, .ref q1_), (5, 0, q1_, .ref q8_), (5, 1, q1_, .ref q9_)]) rfl (fun r_209 fr_209 H locs hp hMr_209 g => ?_)
            rcases hp with ⟨h_210, x_211, h_212, x_213, h_214, x_215, h_216, hF_217⟩ | ⟨h_218, x_219, h_220, hF_221⟩
            · have hG_222 := eOK.frame hMr_209 go_.2.2.2.1 mq2_ kq2_ (by decide) (by decide) hG_162
              have g := g.more hF_217
              have kb_0 : bd 0 0 (0 : Int32) := ⟨by decide, by decide⟩
              refine lv_if_eq (tgt := 187) hx hb dX2_readStatement_177 (by decide) (fun c_223 => ?_) (fun c_223 => ?_)
              · have fc_223 := eq_f c_223
                have b_224 : bd 0 0 r_209 := eqX fc_223 h_210 kb_0 (by decide)
                refine lv_aload_n hx hb dX2_readStatement_187 rfl (lv_at hl 1 rfl) ?_
                have go_ := g
                refine g_callv (va_runV (As := []) (rest := []) ⟨hx, hb, hml, hown, hts⟩ (r_X2_readAssignment_2 l dC dI L kd tys fr_209 H.size g.2.2.2.1 a0_ ma0_ ka0_ q0_ mq0_ kq0_ q1_ mq1_ kq1_ q2_ mq2_ kq2_ q3_ mq3_ kq3_ q4_ mq4_ kq4_ q8_ mq8_ kq8_ q9_ mq9_ kq9_ x_215 h_216 hG_222 (g.fcts [6, 7, 8, 9, 10, 12, 13, 14, 15, 2] rfl)) (cwV 0 hts (gV_ t_1397 t_1399 t_51 t_183 t_1400) rfl rfl rfl (by decide +kernel) ⟨(Nat.le_of_ble_eq_true rfl), (Nat.le_of_ble_eq_true rfl)⟩) (pre3V g hK ma0_ ka0_ (by decide) (q := (RX2, TX2, 16)) rfl) rfl rfl hl.1 rfl (lv_room (Nat.le_of_ble_eq_true rfl)) dX2_readStatement_188 ⟨(Nat.le_of_ble_eq_true rfl), (Nat.le_of_ble_eq_true rfl)⟩) g hK (by decide) (by decide) (fx' := [(2, 15, a0_, .int x_211), (7, 15, q3_, .int x_154), (6, 10, q5_, .int y_148), (2, 0, a0_, .ref q0_), (2, 1, a0_, .ref q1_), (2, 2, a0_, .ref q2_), (2, 3, a0_, .ref q3_), (2, 4, a0_, .ref q4_), (2, 5, a0_, .ref q5_), (0, 0, q2_, .ref q0_), (0, 1, q2_, .ref q1_), (5, 0, q1_, .ref q8_), (5, 1, q1_, .ref q9_)]) rfl (fun fr_225 H locs hp hMr_225 g => ?_)
                rcases hp with ⟨hG_226, x_227, h_228, x_229, h_230, x_231, h_232, hF_233⟩ | ⟨hG_234, x_235, h_236, x_237, h_238, x_239, h_240, hF_241⟩
                · have g := g.more hF_233
                  subst hQ
                  exact W.vret hx hb hr (fun t ht hW => ⟨⟨_, rfl, Or.inl ⟨hG_226, x_227, h_228, x_229, h_230, (g.fcts [0, 1] rfl)⟩, q3_of g hK ht hW⟩, g.2.2.1.F ht⟩) g.2.2.1.2.2 dX2_readStatement_191
                · have g := g.more hF_241
                  subst hQ
                  exact W.vret hx hb hr (fun t ht hW => ⟨⟨_, rfl, Or.inr (⟨hG_234, x_235, h_236, x_239, h_240, x_237, h_238, (g.fcts [0, 2, 1] rfl)⟩), q3_of g hK ht hW⟩, g.2.2.1.F ht⟩) g.2.2.1.2.2 dX2_readStatement_191
              · have fc_223 := neq_f c_223
                have b_242 : bd 1 1 r_209 := neX fc_223 h_210 kb_0 (by decide)
                refine lv_aload_n hx hb dX2_readStatement_180 rfl (lv_at hl 1 rfl) ?_
                have go_ := g
                refine g_callv (va_runV (As := []) (rest := []) ⟨hx, hb, hml, hown, hts⟩ (r_X2_readArguments_2 l dC dI L kd tys fr_209 H.size g.2.2.2.1 a0_ ma0_ ka0_ q0_ mq0_ kq0_ q1_ mq1_ kq1_ q2_ mq2_ kq2_ q3_ mq3_ kq3_ q8_ mq8_ kq8_ q9_ mq9_ kq9_ x_215 h_216 hG_222 (g.fcts [6, 7, 8, 9, 12, 13, 14, 15, 2] rfl)) (cwV 0 hts (gV_ t_1393 t_1395 t_50 t_183 t_1396) rfl rfl rfl (by decide +kernel) ⟨(Nat.le_of_ble_eq_true rfl), (Nat.le_of_ble_eq_true rfl)⟩) (pre3V g hK ma0_ ka0_ (by decide) (q := (RX2, TX2, 16)) rfl) rfl rfl hl.1 rfl (lv_room (Nat.le_of_ble_eq_true rfl)) dX2_readStatement_181 ⟨(Nat.le_of_ble_eq_true rfl), (Nat.le_of_ble_eq_true rfl)⟩) g hK (by decide) (by decide) (fx' := [(2, 15, a0_, .int x_211), (7, 15, q3_, .int x_154), (6, 10, q5_, .int y_148), (2, 0, a0_, .ref q0_), (2, 1, a0_, .ref q1_), (2, 2, a0_, .ref q2_), (2, 3, a0_, .ref q3_), (2, 4, a0_, .ref q4_), (2, 5, a0_, .ref q5_), (0, 0, q2_, .ref q0_), (0, 1, q2_, .ref q1_), (5, 0, q1_, .ref q8_), (5, 1, q1_, .ref q9_)]) rfl (fun fr_243 H locs hp hMr_243 g => ?_)
                rcases hp with ⟨hG_244, x_245, h_246, x_247, h_248, x_249, h_250, hF_251⟩ | ⟨hG_252, x_253, h_254, x_255, h_256, x_257, h_258, hF_259⟩
                · have g := g.more hF_251
                  refine lv_goto (tgt := 191) hx hb dX2_readStatement_184 (by decide) ?_
                  subst hQ
                  exact W.vret hx hb hr (fun t ht hW => ⟨⟨_, rfl, Or.inl ⟨hG_244, x_245, h_246, x_247, h_248, (g.fcts [0, 1] rfl)⟩, q3_of g hK ht hW⟩, g.2.2.1.F ht⟩) g.2.2.1.2.2 dX2_readStatement_191
                · have g := g.more hF_259
                  refine lv_goto (tgt := 191) hx hb dX2_readStatement_184 (by decide) ?_
                  subst hQ
                  exact W.vret hx hb hr (fun t ht hW => ⟨⟨_, rfl, Or.inr (⟨hG_252, x_253, h_254, x_257, h_258, x_255, h_256, (g.fcts [0, 2, 1] rfl)⟩), q3_of g hK ht hW⟩, g.2.2.1.F ht⟩) g.2.2.1.2.2 dX2_readStatement_191
            · have hG_260 := eOK.frame hMr_209 go_.2.2.2.1 mq2_ kq2_ (by decide) (by decide) hG_162
              have g := g.more hF_221
              have kb_0 : bd 0 0 (0 : Int32) := ⟨by decide, by decide⟩
              refine lv_if_eq (tgt := 187) hx hb dX2_readStatement_177 (by decide) (fun c_261 => ?_) (fun c_261 => ?_)
              · have fc_261 := eq_f c_261
                have b_262 : bd 0 0 r_209 := eqX fc_261 h_218 kb_0 (by decide)
                refine lv_aload_n hx hb dX2_readStatement_187 rfl (lv_at hl 1 rfl) ?_
                have kb_1201 : bd 1201 1201 (1201 : Int32) := ⟨by decide, by decide⟩
                have go_ := g
                refine g_callv (va_runV (As := []) (rest := []) ⟨hx, hb, hml, hown, hts⟩ (r_X2_readAssignment l dC dI L kd tys fr_209 H.size g.2.2.2.1 a0_ ma0_ ka0_ q0_ mq0_ kq0_ q1_ mq1_ kq1_ q2_ mq2_ kq2_ q3_ mq3_ kq3_ q4_ mq4_ kq4_ q8_ mq8_ kq8_ q9_ mq9_ kq9_ 1201 kb_1201 x_219 h_220 hG_260 (g.fcts [5, 6, 7, 8, 9, 11, 12, 13, 14, 0, 1] rfl)) (cwV 0 hts (gV_ t_1397 t_1399 t_51 t_183 t_1400) rfl rfl rfl (by decide +kernel) ⟨(Nat.le_of_ble_eq_true rfl), (Nat.le_of_ble_eq_true rfl)⟩) (pre3V g hK ma0_ ka0_ (by decide) (q := (RX2, TX2, 16)) rfl) rfl rfl hl.1 rfl (lv_room (Nat.le_of_ble_eq_true rfl)) dX2_readStatement_188 ⟨(Nat.le_of_ble_eq_true rfl), (Nat.le_of_ble_eq_true rfl)⟩) g hK (by decide) (by decide) (fx' := [(8, 8, q0_, .int x_219), (7, 15, q3_, .int x_154), (6, 10, q5_, .int y_148), (2, 0, a0_, .ref q0_), (2, 1, a0_, .ref q1_), (2, 2, a0_, .ref q2_), (2, 3, a0_, .ref q3_), (2, 4, a0_, .ref q4_), (2, 5, a0_, .ref q5_), (0, 0, q2_, .ref q0_), (0, 1, q2_, .ref q1_), (5, 0, q1_, .ref q8_), (5, 1, q1_, .ref q9_)]) rfl (fun fr_263 H locs hp hMr_263 g => ?_)
                obtain ⟨x_264, h_265, x_266, h_267, hF_268⟩ := hp
                have hG_269 := eOK.frame hMr_263 go_.2.2.2.1 mq2_ kq2_ (by decide) (by decide) hG_260
                have g := g.more hF_268
                subst hQ
                exact W.vret hx hb hr (fun t ht hW => ⟨⟨_, rfl, Or.inr (⟨hG_269, x_264, h_265, x_266, h_267, x_219, h_220, (g.fcts [0, 1, 8] rfl)⟩), q3_of g hK ht hW⟩, g.2.2.1.F ht⟩) g.2.2.1.2.2 dX2_readStatement_191
              · have fc_261 := neq_f c_261
                have b_270 : bd 1 1 r_209 := neX fc_261 h_218 kb_0 (by decide)
                refine lv_aload_n hx hb dX2_readStatement_180 rfl (lv_at hl 1 rfl) ?_
                have kb_1201 : bd 1201 1201 (1201 : Int32) := ⟨by decide, by decide⟩
                have go_ := g
                refine g_callv (va_runV (As := []) (rest := []) ⟨hx, hb, hml, hown, hts⟩ (r_X2_readArguments_3 l dC dI L kd tys fr_209 H.size g.2.2.2.1 a0_ ma0_ ka0_ q0_ mq0_ kq0_ q1_ mq1_ kq1_ q2_ mq2_ kq2_ q3_ mq3_ kq3_ q8_ mq8_ kq8_ q9_ mq9_ kq9_ 1201 kb_1201 x_219 h_220 hG_260 (g.fcts [5, 6, 7, 8, 11, 12, 13, 14, 0, 1] rfl)) (cwV 0 hts (gV_ t_1393 t_1395 t_50 t_183 t_1396) rfl rfl rfl (by decide +kernel) ⟨(Nat.le_of_ble_eq_true rfl), (Nat.le_of_ble_eq_true rfl)⟩) (pre3V g hK ma0_ ka0_ (by decide) (q := (RX2, TX2, 16)) rfl) rfl rfl hl.1 rfl (lv_room (Nat.le_of_ble_eq_true rfl)) dX2_readStatement_181 ⟨(Nat.le_of_ble_eq_true rfl), (Nat.le_of_ble_eq_true rfl)⟩) g hK (by decide) (by decide) (fx' := [(8, 8, q0_, .int x_219), (7, 15, q3_, .int x_154), (6, 10, q5_, .int y_148), (2, 0, a0_, .ref q0_), (2, 1, a0_, .ref q1_), (2, 2, a0_, .ref q2_), (2, 3, a0_, .ref q3_), (2, 4, a0_, .ref q4_), (2, 5, a0_, .ref q5_), (0, 0, q2_, .ref q0_), (0, 1, q2_, .ref q1_), (5, 0, q1_, .ref q8_), (5, 1, q1_, .ref q9_)]) rfl (fun fr_271 H locs hp hMr_271 g => ?_)
                obtain ⟨x_272, h_273, x_274, h_275, hF_276⟩ := hp
                have hG_277 := eOK.frame hMr_271 go_.2.2.2.1 mq2_ kq2_ (by decide) (by decide) hG_260
                have g := g.more hF_276
                refine lv_goto (tgt := 191) hx hb dX2_readStatement_184 (by decide) ?_
                subst hQ
                exact W.vret hx hb hr (fun t ht hW => ⟨⟨_, rfl, Or.inr (⟨hG_277, x_272, h_273, x_274, h_275, x_219, h_220, (g.fcts [0, 1, 2] rfl)⟩), q3_of g hK ht hW⟩, g.2.2.1.F ht⟩) g.2.2.1.2.2 dX2_readStatement_191
          · have fc_208 := eq_f c_208
            have b_278 : bd 24 11 r_1 := eqX fc_208 b_207 kb_11 (by decide)
            exact bd_no b_278 (by decide)
        by_cases e_279 : r_1 = 25
        · refine lv_topi (fun z_280 ez_280 => ?_)
          obtain rfl : z_280 = 25 := ez_280.trans e_279
          have kb_25 : bd 25 25 (25 : Int32) := ⟨by decide, by decide⟩
          have b_281 : bd 25 25 r_1 := eqX (eq_f e_279) b_144 kb_25 (by decide)
          refine lv_tableIn (off := 45) (tgt := 135) hx hb dX2_readStatement_90 (by decide) (by decide) rfl (by decide) ?_
          refine lv_aload_n hx hb dX2_readStatement_135 rfl (lv_at hl 1 rfl) ?_
          refine lv_iload_n hx hb dX2_readStatement_136 rfl (lv_at hl 0 rfl) ?_
          have go_ := g
          refine g_callv (va_runV (As := [.int r_1]) (rest := []) ⟨hx, hb, hml, hown, hts⟩ (r_X2_readTest_2 l dC dI L kd tys fr_158 H.size g.2.2.2.1 a0_ ma0_ ka0_ r_1 q0_ mq0_ kq0_ q1_ mq1_ kq1_ q2_ mq2_ kq2_ q3_ mq3_ kq3_ q8_ mq8_ kq8_ q9_ mq9_ kq9_ y0_ by0_ hG_162 (g.fcts [3, 4, 5, 6, 9, 10, 11, 12, 13] rfl)) (cwV 1 hts (gV_ t_1367 t_1369 t_45 t_183 t_1370) rfl rfl rfl (by decide +kernel) ⟨(Nat.le_of_ble_eq_true rfl), (Nat.le_of_ble_eq_true rfl)⟩) (pre3V g hK ma0_ ka0_ (by decide) (q := (RX2, TX2, 16)) rfl) rfl rfl hl.1 rfl (lv_room (Nat.le_of_ble_eq_true rfl)) dX2_readStatement_137 ⟨(Nat.le_of_ble_eq_true rfl), (Nat.le_of_ble_eq_true rfl)⟩) g hK (by decide) (by decide) (fx' := [(7, 15, q3_, .int x_154), (6, 10, q5_, .int y_148), (2, 0, a0_, .ref q0_), (2, 1, a0_, .ref q1_), (2, 2, a0_, .ref q2_), (2, 3, a0_, .ref q3_), (2, 4, a0_, .ref q4_), (2, 5, a0_, .ref q5_), (0, 0, q2_, .ref q0_), (0, 1, q2_, .ref q1_), (5, 0, q1_, .ref q8_), (5, 1, q1_, .ref q9_)]) rfl (fun fr_282 H locs hp hMr_282 g => ?_)
          rcases hp with ⟨hG_283, x_284, h_285, x_286, h_287, x_288, h_289, x_290, h_291, hF_292⟩ | ⟨hG_293, x_294, h_295, x_296, h_297, hF_298⟩
          · have g := g.more hF_292
            refine lv_goto (tgt := 191) hx hb dX2_readStatement_140 (by decide) ?_
            subst hQ
            exact W.vret hx hb hr (fun t ht hW => ⟨⟨_, rfl, Or.inl ⟨hG_283, x_284, h_285, x_288, h_289, (g.fcts [0, 2] rfl)⟩, q3_of g hK ht hW⟩, g.2.2.1.F ht⟩) g.2.2.1.2.2 dX2_readStatement_191
          · have g := g.more hF_298
            refine lv_goto (tgt := 191) hx hb dX2_readStatement_140 (by decide) ?_
            have kb_1201 : bd 1201 1201 (1201 : Int32) := ⟨by decide, by decide⟩
            subst hQ
            exact W.vret hx hb hr (fun t ht hW => ⟨⟨_, rfl, Or.inr (⟨hG_293, 1201, kb_1201, x_296, h_297, x_294, h_295, (g.fcts [0, 2, 1] rfl)⟩), q3_of g hK ht hW⟩, g.2.2.1.F ht⟩) g.2.2.1.2.2 dX2_readStatement_191
        by_cases e_299 : r_1 = 26
        · refine lv_topi (fun z_300 ez_300 => ?_)
          obtain rfl : z_300 = 26 := ez_300.trans e_299
          have kb_26 : bd 26 26 (26 : Int32) := ⟨by decide, by decide⟩
          have b_301 : bd 26 26 r_1 := eqX (eq_f e_299) b_144 kb_26 (by decide)
          refine lv_tableIn (off := 53) (tgt := 143) hx hb dX2_readStatement_90 (by decide) (by decide) rfl (by decide) ?_
          refine lv_aload_n hx hb dX2_readStatement_143 rfl (lv_at hl 1 rfl) ?_
          have go_ := g
          refine g_callv (va_runV (As := []) (rest := []) ⟨hx, hb, hml, hown, hts⟩ (r_X2_readReturn_2 l dC dI L kd tys fr_158 H.size g.2.2.2.1 a0_ ma0_ ka0_ q0_ mq0_ kq0_ q1_ mq1_ kq1_ q2_ mq2_ kq2_ q3_ mq3_ kq3_ q8_ mq8_ kq8_ q9_ mq9_ kq9_ y0_ by0_ hG_162 (g.fcts [3, 4, 5, 6, 9, 10, 11, 12, 13] rfl)) (cwV 0 hts (gV_ t_1371 t_1373 t_46 t_183 t_1374) rfl rfl rfl (by decide +kernel) ⟨(Nat.le_of_ble_eq_true rfl), (Nat.le_of_ble_eq_true rfl)⟩) (pre3V g hK ma0_ ka0_ (by decide) (q := (RX2, TX2, 16)) rfl) rfl rfl hl.1 rfl (lv_room (Nat.le_of_ble_eq_true rfl)) dX2_readStatement_144 ⟨(Nat.le_of_ble_eq_true rfl), (Nat.le_of_ble_eq_true rfl)⟩) g hK (by decide) (by decide) (fx' := [(7, 15, q3_, .int x_154), (6, 10, q5_, .int y_148), (2, 0, a0_, .ref q0_), (2, 1, a0_, .ref q1_), (2, 2, a0_, .ref q2_), (2, 3, a0_, .ref q3_), (2, 4, a0_, .ref q4_), (2, 5, a0_, .ref q5_), (0, 0, q2_, .ref q0_), (0, 1, q2_, .ref q1_), (5, 0, q1_, .ref q8_), (5, 1, q1_, .ref q9_)]) rfl (fun fr_302 H locs hp hMr_302 g => ?_)
          rcases hp with ⟨hG_303, x_304, h_305, x_306, h_307, x_308, h_309, hF_310⟩ | ⟨hG_311, x_312, h_313, x_314, h_315, x_316, h_317, hF_318⟩
          · have g := g.more hF_310
            refine lv_goto (tgt := 191) hx hb dX2_readStatement_147 (by decide) ?_
            subst hQ
            exact W.vret hx hb hr (fun t ht hW => ⟨⟨_, rfl, Or.inl ⟨hG_303, x_304, h_305, x_306, h_307, (g.fcts [0, 1] rfl)⟩, q3_of g hK ht hW⟩, g.2.2.1.F ht⟩) g.2.2.1.2.2 dX2_readStatement_191
          · have g := g.more hF_318
            refine lv_goto (tgt := 191) hx hb dX2_readStatement_147 (by decide) ?_
            subst hQ
            exact W.vret hx hb hr (fun t ht hW => ⟨⟨_, rfl, Or.inr (⟨hG_311, x_312, h_313, x_316, h_317, x_314, h_315, (g.fcts [0, 2, 1] rfl)⟩), q3_of g hK ht hW⟩, g.2.2.1.F ht⟩) g.2.2.1.2.2 dX2_readStatement_191
        by_cases e_319 : r_1 = 27
        · refine lv_topi (fun z_320 ez_320 => ?_)
          obtain rfl : z_320 = 27 := ez_320.trans e_319
          have kb_27 : bd 27 27 (27 : Int32) := ⟨by decide, by decide⟩
          have b_321 : bd 27 27 r_1 := eqX (eq_f e_319) b_144 kb_27 (by decide)
          refine lv_tableIn (off := 60) (tgt := 150) hx hb dX2_readStatement_90 (by decide) (by decide) rfl (by decide) ?_
          refine lv_aload_n hx hb dX2_readStatement_150 rfl (lv_at hl 1 rfl) ?_
          have go_ := g
          refine g_callv (va_runV (As := []) (rest := []) ⟨hx, hb, hml, hown, hts⟩ (r_X2_readThrow_2 l dC dI L kd tys fr_158 H.size g.2.2.2.1 a0_ ma0_ ka0_ q0_ mq0_ kq0_ q3_ mq3_ kq3_ y0_ by0_ (g.fcts [3, 6, 13] rfl)) (cwV 0 hts (gV_ t_1375 t_1377 t_47 t_183 t_1378) rfl rfl rfl (by decide +kernel) ⟨(Nat.le_of_ble_eq_true rfl), (Nat.le_of_ble_eq_true rfl)⟩) (pre3V g hK ma0_ ka0_ (by decide) (q := (RX2, TX2, 16)) rfl) rfl rfl hl.1 rfl (lv_room (Nat.le_of_ble_eq_true rfl)) dX2_readStatement_151 ⟨(Nat.le_of_ble_eq_true rfl), (Nat.le_of_ble_eq_true rfl)⟩) g hK (by decide) (by decide) (fx' := [(7, 15, q3_, .int x_154), (6, 10, q5_, .int y_148), (2, 0, a0_, .ref q0_), (2, 1, a0_, .ref q1_), (2, 2, a0_, .ref q2_), (2, 3, a0_, .ref q3_), (2, 4, a0_, .ref q4_), (2, 5, a0_, .ref q5_), (0, 0, q2_, .ref q0_), (0, 1, q2_, .ref q1_), (5, 0, q1_, .ref q8_), (5, 1, q1_, .ref q9_)]) rfl (fun fr_322 H locs hp hMr_322 g => ?_)
          rcases hp with ⟨x_323, h_324, x_325, h_326, x_327, h_328, x_329, h_330, hF_331⟩ | ⟨x_332, h_333, x_334, h_335, x_336, h_337, x_338, h_339, hF_340⟩
          · have hG_341 := eOK.frame hMr_322 go_.2.2.2.1 mq2_ kq2_ (by decide) (by decide) hG_162
            have g := g.more hF_331
            refine lv_goto (tgt := 191) hx hb dX2_readStatement_154 (by decide) ?_
            subst hQ
            exact W.vret hx hb hr (fun t ht hW => ⟨⟨_, rfl, Or.inl ⟨hG_341, x_323, h_324, x_325, h_326, (g.fcts [0, 1] rfl)⟩, q3_of g hK ht hW⟩, g.2.2.1.F ht⟩) g.2.2.1.2.2 dX2_readStatement_191
          · have hG_342 := eOK.frame hMr_322 go_.2.2.2.1 mq2_ kq2_ (by decide) (by decide) hG_162
            have g := g.more hF_340
            refine lv_goto (tgt := 191) hx hb dX2_readStatement_154 (by decide) ?_
            subst hQ
            exact W.vret hx hb hr (fun t ht hW => ⟨⟨_, rfl, Or.inr (⟨hG_342, x_332, h_333, x_336, h_337, x_334, h_335, (g.fcts [0, 2, 1] rfl)⟩), q3_of g hK ht hW⟩, g.2.2.1.F ht⟩) g.2.2.1.2.2 dX2_readStatement_191
        refine lv_tableOut (tgt := 157) hx hb dX2_readStatement_90 (by have a0 : r_1.toInt ≠ 22 := fun h => e_163 (Int32.toInt_inj.mp (h.trans (by decide))); have a1 : r_1.toInt ≠ 23 := fun h => e_185 (Int32.toInt_inj.mp (h.trans (by decide))); have a2 : r_1.toInt ≠ 24 := fun h => e_205 (Int32.toInt_inj.mp (h.trans (by decide))); have a3 : r_1.toInt ≠ 25 := fun h => e_279 (Int32.toInt_inj.mp (h.trans (by decide))); have a4 : r_1.toInt ≠ 26 := fun h => e_299 (Int32.toInt_inj.mp (h.trans (by decide))); have a5 : r_1.toInt ≠ 27 := fun h => e_319 (Int32.toInt_inj.mp (h.trans (by decide))); omega) (by decide) ?_
        refine lv_iload_n hx hb dX2_readStatement_157 rfl (lv_at hl 0 rfl) ?_
        refine lv_bipush (v := 11) hx hb dX2_readStatement_158 (by decide) ?_
        have kb_11 : bd 11 11 (11 : Int32) := ⟨by decide, by decide⟩
        refine lv_icmp_ne (tgt := 173) hx hb dX2_readStatement_160 (by decide) (fun c_343 => ?_) (fun c_343 => ?_)
        · have fc_343 := neq_f c_343
          refine lv_aload_n hx hb dX2_readStatement_173 rfl (lv_at hl 1 rfl) ?_
          have go_ := g
          refine g_calli (va_runV (As := []) (rest := []) ⟨hx, hb, hml, hown, hts⟩ (r_X2_findNamed_2 l dC dI L kd tys fr_158 H.size g.2.2.2.1 a0_ ma0_ ka0_ q0_ mq0_ kq0_ q1_ mq1_ kq1_ q3_ mq3_ kq3_ q4_ mq4_ kq4_ q9_ mq9_ kq9_ y0_ by0_ (g.fcts [3, 4, 6, 7, 12, 13] rfl)) (cwV 0 hts (gV_ t_1388 t_1390 t_49 t_183 t_1391) rfl rfl rfl (by decide +kernel) ⟨(Nat.le_of_ble_eq_true rfl), (Nat.le_of_ble_eq_true rfl)⟩) (pre3V g hK ma0_ ka0_ (by decide) (q := (RX2, TX2, 16)) rfl) rfl rfl hl.1 rfl (lv_room (Nat.le_of_ble_eq_true rfl)) dX2_readStatement_174 ⟨(Nat.le_of_ble_eq_true rfl), (Nat.le_of_ble_eq_true rfl)⟩) g hK (by decide) (by decide) (fx' := [(7, 6, q3_, .int x_159), (7, 15, q3_, .int x_154), (6, 10, q5_, .int y_148), (2, 0, a0_, .ref q0_), (2, 1, a0_, .ref q1_), (2, 2, a0_, .ref q2_), (2, 3, a0_, .ref q3_), (2, 4, a0_, .ref q4_), (2, 5, a0_, .ref q5_), (0, 0, q2_, .ref q0_), (0, 1, q2_, .ref q1_), (5, 0, q1_, .ref q8_), (5, 1, q1_, .ref q9_)]) rfl (fun r_344 fr_344 H locs hp hMr_344 g => ?_)
          rcases hp with ⟨h_345, x_346, h_347, x_348, h_349, x_350, h_351, hF_352⟩ | ⟨h_353, x_354, h_355, hF_356⟩
          · have hG_357 := eOK.frame hMr_344 go_.2.2.2.1 mq2_ kq2_ (by decide) (by decide) hG_162
            have g := g.more hF_352
            have kb_0 : bd 0 0 (0 : Int32) := ⟨by decide, by decide⟩
            refine lv_if_eq (tgt := 187) hx hb dX2_readStatement_177 (by decide) (fun c_358 => ?_) (fun c_358 => ?_)
            · have fc_358 := eq_f c_358
              have b_359 : bd 0 0 r_344 := eqX fc_358 h_345 kb_0 (by decide)
              refine lv_aload_n hx hb dX2_readStatement_187 rfl (lv_at hl 1 rfl) ?_
              have go_ := g
              refine g_callv (va_runV (As := []) (rest := []) ⟨hx, hb, hml, hown, hts⟩ (r_X2_readAssignment_2 l dC dI L kd tys fr_344 H.size g.2.2.2.1 a0_ ma0_ ka0_ q0_ mq0_ kq0_ q1_ mq1_ kq1_ q2_ mq2_ kq2_ q3_ mq3_ kq3_ q4_ mq4_ kq4_ q8_ mq8_ kq8_ q9_ mq9_ kq9_ x_350 h_351 hG_357 (g.fcts [6, 7, 8, 9, 10, 12, 13, 14, 15, 2] rfl)) (cwV 0 hts (gV_ t_1397 t_1399 t_51 t_183 t_1400) rfl rfl rfl (by decide +kernel) ⟨(Nat.le_of_ble_eq_true rfl), (Nat.le_of_ble_eq_true rfl)⟩) (pre3V g hK ma0_ ka0_ (by decide) (q := (RX2, TX2, 16)) rfl) rfl rfl hl.1 rfl (lv_room (Nat.le_of_ble_eq_true rfl)) dX2_readStatement_188 ⟨(Nat.le_of_ble_eq_true rfl), (Nat.le_of_ble_eq_true rfl)⟩) g hK (by decide) (by decide) (fx' := [(2, 15, a0_, .int x_346), (7, 15, q3_, .int x_154), (6, 10, q5_, .int y_148), (2, 0, a0_, .ref q0_), (2, 1, a0_, .ref q1_), (2, 2, a0_, .ref q2_), (2, 3, a0_, .ref q3_), (2, 4, a0_, .ref q4_), (2, 5, a0_, .ref q5_), (0, 0, q2_, .ref q0_), (0, 1, q2_, .ref q1_), (5, 0, q1_, .ref q8_), (5, 1, q1_, .ref q9_)]) rfl (fun fr_360 H locs hp hMr_360 g => ?_)
              rcases hp with ⟨hG_361, x_362, h_363, x_364, h_365, x_366, h_367, hF_368⟩ | ⟨hG_369, x_370, h_371, x_372, h_373, x_374, h_375, hF_376⟩
              · have g := g.more hF_368
                subst hQ
                exact W.vret hx hb hr (fun t ht hW => ⟨⟨_, rfl, Or.inl ⟨hG_361, x_362, h_363, x_364, h_365, (g.fcts [0, 1] rfl)⟩, q3_of g hK ht hW⟩, g.2.2.1.F ht⟩) g.2.2.1.2.2 dX2_readStatement_191
              · have g := g.more hF_376
                subst hQ
                exact W.vret hx hb hr (fun t ht hW => ⟨⟨_, rfl, Or.inr (⟨hG_369, x_370, h_371, x_374, h_375, x_372, h_373, (g.fcts [0, 2, 1] rfl)⟩), q3_of g hK ht hW⟩, g.2.2.1.F ht⟩) g.2.2.1.2.2 dX2_readStatement_191
            · have fc_358 := neq_f c_358
              have b_377 : bd 1 1 r_344 := neX fc_358 h_345 kb_0 (by decide)
              refine lv_aload_n hx hb dX2_readStatement_180 rfl (lv_at hl 1 rfl) ?_
              have go_ := g
              refine g_callv (va_runV (As := []) (rest := []) ⟨hx, hb, hml, hown, hts⟩ (r_X2_readArguments_2 l dC dI L kd tys fr_344 H.size g.2.2.2.1 a0_ ma0_ ka0_ q0_ mq0_ kq0_ q1_ mq1_ kq1_ q2_ mq2_ kq2_ q3_ mq3_ kq3_ q8_ mq8_ kq8_ q9_ mq9_ kq9_ x_350 h_351 hG_357 (g.fcts [6, 7, 8, 9, 12, 13, 14, 15, 2] rfl)) (cwV 0 hts (gV_ t_1393 t_1395 t_50 t_183 t_1396) rfl rfl rfl (by decide +kernel) ⟨(Nat.le_of_ble_eq_true rfl), (Nat.le_of_ble_eq_true rfl)⟩) (pre3V g hK ma0_ ka0_ (by decide) (q := (RX2, TX2, 16)) rfl) rfl rfl hl.1 rfl (lv_room (Nat.le_of_ble_eq_true rfl)) dX2_readStatement_181 ⟨(Nat.le_of_ble_eq_true rfl), (Nat.le_of_ble_eq_true rfl)⟩) g hK (by decide) (by decide) (fx' := [(2, 15, a0_, .int x_346), (7, 15, q3_, .int x_154), (6, 10, q5_, .int y_148), (2, 0, a0_, .ref q0_), (2, 1, a0_, .ref q1_), (2, 2, a0_, .ref q2_), (2, 3, a0_, .ref q3_), (2, 4, a0_, .ref q4_), (2, 5, a0_, .ref q5_), (0, 0, q2_, .ref q0_), (0, 1, q2_, .ref q1_), (5, 0, q1_, .ref q8_), (5, 1, q1_, .ref q9_)]) rfl (fun fr_378 H locs hp hMr_378 g => ?_)
              rcases hp with ⟨hG_379, x_380, h_381, x_382, h_383, x_384, h_385, hF_386⟩ | ⟨hG_387, x_388, h_389, x_390, h_391, x_392, h_393, hF_394⟩
              · have g := g.more hF_386
                refine lv_goto (tgt := 191) hx hb dX2_readStatement_184 (by decide) ?_
                subst hQ
                exact W.vret hx hb hr (fun t ht hW => ⟨⟨_, rfl, Or.inl ⟨hG_379, x_380, h_381, x_382, h_383, (g.fcts [0, 1] rfl)⟩, q3_of g hK ht hW⟩, g.2.2.1.F ht⟩) g.2.2.1.2.2 dX2_readStatement_191
              · have g := g.more hF_394
                refine lv_goto (tgt := 191) hx hb dX2_readStatement_184 (by decide) ?_
                subst hQ
                exact W.vret hx hb hr (fun t ht hW => ⟨⟨_, rfl, Or.inr (⟨hG_387, x_388, h_389, x_392, h_393, x_390, h_391, (g.fcts [0, 2, 1] rfl)⟩), q3_of g hK ht hW⟩, g.2.2.1.F ht⟩) g.2.2.1.2.2 dX2_readStatement_191
          · have hG_395 := eOK.frame hMr_344 go_.2.2.2.1 mq2_ kq2_ (by decide) (by decide) hG_162
            have g := g.more hF_356
            have kb_0 : bd 0 0 (0 : Int32) := ⟨by decide, by decide⟩
            refine lv_if_eq (tgt := 187) hx hb dX2_readStatement_177 (by decide) (fun c_396 => ?_) (fun c_396 => ?_)
            · have fc_396 := eq_f c_396
              have b_397 : bd 0 0 r_344 := eqX fc_396 h_353 kb_0 (by decide)
              refine lv_aload_n hx hb dX2_readStatement_187 rfl (lv_at hl 1 rfl) ?_
              have kb_1201 : bd 1201 1201 (1201 : Int32) := ⟨by decide, by decide⟩
              have go_ := g
              refine g_callv (va_runV (As := []) (rest := []) ⟨hx, hb, hml, hown, hts⟩ (r_X2_readAssignment l dC dI L kd tys fr_344 H.size g.2.2.2.1 a0_ ma0_ ka0_ q0_ mq0_ kq0_ q1_ mq1_ kq1_ q2_ mq2_ kq2_ q3_ mq3_ kq3_ q4_ mq4_ kq4_ q8_ mq8_ kq8_ q9_ mq9_ kq9_ 1201 kb_1201 x_354 h_355 hG_395 (g.fcts [5, 6, 7, 8, 9, 11, 12, 13, 14, 0, 1] rfl)) (cwV 0 hts (gV_ t_1397 t_1399 t_51 t_183 t_1400) rfl rfl rfl (by decide +kernel) ⟨(Nat.le_of_ble_eq_true rfl), (Nat.le_of_ble_eq_true rfl)⟩) (pre3V g hK ma0_ ka0_ (by decide) (q := (RX2, TX2, 16)) rfl) rfl rfl hl.1 rfl (lv_room (Nat.le_of_ble_eq_true rfl)) dX2_readStatement_188 ⟨(Nat.le_of_ble_eq_true rfl), (Nat.le_of_ble_eq_true rfl)⟩) g hK (by decide) (by decide) (fx' := [(8, 8, q0_, .int x_354), (7, 15, q3_, .int x_154), (6, 10, q5_, .int y_148), (2, 0, a0_, .ref q0_), (2, 1, a0_, .ref q1_), (2, 2, a0_, .ref q2_), (2, 3, a0_, .ref q3_), (2, 4, a0_, .ref q4_), (2, 5, a0_, .ref q5_), (0, 0, q2_, .ref q0_), (0, 1, q2_, .ref q1_), (5, 0, q1_, .ref q8_), (5, 1, q1_, .ref q9_)]) rfl (fun fr_398 H locs hp hMr_398 g => ?_)
              obtain ⟨x_399, h_400, x_401, h_402, hF_403⟩ := hp
              have hG_404 := eOK.frame hMr_398 go_.2.2.2.1 mq2_ kq2_ (by decide) (by decide) hG_395
              have g := g.more hF_403
              subst hQ
              exact W.vret hx hb hr (fun t ht hW => ⟨⟨_, rfl, Or.inr (⟨hG_404, x_399, h_400, x_401, h_402, x_354, h_355, (g.fcts [0, 1, 8] rfl)⟩), q3_of g hK ht hW⟩, g.2.2.1.F ht⟩) g.2.2.1.2.2 dX2_readStatement_191
            · have fc_396 := neq_f c_396
              have b_405 : bd 1 1 r_344 := neX fc_396 h_353 kb_0 (by decide)
              refine lv_aload_n hx hb dX2_readStatement_180 rfl (lv_at hl 1 rfl) ?_
              have kb_1201 : bd 1201 1201 (1201 : Int32) := ⟨by decide, by decide⟩
              have go_ := g
              refine g_callv (va_runV (As := []) (rest := []) ⟨hx, hb, hml, hown, hts⟩ (r_X2_readArguments_3 l dC dI L kd tys fr_344 H.size g.2.2.2.1 a0_ ma0_ ka0_ q0_ mq0_ kq0_ q1_ mq1_ kq1_ q2_ mq2_ kq2_ q3_ mq3_ kq3_ q8_ mq8_ kq8_ q9_ mq9_ kq9_ 1201 kb_1201 x_354 h_355 hG_395 (g.fcts [5, 6, 7, 8, 11, 12, 13, 14, 0, 1] rfl)) (cwV 0 hts (gV_ t_1393 t_1395 t_50 t_183 t_1396) rfl rfl rfl (by decide +kernel) ⟨(Nat.le_of_ble_eq_true rfl), (Nat.le_of_ble_eq_true rfl)⟩) (pre3V g hK ma0_ ka0_ (by decide) (q := (RX2, TX2, 16)) rfl) rfl rfl hl.1 rfl (lv_room (Nat.le_of_ble_eq_true rfl)) dX2_readStatement_181 ⟨(Nat.le_of_ble_eq_true rfl), (Nat.le_of_ble_eq_true rfl)⟩) g hK (by decide) (by decide) (fx' := [(8, 8, q0_, .int x_354), (7, 15, q3_, .int x_154), (6, 10, q5_, .int y_148), (2, 0, a0_, .ref q0_), (2, 1, a0_, .ref q1_), (2, 2, a0_, .ref q2_), (2, 3, a0_, .ref q3_), (2, 4, a0_, .ref q4_), (2, 5, a0_, .ref q5_), (0, 0, q2_, .ref q0_), (0, 1, q2_, .ref q1_), (5, 0, q1_, .ref q8_), (5, 1, q1_, .ref q9_)]) rfl (fun fr_406 H locs hp hMr_406 g => ?_)
              obtain ⟨x_407, h_408, x_409, h_410, hF_411⟩ := hp
              have hG_412 := eOK.frame hMr_406 go_.2.2.2.1 mq2_ kq2_ (by decide) (by decide) hG_395
              have g := g.more hF_411
              refine lv_goto (tgt := 191) hx hb dX2_readStatement_184 (by decide) ?_
              subst hQ
              exact W.vret hx hb hr (fun t ht hW => ⟨⟨_, rfl, Or.inr (⟨hG_412, x_407, h_408, x_409, h_410, x_354, h_355, (g.fcts [0, 1, 2] rfl)⟩), q3_of g hK ht hW⟩, g.2.2.1.F ht⟩) g.2.2.1.2.2 dX2_readStatement_191
        · have fc_343 := eq_f c_343
          have b_413 : bd 11 11 r_1 := eqX fc_343 b_144 kb_11 (by decide)
          refine lv_aload_n hx hb dX2_readStatement_163 rfl (lv_at hl 1 rfl) ?_
          have go_ := g
          refine g_calli (va_runV (As := []) (rest := []) ⟨hx, hb, hml, hown, hts⟩ (r_X2_findAbove_2 l dC dI L kd tys fr_158 H.size g.2.2.2.1 a0_ ma0_ ka0_ q0_ mq0_ kq0_ q3_ mq3_ kq3_ q4_ mq4_ kq4_ y0_ by0_ (g.fcts [3, 6, 7, 13] rfl)) (cwV 0 hts (gV_ t_1383 t_1385 t_48 t_183 t_1386) rfl rfl rfl (by decide +kernel) ⟨(Nat.le_of_ble_eq_true rfl), (Nat.le_of_ble_eq_true rfl)⟩) (pre3V g hK ma0_ ka0_ (by decide) (q := (RX2, TX2, 16)) rfl) rfl rfl hl.1 rfl (lv_room (Nat.le_of_ble_eq_true rfl)) dX2_readStatement_164 ⟨(Nat.le_of_ble_eq_true rfl), (Nat.le_of_ble_eq_true rfl)⟩) g hK (by decide) (by decide) (fx' := [(7, 6, q3_, .int x_159), (7, 15, q3_, .int x_154), (6, 10, q5_, .int y_148), (2, 0, a0_, .ref q0_), (2, 1, a0_, .ref q1_), (2, 2, a0_, .ref q2_), (2, 3, a0_, .ref q3_), (2, 4, a0_, .ref q4_), (2, 5, a0_, .ref q5_), (0, 0, q2_, .ref q0_), (0, 1, q2_, .ref q1_), (5, 0, q1_, .ref q8_), (5, 1, q1_, .ref q9_)]) rfl (fun r_414 fr_414 H locs hp hMr_414 g => ?_)
          rcases hp with ⟨h_415, x_416, h_417, x_418, h_419, x_420, h_421, x_422, h_423, x_424, h_425, hF_426⟩ | ⟨h_427, x_428, h_429, hF_430⟩
          · have hG_431 := eOK.frame hMr_414 go_.2.2.2.1 mq2_ kq2_ (by decide) (by decide) hG_162
            obtain rfl : r_414 = 1 := h_415
            have g := g.more hF_426
            refine lv_if_eq (tgt := 187) hx hb dX2_readStatement_167 (by decide) (fun c_ => absurd c_ (by decide)) (fun c_ => ?_)
            refine lv_goto (tgt := 180) hx hb dX2_readStatement_170 (by decide) ?_
            refine lv_aload_n hx hb dX2_readStatement_180 rfl (lv_at hl 1 rfl) ?_
            have go_ := g
            refine g_callv (va_runV (As := []) (rest := []) ⟨hx, hb, hml, hown, hts⟩ (r_X2_readArguments_2 l dC dI L kd tys fr_414 H.size g.2.2.2.1 a0_ ma0_ ka0_ q0_ mq0_ kq0_ q1_ mq1_ kq1_ q2_ mq2_ kq2_ q3_ mq3_ kq3_ q8_ mq8_ kq8_ q9_ mq9_ kq9_ x_420 h_421 hG_431 (g.fcts [9, 10, 11, 12, 15, 16, 17, 18, 3] rfl)) (cwV 0 hts (gV_ t_1393 t_1395 t_50 t_183 t_1396) rfl rfl rfl (by decide +kernel) ⟨(Nat.le_of_ble_eq_true rfl), (Nat.le_of_ble_eq_true rfl)⟩) (pre3V g hK ma0_ ka0_ (by decide) (q := (RX2, TX2, 16)) rfl) rfl rfl hl.1 rfl (lv_room (Nat.le_of_ble_eq_true rfl)) dX2_readStatement_181 ⟨(Nat.le_of_ble_eq_true rfl), (Nat.le_of_ble_eq_true rfl)⟩) g hK (by decide) (by decide) (fx' := [(2, 14, a0_, .int x_418), (2, 12, a0_, .int 18), (7, 1, q3_, .int x_422), (9, 1, q4_, .int x_424), (7, 15, q3_, .int x_154), (6, 10, q5_, .int y_148), (2, 0, a0_, .ref q0_), (2, 1, a0_, .ref q1_), (2, 2, a0_, .ref q2_), (2, 3, a0_, .ref q3_), (2, 4, a0_, .ref q4_), (2, 5, a0_, .ref q5_), (0, 0, q2_, .ref q0_), (0, 1, q2_, .ref q1_), (5, 0, q1_, .ref q8_), (5, 1, q1_, .ref q9_)]) rfl (fun fr_432 H locs hp hMr_432 g => ?_)
            rcases hp with ⟨hG_433, x_434, h_435, x_436, h_437, x_438, h_439, hF_440⟩ | ⟨hG_441, x_442, h_443, x_444, h_445, x_446, h_447, hF_448⟩
            · have g := g.more hF_440
              refine lv_goto (tgt := 191) hx hb dX2_readStatement_184 (by decide) ?_
              subst hQ
              exact W.vret hx hb hr (fun t ht hW => ⟨⟨_, rfl, Or.inl ⟨hG_433, x_434, h_435, x_436, h_437, (g.fcts [0, 1] rfl)⟩, q3_of g hK ht hW⟩, g.2.2.1.F ht⟩) g.2.2.1.2.2 dX2_readStatement_191
            · have g := g.more hF_448
              refine lv_goto (tgt := 191) hx hb dX2_readStatement_184 (by decide) ?_
              subst hQ
              exact W.vret hx hb hr (fun t ht hW => ⟨⟨_, rfl, Or.inr (⟨hG_441, x_442, h_443, x_446, h_447, x_444, h_445, (g.fcts [0, 2, 1] rfl)⟩), q3_of g hK ht hW⟩, g.2.2.1.F ht⟩) g.2.2.1.2.2 dX2_readStatement_191
          · have hG_449 := eOK.frame hMr_414 go_.2.2.2.1 mq2_ kq2_ (by decide) (by decide) hG_162
            obtain rfl : r_414 = 1 := h_427
            have g := g.more hF_430
            refine lv_if_eq (tgt := 187) hx hb dX2_readStatement_167 (by decide) (fun c_ => absurd c_ (by decide)) (fun c_ => ?_)
            refine lv_goto (tgt := 180) hx hb dX2_readStatement_170 (by decide) ?_
            refine lv_aload_n hx hb dX2_readStatement_180 rfl (lv_at hl 1 rfl) ?_
            have kb_1201 : bd 1201 1201 (1201 : Int32) := ⟨by decide, by decide⟩
            have go_ := g
            refine g_callv (va_runV (As := []) (rest := []) ⟨hx, hb, hml, hown, hts⟩ (r_X2_readArguments_3 l dC dI L kd tys fr_414 H.size g.2.2.2.1 a0_ ma0_ ka0_ q0_ mq0_ kq0_ q1_ mq1_ kq1_ q2_ mq2_ kq2_ q3_ mq3_ kq3_ q8_ mq8_ kq8_ q9_ mq9_ kq9_ 1201 kb_1201 x_428 h_429 hG_449 (g.fcts [5, 6, 7, 8, 11, 12, 13, 14, 0, 1] rfl)) (cwV 0 hts (gV_ t_1393 t_1395 t_50 t_183 t_1396) rfl rfl rfl (by decide +kernel) ⟨(Nat.le_of_ble_eq_true rfl), (Nat.le_of_ble_eq_true rfl)⟩) (pre3V g hK ma0_ ka0_ (by decide) (q := (RX2, TX2, 16)) rfl) rfl rfl hl.1 rfl (lv_room (Nat.le_of_ble_eq_true rfl)) dX2_readStatement_181 ⟨(Nat.le_of_ble_eq_true rfl), (Nat.le_of_ble_eq_true rfl)⟩) g hK (by decide) (by decide) (fx' := [(8, 8, q0_, .int x_428), (7, 15, q3_, .int x_154), (6, 10, q5_, .int y_148), (2, 0, a0_, .ref q0_), (2, 1, a0_, .ref q1_), (2, 2, a0_, .ref q2_), (2, 3, a0_, .ref q3_), (2, 4, a0_, .ref q4_), (2, 5, a0_, .ref q5_), (0, 0, q2_, .ref q0_), (0, 1, q2_, .ref q1_), (5, 0, q1_, .ref q8_), (5, 1, q1_, .ref q9_)]) rfl (fun fr_450 H locs hp hMr_450 g => ?_)
            obtain ⟨x_451, h_452, x_453, h_454, hF_455⟩ := hp
            have hG_456 := eOK.frame hMr_450 go_.2.2.2.1 mq2_ kq2_ (by decide) (by decide) hG_449
            have g := g.more hF_455
            refine lv_goto (tgt := 191) hx hb dX2_readStatement_184 (by decide) ?_
            subst hQ
            exact W.vret hx hb hr (fun t ht hW => ⟨⟨_, rfl, Or.inr (⟨hG_456, x_451, h_452, x_453, h_454, x_428, h_429, (g.fcts [0, 1, 2] rfl)⟩), q3_of g hK ht hW⟩, g.2.2.1.F ht⟩) g.2.2.1.2.2 dX2_readStatement_191
      · have fc_146 := nlt_f c_146
        have b_457 : bd 40 2147483647 x_145 := leR fc_146 kb_40 (bdT x_145) (by decide)
        refine lv_aload_n hx hb dX2_readStatement_56 rfl (lv_at hl 1 rfl) ?_
        have go_ := g
        refine g_callv (va_runV (As := []) (rest := []) ⟨hx, hb, hml, hown, hts⟩ (r_X2_refuseStatement l dC dI L kd tys fr_4 H.size g.2.2.2.1 a0_ ma0_ ka0_ q0_ mq0_ kq0_ q1_ mq1_ kq1_ q3_ mq3_ kq3_ q4_ mq4_ kq4_ q9_ mq9_ kq9_ y0_ by0_ (g.fcts [1, 2, 4, 5, 10, 11] rfl)) (cwV 0 hts (gV_ t_1354 t_1356 t_43 t_183 t_1357) rfl rfl rfl (by decide +kernel) ⟨(Nat.le_of_ble_eq_true rfl), (Nat.le_of_ble_eq_true rfl)⟩) (pre3V g hK ma0_ ka0_ (by decide) (q := (RX2, TX2, 16)) rfl) rfl rfl hl.1 rfl (lv_room (Nat.le_of_ble_eq_true rfl)) dX2_readStatement_57 ⟨(Nat.le_of_ble_eq_true rfl), (Nat.le_of_ble_eq_true rfl)⟩) g hK (by decide) (by decide) (fx' := [(6, 10, q5_, .int x_145), (2, 0, a0_, .ref q0_), (2, 1, a0_, .ref q1_), (2, 2, a0_, .ref q2_), (2, 3, a0_, .ref q3_), (2, 4, a0_, .ref q4_), (2, 5, a0_, .ref q5_), (0, 0, q2_, .ref q0_), (0, 1, q2_, .ref q1_), (5, 0, q1_, .ref q8_), (5, 1, q1_, .ref q9_)]) rfl (fun fr_458 H locs hp hMr_458 g => ?_)
        obtain ⟨x_459, h_460, hF_461⟩ := hp
        have hG_462 := eOK.frame hMr_458 go_.2.2.2.1 mq2_ kq2_ (by decide) (by decide) hG_143
        have g := g.more hF_461
        refine lv_aload_n hx hb dX2_readStatement_60 rfl (lv_at hl 1 rfl) ?_
        refine g_getk (C := RX2) (T := TX2) (N := 16) hx hb hts (mc_ inX2) hown hK g rfl 5 (by decide) rfl (hts _ (List.mem_cons_of_mem _ t_421)) (fun _ h9 => h9) 8 rfl dX2_readStatement_61 ?_
        refine lv_dup hx hb dX2_readStatement_64 rfl ?_
        refine g_getk (C := RX6) (T := TX6) (N := 13) hx hb hts (mc_ inX6) hown hK g rfl 10 (by decide) rfl (hts _ (List.mem_cons_of_mem _ t_588)) (fun _ h9 => h9) 2 rfl dX2_readStatement_65 ?_
        refine lv_iconst (v := 1) hx hb dX2_readStatement_68 (by decide) ?_
        have kb_1 : bd 1 1 (1 : Int32) := ⟨by decide, by decide⟩
        refine lv_iadd hx hb dX2_readStatement_69 ?_
        refine lv_topi (fun y_463 ey_463 => ?_)
        have go_ := g
        refine g_put (C := RX6) (T := TX6) (N := 13) hx hb hts (mc_ inX6) tyX6 tyX6_ok nmX6 hown hK g mq5_ kq5_ (by decide) rfl 10 (by decide) (hts _ (List.mem_cons_of_mem _ t_588)) (fun _ h9 => h9) rfl rfl (okV_i (bdT y_463)) rfl rfl (by decide) (Or.inr (Or.inl (by decide))) (fx' := [(8, 6, q0_, .int 1201), (8, 8, q0_, .int x_459), (2, 0, a0_, .ref q0_), (2, 1, a0_, .ref q1_), (2, 2, a0_, .ref q2_), (2, 3, a0_, .ref q3_), (2, 4, a0_, .ref q4_), (2, 5, a0_, .ref q5_), (0, 0, q2_, .ref q0_), (0, 1, q2_, .ref q1_), (5, 0, q1_, .ref q8_), (5, 1, q1_, .ref q9_)]) rfl dX2_readStatement_70 (fun f H locs hM_464 g => ?_)
        have hG_465 := eOK.frame hM_464 go_.2.2.2.1 mq2_ kq2_ (by decide) (by decide) hG_462
        refine lv_aload_n hx hb dX2_readStatement_73 rfl (lv_at hl 1 rfl) ?_
        refine g_getk (C := RX2) (T := TX2) (N := 16) hx hb hts (mc_ inX2) hown hK g rfl 3 (by decide) rfl (hts _ (List.mem_cons_of_mem _ t_419)) (fun _ h9 => h9) 6 rfl dX2_readStatement_74 ?_
        refine lv_bipush (v := 12) hx hb dX2_readStatement_77 (by decide) ?_
        refine lv_aload_n hx hb dX2_readStatement_79 rfl (lv_at hl 1 rfl) ?_
        refine g_getk (C := RX2) (T := TX2) (N := 16) hx hb hts (mc_ inX2) hown hK g rfl 3 (by decide) rfl (hts _ (List.mem_cons_of_mem _ t_419)) (fun _ h9 => h9) 6 rfl dX2_readStatement_80 ?_
        have go_ := g
        refine g_calli (va_runV (As := []) (rest := [.int 12, .ref q3_]) ⟨hx, hb, hml, hown, hts⟩ (r_X7_addStatement l dC dI L kd tys f H.size g.2.2.2.1 q3_ mq3_ kq3_) (cwV 0 hts (gV_ t_1359 t_1360 t_1361 t_191 t_1362) rfl rfl rfl (by decide +kernel) ⟨(Nat.le_of_ble_eq_true rfl), (Nat.le_of_ble_eq_true rfl)⟩) (pre3V g hK mq3_ kq3_ (by decide) (q := (RX7, TX7, 19)) rfl) rfl rfl hl.1 rfl (lv_room (Nat.le_of_ble_eq_true rfl)) dX2_readStatement_83 ⟨(Nat.le_of_ble_eq_true rfl), (Nat.le_of_ble_eq_true rfl)⟩) g hK (by decide) (by decide) (fx' := [(6, 10, q5_, .int y_463), (8, 6, q0_, .int 1201), (8, 8, q0_, .int x_459), (2, 0, a0_, .ref q0_), (2, 1, a0_, .ref q1_), (2, 2, a0_, .ref q2_), (2, 3, a0_, .ref q3_), (2, 4, a0_, .ref q4_), (2, 5, a0_, .ref q5_), (0, 0, q2_, .ref q0_), (0, 1, q2_, .ref q1_), (5, 0, q1_, .ref q8_), (5, 1, q1_, .ref q9_)]) rfl (fun r_466 fr_466 H locs hp hMr_466 g => ?_)
        obtain ⟨h_467, x_468, h_469, hF_470⟩ := hp
        have hG_471 := eOK.frame hMr_466 go_.2.2.2.1 mq2_ kq2_ (by decide) (by decide) hG_465
        have g := g.more hF_470
        have go_ := g
        refine g_callv (va_runV (As := [.int 12, .int r_466]) (rest := []) ⟨hx, hb, hml, hown, hts⟩ (r_X7_emit l dC dI L kd tys fr_466 H.size g.2.2.2.1 q3_ mq3_ kq3_ 12 r_466) (cwV 2 hts (gV_ t_1301 t_1204 t_1205 t_191 t_1206) rfl rfl rfl (by decide +kernel) ⟨(Nat.le_of_ble_eq_true rfl), (Nat.le_of_ble_eq_true rfl)⟩) (pre3V g hK mq3_ kq3_ (by decide) (q := (RX7, TX7, 19)) rfl) rfl rfl hl.1 rfl (lv_room (Nat.le_of_ble_eq_true rfl)) dX2_readStatement_86 ⟨(Nat.le_of_ble_eq_true rfl), (Nat.le_of_ble_eq_true rfl)⟩) g hK (by decide) (by decide) (fx' := [(7, 15, q3_, .int x_468), (6, 10, q5_, .int y_463), (8, 6, q0_, .int 1201), (8, 8, q0_, .int x_459), (2, 0, a0_, .ref q0_), (2, 1, a0_, .ref q1_), (2, 2, a0_, .ref q2_), (2, 3, a0_, .ref q3_), (2, 4, a0_, .ref q4_), (2, 5, a0_, .ref q5_), (0, 0, q2_, .ref q0_), (0, 1, q2_, .ref q1_), (5, 0, q1_, .ref q8_), (5, 1, q1_, .ref q9_)]) rfl (fun fr_472 H locs hp hMr_472 g => ?_)
        obtain ⟨x_473, h_474, hF_475⟩ := hp
        have hG_476 := eOK.frame hMr_472 go_.2.2.2.1 mq2_ kq2_ (by decide) (by decide) hG_471
        have g := g.more hF_475
        refine lv_iload_n hx hb dX2_readStatement_89 rfl (lv_at hl 0 rfl) ?_
        by_cases e_477 : r_1 = 22
        · refine lv_topi (fun z_478 ez_478 => ?_)
          obtain rfl : z_478 = 22 := ez_478.trans e_477
          have kb_22 : bd 22 22 (22 : Int32) := ⟨by decide, by decide⟩
          have b_479 : bd 22 22 r_1 := eqX (eq_f e_477) b_144 kb_22 (by decide)
          refine lv_tableIn (off := 38) (tgt := 128) hx hb dX2_readStatement_90 (by decide) (by decide) rfl (by decide) ?_
          refine lv_aload_n hx hb dX2_readStatement_128 rfl (lv_at hl 1 rfl) ?_
          have kb_1201 : bd 1201 1201 (1201 : Int32) := ⟨by decide, by decide⟩
          have go_ := g
          refine g_callv (va_runV (As := []) (rest := []) ⟨hx, hb, hml, hown, hts⟩ (r_X2_readLet l dC dI L kd tys fr_472 H.size g.2.2.2.1 a0_ ma0_ ka0_ q0_ mq0_ kq0_ q1_ mq1_ kq1_ q2_ mq2_ kq2_ q3_ mq3_ kq3_ q8_ mq8_ kq8_ q9_ mq9_ kq9_ 1201 kb_1201 x_459 h_460 hG_476 (g.fcts [5, 6, 7, 8, 11, 12, 13, 14, 3, 4] rfl)) (cwV 0 hts (gV_ t_1363 t_1365 t_44 t_183 t_1366) rfl rfl rfl (by decide +kernel) ⟨(Nat.le_of_ble_eq_true rfl), (Nat.le_of_ble_eq_true rfl)⟩) (pre3V g hK ma0_ ka0_ (by decide) (q := (RX2, TX2, 16)) rfl) rfl rfl hl.1 rfl (lv_room (Nat.le_of_ble_eq_true rfl)) dX2_readStatement_129 ⟨(Nat.le_of_ble_eq_true rfl), (Nat.le_of_ble_eq_true rfl)⟩) g hK (by decide) (by decide) (fx' := [(7, 15, q3_, .int x_468), (6, 10, q5_, .int y_463), (8, 8, q0_, .int x_459), (2, 0, a0_, .ref q0_), (2, 1, a0_, .ref q1_), (2, 2, a0_, .ref q2_), (2, 3, a0_, .ref q3_), (2, 4, a0_, .ref q4_), (2, 5, a0_, .ref q5_), (0, 0, q2_, .ref q0_), (0, 1, q2_, .ref q1_), (5, 0, q1_, .ref q8_), (5, 1, q1_, .ref q9_)]) rfl (fun fr_480 H locs hp hMr_480 g => ?_)
          obtain ⟨x_481, h_482, x_483, h_484, hF_485⟩ := hp
          have hG_486 := eOK.frame hMr_480 go_.2.2.2.1 mq2_ kq2_ (by decide) (by decide) hG_476
          have g := g.more hF_485
          refine lv_goto (tgt := 191) hx hb dX2_readStatement_132 (by decide) ?_
          subst hQ
          exact W.vret hx hb hr (fun t ht hW => ⟨⟨_, rfl, Or.inr (⟨hG_486, x_481, h_482, x_483, h_484, x_459, h_460, (g.fcts [0, 1, 10] rfl)⟩), q3_of g hK ht hW⟩, g.2.2.1.F ht⟩) g.2.2.1.2.2 dX2_readStatement_191
        by_cases e_487 : r_1 = 23
        · refine lv_topi (fun z_488 ez_488 => ?_)
          obtain rfl : z_488 = 23 := ez_488.trans e_487
          have kb_23 : bd 23 23 (23 : Int32) := ⟨by decide, by decide⟩
          have b_489 : bd 23 23 r_1 := eqX (eq_f e_487) b_144 kb_23 (by decide)
          refine lv_tableIn (off := 45) (tgt := 135) hx hb dX2_readStatement_90 (by decide) (by decide) rfl (by decide) ?_
          refine lv_aload_n hx hb dX2_readStatement_135 rfl (lv_at hl 1 rfl) ?_
          refine lv_iload_n hx hb dX2_readStatement_136 rfl (lv_at hl 0 rfl) ?_
          have kb_1201 : bd 1201 1201 (1201 : Int32) := ⟨by decide, by decide⟩
          have go_ := g
          refine g_callv (va_runV (As := [.int r_1]) (rest := []) ⟨hx, hb, hml, hown, hts⟩ (r_X2_readTest l dC dI L kd tys fr_472 H.size g.2.2.2.1 a0_ ma0_ ka0_ r_1 q0_ mq0_ kq0_ q1_ mq1_ kq1_ q2_ mq2_ kq2_ q3_ mq3_ kq3_ q8_ mq8_ kq8_ q9_ mq9_ kq9_ 1201 kb_1201 x_459 h_460 hG_476 (g.fcts [5, 6, 7, 8, 11, 12, 13, 14, 3, 4] rfl)) (cwV 1 hts (gV_ t_1367 t_1369 t_45 t_183 t_1370) rfl rfl rfl (by decide +kernel) ⟨(Nat.le_of_ble_eq_true rfl), (Nat.le_of_ble_eq_true rfl)⟩) (pre3V g hK ma0_ ka0_ (by decide) (q := (RX2, TX2, 16)) rfl) rfl rfl hl.1 rfl (lv_room (Nat.le_of_ble_eq_true rfl)) dX2_readStatement_137 ⟨(Nat.le_of_ble_eq_true rfl), (Nat.le_of_ble_eq_true rfl)⟩) g hK (by decide) (by decide) (fx' := [(7, 15, q3_, .int x_468), (6, 10, q5_, .int y_463), (8, 8, q0_, .int x_459), (2, 0, a0_, .ref q0_), (2, 1, a0_, .ref q1_), (2, 2, a0_, .ref q2_), (2, 3, a0_, .ref q3_), (2, 4, a0_, .ref q4_), (2, 5, a0_, .ref q5_), (0, 0, q2_, .ref q0_), (0, 1, q2_, .ref q1_), (5, 0, q1_, .ref q8_), (5, 1, q1_, .ref q9_)]) rfl (fun fr_490 H locs hp hMr_490 g => ?_)
          obtain ⟨x_491, h_492, hF_493⟩ := hp
          have hG_494 := eOK.frame hMr_490 go_.2.2.2.1 mq2_ kq2_ (by decide) (by decide) hG_476
          have g := g.more hF_493
          refine lv_goto (tgt := 191) hx hb dX2_readStatement_140 (by decide) ?_
          subst hQ
          exact W.vret hx hb hr (fun t ht hW => ⟨⟨_, rfl, Or.inr (⟨hG_494, 1201, kb_1201, x_491, h_492, x_459, h_460, (g.fcts [0, 1, 10] rfl)⟩), q3_of g hK ht hW⟩, g.2.2.1.F ht⟩) g.2.2.1.2.2 dX2_readStatement_191
        by_cases e_495 : r_1 = 24
        · refine lv_topi (fun z_496 ez_496 => ?_)
          obtain rfl : z_496 = 24 := ez_496.trans e_495
          have kb_24 : bd 24 24 (24 : Int32) := ⟨by decide, by decide⟩
          have b_497 : bd 24 24 r_1 := eqX (eq_f e_495) b_144 kb_24 (by decide)
          refine lv_tableIn (off := 67) (tgt := 157) hx hb dX2_readStatement_90 (by decide) (by decide) rfl (by decide) ?_
          refine lv_iload_n hx hb dX2_readStatement_157 rfl (lv_at hl 0 rfl) ?_
          refine lv_bipush (v := 11) hx hb dX2_readStatement_158 (by decide) ?_
          have kb_11 : bd 11 11 (11 : Int32) := ⟨by decide, by decide⟩
          refine lv_icmp_ne (tgt := 173) hx hb dX2_readStatement_160 (by decide) (fun c_498 => ?_) (fun c_498 => ?_)
          · have fc_498 := neq_f c_498
            refine lv_aload_n hx hb dX2_readStatement_173 rfl (lv_at hl 1 rfl) ?_
            have kb_1201 : bd 1201 1201 (1201 : Int32) := ⟨by decide, by decide⟩
            have go_ := g
            refine g_calli (va_runV (As := []) (rest := []) ⟨hx, hb, hml, hown, hts⟩ (r_X2_findNamed l dC dI L kd tys fr_472 H.size g.2.2.2.1 a0_ ma0_ ka0_ q0_ mq0_ kq0_ q1_ mq1_ kq1_ q3_ mq3_ kq3_ q4_ mq4_ kq4_ q9_ mq9_ kq9_ 1201 kb_1201 x_459 h_460 (g.fcts [5, 6, 8, 9, 14, 3, 4] rfl)) (cwV 0 hts (gV_ t_1388 t_1390 t_49 t_183 t_1391) rfl rfl rfl (by decide +kernel) ⟨(Nat.le_of_ble_eq_true rfl), (Nat.le_of_ble_eq_true rfl)⟩) (pre3V g hK ma0_ ka0_ (by decide) (q := (RX2, TX2, 16)) rfl) rfl rfl hl.1 rfl (lv_room (Nat.le_of_ble_eq_true rfl)) dX2_readStatement_174 ⟨(Nat.le_of_ble_eq_true rfl), (Nat.le_of_ble_eq_true rfl)⟩) g hK (by decide) (by decide) (fx' := [(7, 6, q3_, .int x_473), (7, 15, q3_, .int x_468), (6, 10, q5_, .int y_463), (8, 8, q0_, .int x_459), (2, 0, a0_, .ref q0_), (2, 1, a0_, .ref q1_), (2, 2, a0_, .ref q2_), (2, 3, a0_, .ref q3_), (2, 4, a0_, .ref q4_), (2, 5, a0_, .ref q5_), (0, 0, q2_, .ref q0_), (0, 1, q2_, .ref q1_), (5, 0, q1_, .ref q8_), (5, 1, q1_, .ref q9_)]) rfl (fun r_499 fr_499 H locs hp hMr_499 g => ?_)
            obtain ⟨h_500, x_501, h_502, hF_503⟩ := hp
            have hG_504 := eOK.frame hMr_499 go_.2.2.2.1 mq2_ kq2_ (by decide) (by decide) hG_476
            have g := g.more hF_503
            have kb_0 : bd 0 0 (0 : Int32) := ⟨by decide, by decide⟩
            refine lv_if_eq (tgt := 187) hx hb dX2_readStatement_177 (by decide) (fun c_505 => ?_) (fun c_505 => ?_)
            · have fc_505 := eq_f c_505
              have b_506 : bd 0 0 r_499 := eqX fc_505 h_500 kb_0 (by decide)
              refine lv_aload_n hx hb dX2_readStatement_187 rfl (lv_at hl 1 rfl) ?_
              have go_ := g
              refine g_callv (va_runV (As := []) (rest := []) ⟨hx, hb, hml, hown, hts⟩ (r_X2_readAssignment l dC dI L kd tys fr_499 H.size g.2.2.2.1 a0_ ma0_ ka0_ q0_ mq0_ kq0_ q1_ mq1_ kq1_ q2_ mq2_ kq2_ q3_ mq3_ kq3_ q4_ mq4_ kq4_ q8_ mq8_ kq8_ q9_ mq9_ kq9_ x_501 h_502 x_459 h_460 hG_504 (g.fcts [5, 6, 7, 8, 9, 11, 12, 13, 14, 0, 4] rfl)) (cwV 0 hts (gV_ t_1397 t_1399 t_51 t_183 t_1400) rfl rfl rfl (by decide +kernel) ⟨(Nat.le_of_ble_eq_true rfl), (Nat.le_of_ble_eq_true rfl)⟩) (pre3V g hK ma0_ ka0_ (by decide) (q := (RX2, TX2, 16)) rfl) rfl rfl hl.1 rfl (lv_room (Nat.le_of_ble_eq_true rfl)) dX2_readStatement_188 ⟨(Nat.le_of_ble_eq_true rfl), (Nat.le_of_ble_eq_true rfl)⟩) g hK (by decide) (by decide) (fx' := [(7, 15, q3_, .int x_468), (6, 10, q5_, .int y_463), (8, 8, q0_, .int x_459), (2, 0, a0_, .ref q0_), (2, 1, a0_, .ref q1_), (2, 2, a0_, .ref q2_), (2, 3, a0_, .ref q3_), (2, 4, a0_, .ref q4_), (2, 5, a0_, .ref q5_), (0, 0, q2_, .ref q0_), (0, 1, q2_, .ref q1_), (5, 0, q1_, .ref q8_), (5, 1, q1_, .ref q9_)]) rfl (fun fr_507 H locs hp hMr_507 g => ?_)
              obtain ⟨x_508, h_509, x_510, h_511, hF_512⟩ := hp
              have hG_513 := eOK.frame hMr_507 go_.2.2.2.1 mq2_ kq2_ (by decide) (by decide) hG_504
              have g := g.more hF_512
              subst hQ
              exact W.vret hx hb hr (fun t ht hW => ⟨⟨_, rfl, Or.inr (⟨hG_513, x_508, h_509, x_510, h_511, x_459, h_460, (g.fcts [0, 1, 10] rfl)⟩), q3_of g hK ht hW⟩, g.2.2.1.F ht⟩) g.2.2.1.2.2 dX2_readStatement_191
            · have fc_505 := neq_f c_505
              have b_514 : bd 1 1 r_499 := neX fc_505 h_500 kb_0 (by decide)
              refine lv_aload_n hx hb dX2_readStatement_180 rfl (lv_at hl 1 rfl) ?_
              have go_ := g
              refine g_callv (va_runV (As := []) (rest := []) ⟨hx, hb, hml, hown, hts⟩ (r_X2_readArguments_3 l dC dI L kd tys fr_499 H.size g.2.2.2.1 a0_ ma0_ ka0_ q0_ mq0_ kq0_ q1_ mq1_ kq1_ q2_ mq2_ kq2_ q3_ mq3_ kq3_ q8_ mq8_ kq8_ q9_ mq9_ kq9_ x_501 h_502 x_459 h_460 hG_504 (g.fcts [5, 6, 7, 8, 11, 12, 13, 14, 0, 4] rfl)) (cwV 0 hts (gV_ t_1393 t_1395 t_50 t_183 t_1396) rfl rfl rfl (by decide +kernel) ⟨(Nat.le_of_ble_eq_true rfl), (Nat.le_of_ble_eq_true rfl)⟩) (pre3V g hK ma0_ ka0_ (by decide) (q := (RX2, TX2, 16)) rfl) rfl rfl hl.1 rfl (lv_room (Nat.le_of_ble_eq_true rfl)) dX2_readStatement_181 ⟨(Nat.le_of_ble_eq_true rfl), (Nat.le_of_ble_eq_true rfl)⟩) g hK (by decide) (by decide) (fx' := [(7, 15, q3_, .int x_468), (6, 10, q5_, .int y_463), (8, 8, q0_, .int x_459), (2, 0, a0_, .ref q0_), (2, 1, a0_, .ref q1_), (2, 2, a0_, .ref q2_), (2, 3, a0_, .ref q3_), (2, 4, a0_, .ref q4_), (2, 5, a0_, .ref q5_), (0, 0, q2_, .ref q0_), (0, 1, q2_, .ref q1_), (5, 0, q1_, .ref q8_), (5, 1, q1_, .ref q9_)]) rfl (fun fr_515 H locs hp hMr_515 g => ?_)
              obtain ⟨x_516, h_517, x_518, h_519, hF_520⟩ := hp
              have hG_521 := eOK.frame hMr_515 go_.2.2.2.1 mq2_ kq2_ (by decide) (by decide) hG_504
              have g := g.more hF_520
              refine lv_goto (tgt := 191) hx hb dX2_readStatement_184 (by decide) ?_
              subst hQ
              exact W.vret hx hb hr (fun t ht hW => ⟨⟨_, rfl, Or.inr (⟨hG_521, x_516, h_517, x_518, h_519, x_459, h_460, (g.fcts [0, 1, 4] rfl)⟩), q3_of g hK ht hW⟩, g.2.2.1.F ht⟩) g.2.2.1.2.2 dX2_readStatement_191
          · have fc_498 := eq_f c_498
            have b_522 : bd 24 11 r_1 := eqX fc_498 b_497 kb_11 (by decide)
            exact bd_no b_522 (by decide)
        by_cases e_523 : r_1 = 25
        · refine lv_topi (fun z_524 ez_524 => ?_)
          obtain rfl : z_524 = 25 := ez_524.trans e_523
          have kb_25 : bd 25 25 (25 : Int32) := ⟨by decide, by decide⟩
          have b_525 : bd 25 25 r_1 := eqX (eq_f e_523) b_144 kb_25 (by decide)
          refine lv_tableIn (off := 45) (tgt := 135) hx hb dX2_readStatement_90 (by decide) (by decide) rfl (by decide) ?_
          refine lv_aload_n hx hb dX2_readStatement_135 rfl (lv_at hl 1 rfl) ?_
          refine lv_iload_n hx hb dX2_readStatement_136 rfl (lv_at hl 0 rfl) ?_
          have kb_1201 : bd 1201 1201 (1201 : Int32) := ⟨by decide, by decide⟩
          have go_ := g
          refine g_callv (va_runV (As := [.int r_1]) (rest := []) ⟨hx, hb, hml, hown, hts⟩ (r_X2_readTest l dC dI L kd tys fr_472 H.size g.2.2.2.1 a0_ ma0_ ka0_ r_1 q0_ mq0_ kq0_ q1_ mq1_ kq1_ q2_ mq2_ kq2_ q3_ mq3_ kq3_ q8_ mq8_ kq8_ q9_ mq9_ kq9_ 1201 kb_1201 x_459 h_460 hG_476 (g.fcts [5, 6, 7, 8, 11, 12, 13, 14, 3, 4] rfl)) (cwV 1 hts (gV_ t_1367 t_1369 t_45 t_183 t_1370) rfl rfl rfl (by decide +kernel) ⟨(Nat.le_of_ble_eq_true rfl), (Nat.le_of_ble_eq_true rfl)⟩) (pre3V g hK ma0_ ka0_ (by decide) (q := (RX2, TX2, 16)) rfl) rfl rfl hl.1 rfl (lv_room (Nat.le_of_ble_eq_true rfl)) dX2_readStatement_137 ⟨(Nat.le_of_ble_eq_true rfl), (Nat.le_of_ble_eq_true rfl)⟩) g hK (by decide) (by decide) (fx' := [(7, 15, q3_, .int x_468), (6, 10, q5_, .int y_463), (8, 8, q0_, .int x_459), (2, 0, a0_, .ref q0_), (2, 1, a0_, .ref q1_), (2, 2, a0_, .ref q2_), (2, 3, a0_, .ref q3_), (2, 4, a0_, .ref q4_), (2, 5, a0_, .ref q5_), (0, 0, q2_, .ref q0_), (0, 1, q2_, .ref q1_), (5, 0, q1_, .ref q8_), (5, 1, q1_, .ref q9_)]) rfl (fun fr_526 H locs hp hMr_526 g => ?_)
          obtain ⟨x_527, h_528, hF_529⟩ := hp
          have hG_530 := eOK.frame hMr_526 go_.2.2.2.1 mq2_ kq2_ (by decide) (by decide) hG_476
          have g := g.more hF_529
          refine lv_goto (tgt := 191) hx hb dX2_readStatement_140 (by decide) ?_
          subst hQ
          exact W.vret hx hb hr (fun t ht hW => ⟨⟨_, rfl, Or.inr (⟨hG_530, 1201, kb_1201, x_527, h_528, x_459, h_460, (g.fcts [0, 1, 10] rfl)⟩), q3_of g hK ht hW⟩, g.2.2.1.F ht⟩) g.2.2.1.2.2 dX2_readStatement_191
        by_cases e_531 : r_1 = 26
        · refine lv_topi (fun z_532 ez_532 => ?_)
          obtain rfl : z_532 = 26 := ez_532.trans e_531
          have kb_26 : bd 26 26 (26 : Int32) := ⟨by decide, by decide⟩
          have b_533 : bd 26 26 r_1 := eqX (eq_f e_531) b_144 kb_26 (by decide)
          refine lv_tableIn (off := 53) (tgt := 143) hx hb dX2_readStatement_90 (by decide) (by decide) rfl (by decide) ?_
          refine lv_aload_n hx hb dX2_readStatement_143 rfl (lv_at hl 1 rfl) ?_
          have kb_1201 : bd 1201 1201 (1201 : Int32) := ⟨by decide, by decide⟩
          have go_ := g
          refine g_callv (va_runV (As := []) (rest := []) ⟨hx, hb, hml, hown, hts⟩ (r_X2_readReturn l dC dI L kd tys fr_472 H.size g.2.2.2.1 a0_ ma0_ ka0_ q0_ mq0_ kq0_ q1_ mq1_ kq1_ q2_ mq2_ kq2_ q3_ mq3_ kq3_ q8_ mq8_ kq8_ q9_ mq9_ kq9_ 1201 kb_1201 x_459 h_460 hG_476 (g.fcts [5, 6, 7, 8, 11, 12, 13, 14, 3, 4] rfl)) (cwV 0 hts (gV_ t_1371 t_1373 t_46 t_183 t_1374) rfl rfl rfl (by decide +kernel) ⟨(Nat.le_of_ble_eq_true rfl), (Nat.le_of_ble_eq_true rfl)⟩) (pre3V g hK ma0_ ka0_ (by decide) (q := (RX2, TX2, 16)) rfl) rfl rfl hl.1 rfl (lv_room (Nat.le_of_ble_eq_true rfl)) dX2_readStatement_144 ⟨(Nat.le_of_ble_eq_true rfl), (Nat.le_of_ble_eq_true rfl)⟩) g hK (by decide) (by decide) (fx' := [(7, 15, q3_, .int x_468), (6, 10, q5_, .int y_463), (8, 8, q0_, .int x_459), (2, 0, a0_, .ref q0_), (2, 1, a0_, .ref q1_), (2, 2, a0_, .ref q2_), (2, 3, a0_, .ref q3_), (2, 4, a0_, .ref q4_), (2, 5, a0_, .ref q5_), (0, 0, q2_, .ref q0_), (0, 1, q2_, .ref q1_), (5, 0, q1_, .ref q8_), (5, 1, q1_, .ref q9_)]) rfl (fun fr_534 H locs hp hMr_534 g => ?_)
          obtain ⟨x_535, h_536, x_537, h_538, hF_539⟩ := hp
          have hG_540 := eOK.frame hMr_534 go_.2.2.2.1 mq2_ kq2_ (by decide) (by decide) hG_476
          have g := g.more hF_539
          refine lv_goto (tgt := 191) hx hb dX2_readStatement_147 (by decide) ?_
          subst hQ
          exact W.vret hx hb hr (fun t ht hW => ⟨⟨_, rfl, Or.inr (⟨hG_540, x_535, h_536, x_537, h_538, x_459, h_460, (g.fcts [0, 1, 10] rfl)⟩), q3_of g hK ht hW⟩, g.2.2.1.F ht⟩) g.2.2.1.2.2 dX2_readStatement_191
        by_cases e_541 : r_1 = 27
        · refine lv_topi (fun z_542 ez_542 => ?_)
          obtain rfl : z_542 = 27 := ez_542.trans e_541
          have kb_27 : bd 27 27 (27 : Int32) := ⟨by decide, by decide⟩
          have b_543 : bd 27 27 r_1 := eqX (eq_f e_541) b_144 kb_27 (by decide)
          refine lv_tableIn (off := 60) (tgt := 150) hx hb dX2_readStatement_90 (by decide) (by decide) rfl (by decide) ?_
          refine lv_aload_n hx hb dX2_readStatement_150 rfl (lv_at hl 1 rfl) ?_
          have kb_1201 : bd 1201 1201 (1201 : Int32) := ⟨by decide, by decide⟩
          have go_ := g
          refine g_callv (va_runV (As := []) (rest := []) ⟨hx, hb, hml, hown, hts⟩ (r_X2_readThrow l dC dI L kd tys fr_472 H.size g.2.2.2.1 a0_ ma0_ ka0_ q0_ mq0_ kq0_ q3_ mq3_ kq3_ 1201 kb_1201 x_459 h_460 (g.fcts [5, 8, 3, 4] rfl)) (cwV 0 hts (gV_ t_1375 t_1377 t_47 t_183 t_1378) rfl rfl rfl (by decide +kernel) ⟨(Nat.le_of_ble_eq_true rfl), (Nat.le_of_ble_eq_true rfl)⟩) (pre3V g hK ma0_ ka0_ (by decide) (q := (RX2, TX2, 16)) rfl) rfl rfl hl.1 rfl (lv_room (Nat.le_of_ble_eq_true rfl)) dX2_readStatement_151 ⟨(Nat.le_of_ble_eq_true rfl), (Nat.le_of_ble_eq_true rfl)⟩) g hK (by decide) (by decide) (fx' := [(7, 15, q3_, .int x_468), (6, 10, q5_, .int y_463), (8, 8, q0_, .int x_459), (2, 0, a0_, .ref q0_), (2, 1, a0_, .ref q1_), (2, 2, a0_, .ref q2_), (2, 3, a0_, .ref q3_), (2, 4, a0_, .ref q4_), (2, 5, a0_, .ref q5_), (0, 0, q2_, .ref q0_), (0, 1, q2_, .ref q1_), (5, 0, q1_, .ref q8_), (5, 1, q1_, .ref q9_)]) rfl (fun fr_544 H locs hp hMr_544 g => ?_)
          obtain ⟨x_545, h_546, x_547, h_548, x_549, h_550, hF_551⟩ := hp
          have hG_552 := eOK.frame hMr_544 go_.2.2.2.1 mq2_ kq2_ (by decide) (by decide) hG_476
          have g := g.more hF_551
          refine lv_goto (tgt := 191) hx hb dX2_readStatement_154 (by decide) ?_
          subst hQ
          exact W.vret hx hb hr (fun t ht hW => ⟨⟨_, rfl, Or.inr (⟨hG_552, x_545, h_546, x_547, h_548, x_459, h_460, (g.fcts [0, 1, 5] rfl)⟩), q3_of g hK ht hW⟩, g.2.2.1.F ht⟩) g.2.2.1.2.2 dX2_readStatement_191
        refine lv_tableOut (tgt := 157) hx hb dX2_readStatement_90 (by have a0 : r_1.toInt ≠ 22 := fun h => e_477 (Int32.toInt_inj.mp (h.trans (by decide))); have a1 : r_1.toInt ≠ 23 := fun h => e_487 (Int32.toInt_inj.mp (h.trans (by decide))); have a2 : r_1.toInt ≠ 24 := fun h => e_495 (Int32.toInt_inj.mp (h.trans (by decide))); have a3 : r_1.toInt ≠ 25 := fun h => e_523 (Int32.toInt_inj.mp (h.trans (by decide))); have a4 : r_1.toInt ≠ 26 := fun h => e_531 (Int32.toInt_inj.mp (h.trans (by decide))); have a5 : r_1.toInt ≠ 27 := fun h => e_541 (Int32.toInt_inj.mp (h.trans (by decide))); omega) (by decide) ?_
        refine lv_iload_n hx hb dX2_readStatement_157 rfl (lv_at hl 0 rfl) ?_
        refine lv_bipush (v := 11) hx hb dX2_readStatement_158 (by decide) ?_
        have kb_11 : bd 11 11 (11 : Int32) := ⟨by decide, by decide⟩
        refine lv_icmp_ne (tgt := 173) hx hb dX2_readStatement_160 (by decide) (fun c_553 => ?_) (fun c_553 => ?_)
        · have fc_553 := neq_f c_553
          refine lv_aload_n hx hb dX2_readStatement_173 rfl (lv_at hl 1 rfl) ?_
          have kb_1201 : bd 1201 1201 (1201 : Int32) := ⟨by decide, by decide⟩
          have go_ := g
          refine g_calli (va_runV (As := []) (rest := []) ⟨hx, hb, hml, hown, hts⟩ (r_X2_findNamed l dC dI L kd tys fr_472 H.size g.2.2.2.1 a0_ ma0_ ka0_ q0_ mq0_ kq0_ q1_ mq1_ kq1_ q3_ mq3_ kq3_ q4_ mq4_ kq4_ q9_ mq9_ kq9_ 1201 kb_1201 x_459 h_460 (g.fcts [5, 6, 8, 9, 14, 3, 4] rfl)) (cwV 0 hts (gV_ t_1388 t_1390 t_49 t_183 t_1391) rfl rfl rfl (by decide +kernel) ⟨(Nat.le_of_ble_eq_true rfl), (Nat.le_of_ble_eq_true rfl)⟩) (pre3V g hK ma0_ ka0_ (by decide) (q := (RX2, TX2, 16)) rfl) rfl rfl hl.1 rfl (lv_room (Nat.le_of_ble_eq_true rfl)) dX2_readStatement_174 ⟨(Nat.le_of_ble_eq_true rfl), (Nat.le_of_ble_eq_true rfl)⟩) g hK (by decide) (by decide) (fx' := [(7, 6, q3_, .int x_473), (7, 15, q3_, .int x_468), (6, 10, q5_, .int y_463), (8, 8, q0_, .int x_459), (2, 0, a0_, .ref q0_), (2, 1, a0_, .ref q1_), (2, 2, a0_, .ref q2_), (2, 3, a0_, .ref q3_), (2, 4, a0_, .ref q4_), (2, 5, a0_, .ref q5_), (0, 0, q2_, .ref q0_), (0, 1, q2_, .ref q1_), (5, 0, q1_, .ref q8_), (5, 1, q1_, .ref q9_)]) rfl (fun r_554 fr_554 H locs hp hMr_554 g => ?_)
          obtain ⟨h_555, x_556, h_557, hF_558⟩ := hp
          have hG_559 := eOK.frame hMr_554 go_.2.2.2.1 mq2_ kq2_ (by decide) (by decide) hG_476
          have g := g.more hF_558
          have kb_0 : bd 0 0 (0 : Int32) := ⟨by decide, by decide⟩
          refine lv_if_eq (tgt := 187) hx hb dX2_readStatement_177 (by decide) (fun c_560 => ?_) (fun c_560 => ?_)
          · have fc_560 := eq_f c_560
            have b_561 : bd 0 0 r_554 := eqX fc_560 h_555 kb_0 (by decide)
            refine lv_aload_n hx hb dX2_readStatement_187 rfl (lv_at hl 1 rfl) ?_
            have go_ := g
            refine g_callv (va_runV (As := []) (rest := []) ⟨hx, hb, hml, hown, hts⟩ (r_X2_readAssignment l dC dI L kd tys fr_554 H.size g.2.2.2.1 a0_ ma0_ ka0_ q0_ mq0_ kq0_ q1_ mq1_ kq1_ q2_ mq2_ kq2_ q3_ mq3_ kq3_ q4_ mq4_ kq4_ q8_ mq8_ kq8_ q9_ mq9_ kq9_ x_556 h_557 x_459 h_460 hG_559 (g.fcts [5, 6, 7, 8, 9, 11, 12, 13, 14, 0, 4] rfl)) (cwV 0 hts (gV_ t_1397 t_1399 t_51 t_183 t_1400) rfl rfl rfl (by decide +kernel) ⟨(Nat.le_of_ble_eq_true rfl), (Nat.le_of_ble_eq_true rfl)⟩) (pre3V g hK ma0_ ka0_ (by decide) (q := (RX2, TX2, 16)) rfl) rfl rfl hl.1 rfl (lv_room (Nat.le_of_ble_eq_true rfl)) dX2_readStatement_188 ⟨(Nat.le_of_ble_eq_true rfl), (Nat.le_of_ble_eq_true rfl)⟩) g hK (by decide) (by decide) (fx' := [(7, 15, q3_, .int x_468), (6, 10, q5_, .int y_463), (8, 8, q0_, .int x_459), (2, 0, a0_, .ref q0_), (2, 1, a0_, .ref q1_), (2, 2, a0_, .ref q2_), (2, 3, a0_, .ref q3_), (2, 4, a0_, .ref q4_), (2, 5, a0_, .ref q5_), (0, 0, q2_, .ref q0_), (0, 1, q2_, .ref q1_), (5, 0, q1_, .ref q8_), (5, 1, q1_, .ref q9_)]) rfl (fun fr_562 H locs hp hMr_562 g => ?_)
            obtain ⟨x_563, h_564, x_565, h_566, hF_567⟩ := hp
            have hG_568 := eOK.frame hMr_562 go_.2.2.2.1 mq2_ kq2_ (by decide) (by decide) hG_559
            have g := g.more hF_567
            subst hQ
            exact W.vret hx hb hr (fun t ht hW => ⟨⟨_, rfl, Or.inr (⟨hG_568, x_563, h_564, x_565, h_566, x_459, h_460, (g.fcts [0, 1, 10] rfl)⟩), q3_of g hK ht hW⟩, g.2.2.1.F ht⟩) g.2.2.1.2.2 dX2_readStatement_191
          · have fc_560 := neq_f c_560
            have b_569 : bd 1 1 r_554 := neX fc_560 h_555 kb_0 (by decide)
            refine lv_aload_n hx hb dX2_readStatement_180 rfl (lv_at hl 1 rfl) ?_
            have go_ := g
            refine g_callv (va_runV (As := []) (rest := []) ⟨hx, hb, hml, hown, hts⟩ (r_X2_readArguments_3 l dC dI L kd tys fr_554 H.size g.2.2.2.1 a0_ ma0_ ka0_ q0_ mq0_ kq0_ q1_ mq1_ kq1_ q2_ mq2_ kq2_ q3_ mq3_ kq3_ q8_ mq8_ kq8_ q9_ mq9_ kq9_ x_556 h_557 x_459 h_460 hG_559 (g.fcts [5, 6, 7, 8, 11, 12, 13, 14, 0, 4] rfl)) (cwV 0 hts (gV_ t_1393 t_1395 t_50 t_183 t_1396) rfl rfl rfl (by decide +kernel) ⟨(Nat.le_of_ble_eq_true rfl), (Nat.le_of_ble_eq_true rfl)⟩) (pre3V g hK ma0_ ka0_ (by decide) (q := (RX2, TX2, 16)) rfl) rfl rfl hl.1 rfl (lv_room (Nat.le_of_ble_eq_true rfl)) dX2_readStatement_181 ⟨(Nat.le_of_ble_eq_true rfl), (Nat.le_of_ble_eq_true rfl)⟩) g hK (by decide) (by decide) (fx' := [(7, 15, q3_, .int x_468), (6, 10, q5_, .int y_463), (8, 8, q0_, .int x_459), (2, 0, a0_, .ref q0_), (2, 1, a0_, .ref q1_), (2, 2, a0_, .ref q2_), (2, 3, a0_, .ref q3_), (2, 4, a0_, .ref q4_), (2, 5, a0_, .ref q5_), (0, 0, q2_, .ref q0_), (0, 1, q2_, .ref q1_), (5, 0, q1_, .ref q8_), (5, 1, q1_, .ref q9_)]) rfl (fun fr_570 H locs hp hMr_570 g => ?_)
            obtain ⟨x_571, h_572, x_573, h_574, hF_575⟩ := hp
            have hG_576 := eOK.frame hMr_570 go_.2.2.2.1 mq2_ kq2_ (by decide) (by decide) hG_559
            have g := g.more hF_575
            refine lv_goto (tgt := 191) hx hb dX2_readStatement_184 (by decide) ?_
            subst hQ
            exact W.vret hx hb hr (fun t ht hW => ⟨⟨_, rfl, Or.inr (⟨hG_576, x_571, h_572, x_573, h_574, x_459, h_460, (g.fcts [0, 1, 4] rfl)⟩), q3_of g hK ht hW⟩, g.2.2.1.F ht⟩) g.2.2.1.2.2 dX2_readStatement_191
        · have fc_553 := eq_f c_553
          have b_577 : bd 11 11 r_1 := eqX fc_553 b_144 kb_11 (by decide)
          refine lv_aload_n hx hb dX2_readStatement_163 rfl (lv_at hl 1 rfl) ?_
          have kb_1201 : bd 1201 1201 (1201 : Int32) := ⟨by decide, by decide⟩
          have go_ := g
          refine g_calli (va_runV (As := []) (rest := []) ⟨hx, hb, hml, hown, hts⟩ (r_X2_findAbove l dC dI L kd tys fr_472 H.size g.2.2.2.1 a0_ ma0_ ka0_ q0_ mq0_ kq0_ q3_ mq3_ kq3_ q4_ mq4_ kq4_ 1201 kb_1201 x_459 h_460 (g.fcts [5, 8, 9, 3, 4] rfl)) (cwV 0 hts (gV_ t_1383 t_1385 t_48 t_183 t_1386) rfl rfl rfl (by decide +kernel) ⟨(Nat.le_of_ble_eq_true rfl), (Nat.le_of_ble_eq_true rfl)⟩) (pre3V g hK ma0_ ka0_ (by decide) (q := (RX2, TX2, 16)) rfl) rfl rfl hl.1 rfl (lv_room (Nat.le_of_ble_eq_true rfl)) dX2_readStatement_164 ⟨(Nat.le_of_ble_eq_true rfl), (Nat.le_of_ble_eq_true rfl)⟩) g hK (by decide) (by decide) (fx' := [(7, 6, q3_, .int x_473), (7, 15, q3_, .int x_468), (6, 10, q5_, .int y_463), (8, 8, q0_, .int x_459), (2, 0, a0_, .ref q0_), (2, 1, a0_, .ref q1_), (2, 2, a0_, .ref q2_), (2, 3, a0_, .ref q3_), (2, 4, a0_, .ref q4_), (2, 5, a0_, .ref q5_), (0, 0, q2_, .ref q0_), (0, 1, q2_, .ref q1_), (5, 0, q1_, .ref q8_), (5, 1, q1_, .ref q9_)]) rfl (fun r_578 fr_578 H locs hp hMr_578 g => ?_)
          obtain ⟨h_579, hF_580⟩ := hp
          have hG_581 := eOK.frame hMr_578 go_.2.2.2.1 mq2_ kq2_ (by decide) (by decide) hG_476
          obtain rfl : r_578 = 1 := h_579
          have g := g.more hF_580
          refine lv_if_eq (tgt := 187) hx hb dX2_readStatement_167 (by decide) (fun c_ => absurd c_ (by decide)) (fun c_ => ?_)
          refine lv_goto (tgt := 180) hx hb dX2_readStatement_170 (by decide) ?_
          refine lv_aload_n hx hb dX2_readStatement_180 rfl (lv_at hl 1 rfl) ?_
          have go_ := g
          refine g_callv (va_runV (As := []) (rest := []) ⟨hx, hb, hml, hown, hts⟩ (r_X2_readArguments_3 l dC dI L kd tys fr_578 H.size g.2.2.2.1 a0_ ma0_ ka0_ q0_ mq0_ kq0_ q1_ mq1_ kq1_ q2_ mq2_ kq2_ q3_ mq3_ kq3_ q8_ mq8_ kq8_ q9_ mq9_ kq9_ 1201 kb_1201 x_459 h_460 hG_581 (g.fcts [5, 6, 7, 8, 11, 12, 13, 14, 0, 4] rfl)) (cwV 0 hts (gV_ t_1393 t_1395 t_50 t_183 t_1396) rfl rfl rfl (by decide +kernel) ⟨(Nat.le_of_ble_eq_true rfl), (Nat.le_of_ble_eq_true rfl)⟩) (pre3V g hK ma0_ ka0_ (by decide) (q := (RX2, TX2, 16)) rfl) rfl rfl hl.1 rfl (lv_room (Nat.le_of_ble_eq_true rfl)) dX2_readStatement_181 ⟨(Nat.le_of_ble_eq_true rfl), (Nat.le_of_ble_eq_true rfl)⟩) g hK (by decide) (by decide) (fx' := [(7, 15, q3_, .int x_468), (6, 10, q5_, .int y_463), (8, 8, q0_, .int x_459), (2, 0, a0_, .ref q0_), (2, 1, a0_, .ref q1_), (2, 2, a0_, .ref q2_), (2, 3, a0_, .ref q3_), (2, 4, a0_, .ref q4_), (2, 5, a0_, .ref q5_), (0, 0, q2_, .ref q0_), (0, 1, q2_, .ref q1_), (5, 0, q1_, .ref q8_), (5, 1, q1_, .ref q9_)]) rfl (fun fr_582 H locs hp hMr_582 g => ?_)
          obtain ⟨x_583, h_584, x_585, h_586, hF_587⟩ := hp
          have hG_588 := eOK.frame hMr_582 go_.2.2.2.1 mq2_ kq2_ (by decide) (by decide) hG_581
          have g := g.more hF_587
          refine lv_goto (tgt := 191) hx hb dX2_readStatement_184 (by decide) ?_
          subst hQ
          exact W.vret hx hb hr (fun t ht hW => ⟨⟨_, rfl, Or.inr (⟨hG_588, x_583, h_584, x_585, h_586, x_459, h_460, (g.fcts [0, 1, 4] rfl)⟩), q3_of g hK ht hW⟩, g.2.2.1.F ht⟩) g.2.2.1.2.2 dX2_readStatement_191
  · have fc_3 := eq_f c_3
    have b_589 : bd 125 125 r_1 := eqX fc_3 (bdT r_1) kb_125 (by decide)
    refine lv_aload_n hx hb dX2_readStatement_14 rfl (lv_at hl 1 rfl) ?_
    have go_ := g
    refine g_callv (va_runV (As := []) (rest := []) ⟨hx, hb, hml, hown, hts⟩ (r_X2_closeBlock l dC dI L kd tys fr_1 H.size g.2.2.2.1 a0_ ma0_ ka0_ q0_ mq0_ kq0_ q3_ mq3_ kq3_ y0_ by0_ (g.fcts [0, 3, 10] rfl)) (cwV 0 hts (gV_ t_1346 t_1348 t_42 t_183 t_1349) rfl rfl rfl (by decide +kernel) ⟨(Nat.le_of_ble_eq_true rfl), (Nat.le_of_ble_eq_true rfl)⟩) (pre3V g hK ma0_ ka0_ (by decide) (q := (RX2, TX2, 16)) rfl) rfl rfl hl.1 rfl (lv_room (Nat.le_of_ble_eq_true rfl)) dX2_readStatement_15 ⟨(Nat.le_of_ble_eq_true rfl), (Nat.le_of_ble_eq_true rfl)⟩) g hK (by decide) (by decide) (fx' := [(2, 0, a0_, .ref q0_), (2, 1, a0_, .ref q1_), (2, 2, a0_, .ref q2_), (2, 3, a0_, .ref q3_), (2, 4, a0_, .ref q4_), (2, 5, a0_, .ref q5_), (0, 0, q2_, .ref q0_), (0, 1, q2_, .ref q1_), (5, 0, q1_, .ref q8_), (5, 1, q1_, .ref q9_)]) rfl (fun fr_590 H locs hp hMr_590 g => ?_)
    rcases hp with ⟨x_591, h_592, x_593, h_594, hF_595⟩ | ⟨x_596, h_597, x_598, h_599, hF_600⟩
    · have hG_601 := eOK.frame hMr_590 go_.2.2.2.1 mq2_ kq2_ (by decide) (by decide) hG_2
      have g := g.more hF_595
      subst hQ
      exact W.vret hx hb hr (fun t ht hW => ⟨⟨_, rfl, Or.inl ⟨hG_601, x_591, h_592, x_593, h_594, (g.fcts [0, 1] rfl)⟩, q3_of g hK ht hW⟩, g.2.2.1.F ht⟩) g.2.2.1.2.2 dX2_readStatement_18
    · have hG_602 := eOK.frame hMr_590 go_.2.2.2.1 mq2_ kq2_ (by decide) (by decide) hG_2
      have g := g.more hF_600
      have kb_1201 : bd 1201 1201 (1201 : Int32) := ⟨by decide, by decide⟩
      subst hQ
      exact W.vret hx hb hr (fun t ht hW => ⟨⟨_, rfl, Or.inr (⟨hG_602, 1201, kb_1201, x_598, h_599, x_596, h_597, (g.fcts [0, 2, 1] rfl)⟩), q3_of g hK ht hW⟩, g.2.2.1.F ht⟩) g.2.2.1.2.2 dX2_readStatement_18
