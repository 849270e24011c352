set_option maxHeartbeats 4000000 in
set_option maxRecDepth 100000 in
theorem r_X2_readRowSize (l : Launch) (dC : Nat → ClassId) (dI : Nat → Nat → Nat) (L : List Nat) (kd : Nat → Nat) (tys : List (ClassId × FieldType)) (f0 : Nat → va_E) (sz : Nat) (hWT : WT L kd tys f0) (a0_ : Nat) (ma0_ : a0_ ∈ L) (ka0_ : kd a0_ = 2) (q0_ : Nat) (mq0_ : q0_ ∈ L) (kq0_ : kd q0_ = 8) (q1_ : Nat) (mq1_ : q1_ ∈ L) (kq1_ : kd q1_ = 9) (y0_ : Int32) (by0_ : bd 0 0 y0_) (hfx : Fs L kd f0 [(2, 0, a0_, .ref q0_), (2, 4, a0_, .ref q1_), (8, 8, q0_, .int y0_)]) : Met l yX2_readRowSize (.code yX2_readRowSize cX2_readRowSize 3 (some .int) :: lw_g) ({ frames := 2, cells := 0, slots := 0, locals := 44 }) (va_Pc [.ref a0_] (P3 (dC, dI) L tys f0 sz)) (va_Qi (fun (r : Int32) (f : Nat → va_E) => (r = 1 ∧ ∃ z0_ : Int32, bd 1 1201 z0_ ∧ ∃ z2_ : Int32, bd 0 23 z2_ ∧ Fs L kd f [(8, 6, q0_, .int z0_), (8, 8, q0_, .int y0_), (9, 7, q1_, .int z2_)]) ∨ (r = 1 ∧ ∃ z0_ : Int32, bd 1201 1201 z0_ ∧ ∃ z1_ : Int32, bd 1 7 z1_ ∧ Fs L kd f [(8, 6, q0_, .int z0_), (8, 8, q0_, .int z1_)]) ∨ (r = 2 ∧ ∃ z0_ : Int32, bd 1 1201 z0_ ∧ ∃ z2_ : Int32, bd 0 22 z2_ ∧ Fs L kd f [(8, 6, q0_, .int z0_), (8, 8, q0_, .int y0_), (9, 7, q1_, .int z2_)]) ∨ (r = 2 ∧ ∃ z0_ : Int32, bd 1201 1201 z0_ ∧ ∃ z1_ : Int32, bd 1 7 z1_ ∧ Fs L kd f [(8, 6, q0_, .int z0_), (8, 8, q0_, .int z1_)]) ∨ (r = 3 ∧ ∃ z0_ : Int32, bd 1 1201 z0_ ∧ ∃ z2_ : Int32, bd 0 21 z2_ ∧ Fs L kd f [(8, 6, q0_, .int z0_), (8, 8, q0_, .int y0_), (9, 7, q1_, .int z2_)]) ∨ (r = 3 ∧ ∃ z0_ : Int32, bd 1201 1201 z0_ ∧ ∃ z1_ : Int32, bd 1 7 z1_ ∧ Fs L kd f [(8, 6, q0_, .int z0_), (8, 8, q0_, .int z1_)]) ∨ (r = 4 ∧ ∃ z0_ : Int32, bd 1 1201 z0_ ∧ ∃ z2_ : Int32, bd 0 20 z2_ ∧ Fs L kd f [(8, 6, q0_, .int z0_), (8, 8, q0_, .int y0_), (9, 7, q1_, .int z2_)]) ∨ (r = 4 ∧ ∃ z0_ : Int32, bd 1201 1201 z0_ ∧ ∃ z1_ : Int32, bd 1 7 z1_ ∧ Fs L kd f [(8, 6, q0_, .int z0_), (8, 8, q0_, .int z1_)]) ∨ (r = 5 ∧ ∃ z0_ : Int32, bd 1 1201 z0_ ∧ ∃ z2_ : Int32, bd 0 19 z2_ ∧ Fs L kd f [(8, 6, q0_, .int z0_), (8, 8, q0_, .int y0_), (9, 7, q1_, .int z2_)]) ∨ (r = 5 ∧ ∃ z0_ : Int32, bd 1201 1201 z0_ ∧ ∃ z1_ : Int32, bd 1 7 z1_ ∧ Fs L kd f [(8, 6, q0_, .int z0_), (8, 8, q0_, .int z1_)]) ∨ (r = 6 ∧ ∃ z0_ : Int32, bd 1 1201 z0_ ∧ ∃ z2_ : Int32, bd 0 18 z2_ ∧ Fs L kd f [(8, 6, q0_, .int z0_), (8, 8, q0_, .int y0_), (9, 7, q1_, .int z2_)]) ∨ (r = 6 ∧ ∃ z0_ : Int32, bd 1201 1201 z0_ ∧ ∃ z1_ : Int32, bd 1 7 z1_ ∧ Fs L kd f [(8, 6, q0_, .int z0_), (8, 8, q0_, .int z1_)]) ∨ (r = 7 ∧ ∃ z0_ : Int32, bd 1 1201 z0_ ∧ ∃ z2_ : Int32, bd 0 17 z2_ ∧ Fs L kd f [(8, 6, q0_, .int z0_), (8, 8, q0_, .int y0_), (9, 7, q1_, .int z2_)]) ∨ (r = 7 ∧ ∃ z0_ : Int32, bd 1201 1201 z0_ ∧ ∃ z1_ : Int32, bd 1 7 z1_ ∧ Fs L kd f [(8, 6, q0_, .int z0_), (8, 8, q0_, .int z1_)]) ∨ (r = 8 ∧ ∃ z0_ : Int32, bd 1 1201 z0_ ∧ ∃ z2_ : Int32, bd 0 16 z2_ ∧ Fs L kd f [(8, 6, q0_, .int z0_), (8, 8, q0_, .int y0_), (9, 7, q1_, .int z2_)]) ∨ (r = 8 ∧ ∃ z0_ : Int32, bd 1201 1201 z0_ ∧ ∃ z1_ : Int32, bd 1 7 z1_ ∧ Fs L kd f [(8, 6, q0_, .int z0_), (8, 8, q0_, .int z1_)]) ∨ (∃ z0_ : Int32, bd 1201 1201 z0_ ∧ ∃ z1_ : Int32, bd 1 7 z1_ ∧ Fs L kd f [(8, 6, q0_, .int z0_), (8, 8, q0_, .int z1_)])) (Q3 (dC, dI) L kd tys [(8, 6), (8, 8), (8, 9)] [] f0 sz) (pA L sz)) 0 0 (pA L sz) := by
  refine Met.ofW (cc := cX2_readRowSize) (maxL := 3) (ret := (some .int)) (by decide) rfl ?_
  intro p e s m args below meth c s₁ B hml hv
  obtain ⟨rfl, hsz, hP, hK, hD0⟩ := hv
  have hx := B.exec
  have hb := B.bytes
  have hr := B.returns
  have hts := atoms_spec (ws := (.code yX2_readRowSize cX2_readRowSize 3 (some .int) :: lw_g)) B.pre
  have hown : s.vm.findClass RX2 = some m.cls := findClass_of_methodNamed B.named
  have hlocks := B.notSynchronized
  subst hsz
  have g : G3 (dC, dI) L kd tys s f0 [(8, 6), (8, 8), (8, 9)] [] f0 s.heap [] [(2, 0, a0_, .ref q0_), (2, 4, a0_, .ref q1_), (8, 8, q0_, .int y0_)] := G3.start hP hD0 hWT hfx
  have hl := lv_entry ([.ref a0_]) (n := 3) (Nat.le_of_ble_eq_true rfl)
  rw [lg_entry_eq]
  generalize (lg_sl ([.ref a0_]) ++ List.replicate (3 - (lg_sl ([.ref a0_])).length) Slot.unset).toArray = ls at hl ⊢
  have hl : lv_has ls 3 [(0, .ref a0_)] := hl
  refine W_q (fun Q hQ => ?_)
  refine lv_aload_n hx hb dX2_readRowSize_0 rfl (lv_at hl 0 rfl) ?_
  refine g_getk (C := RX2) (T := TX2) (N := 16) hx hb hts (mc_ inX2) hown hK g rfl 0 (by decide) rfl (hts _ (List.mem_cons_of_mem _ t_416)) (fun _ h9 => h9) 0 rfl dX2_readRowSize_1 ?_
  refine g_callv (va_runV (As := []) (rest := []) ⟨hx, hb, hml, hown, hts⟩ (r_X8_next l dC dI L kd tys f0 s.heap.size g.2.2.2.1 q0_ mq0_ kq0_) (cwV 0 hts (gV_ t_1131 t_1103 t_1104 t_184 t_1105) rfl rfl rfl (by decide +kernel) ⟨(Nat.le_of_ble_eq_true rfl), (Nat.le_of_ble_eq_true rfl)⟩) (pre3V g hK mq0_ kq0_ (by decide) (q := (RX8, TX8, 10)) rfl) rfl rfl hl.1 rfl (lv_room (Nat.le_of_ble_eq_true rfl)) dX2_readRowSize_4 ⟨(Nat.le_of_ble_eq_true rfl), (Nat.le_of_ble_eq_true rfl)⟩) g hK (by decide) (by decide) (fx' := [(2, 0, a0_, .ref q0_), (2, 4, a0_, .ref q1_), (8, 8, q0_, .int y0_)]) rfl (fun fr_1 H locs hp hMr_1 g => ?_)
  obtain ⟨x_2, h_3, hF_4⟩ := hp
  have g := g.more hF_4
  refine lv_aload_n hx hb dX2_readRowSize_7 rfl (lv_at hl 0 rfl) ?_
  refine g_getk (C := RX2) (T := TX2) (N := 16) hx hb hts (mc_ inX2) hown hK g rfl 0 (by decide) rfl (hts _ (List.mem_cons_of_mem _ t_416)) (fun _ h9 => h9) 1 rfl dX2_readRowSize_8 ?_
  refine g_calli (va_runV (As := []) (rest := []) ⟨hx, hb, hml, hown, hts⟩ (r_X8_place l dC dI L kd tys fr_1 H.size g.2.2.2.1 q0_ mq0_ kq0_) (cwV 0 hts (gV_ t_1110 t_1111 t_1112 t_184 t_1113) rfl rfl rfl (by decide +kernel) ⟨(Nat.le_of_ble_eq_true rfl), (Nat.le_of_ble_eq_true rfl)⟩) (pre3V g hK mq0_ kq0_ (by decide) (q := (RX8, TX8, 10)) rfl) rfl rfl hl.1 rfl (lv_room (Nat.le_of_ble_eq_true rfl)) dX2_readRowSize_11 ⟨(Nat.le_of_ble_eq_true rfl), (Nat.le_of_ble_eq_true rfl)⟩) g hK (by decide) (by decide) (fx' := [(8, 6, q0_, .int x_2), (2, 0, a0_, .ref q0_), (2, 4, a0_, .ref q1_), (8, 8, q0_, .int y0_)]) rfl (fun r_5 fr_5 H locs hp hMr_5 g => ?_)
  refine lv_istore_n (lv' := [(1, .int r_5), (0, .ref a0_)]) hx hb dX2_readRowSize_14 rfl hl (by decide) rfl (fun ls hl => ?_)
  refine lv_aload_n hx hb dX2_readRowSize_15 rfl (lv_at hl 1 rfl) ?_
  refine g_getk (C := RX2) (T := TX2) (N := 16) hx hb hts (mc_ inX2) hown hK g rfl 0 (by decide) rfl (hts _ (List.mem_cons_of_mem _ t_416)) (fun _ h9 => h9) 1 rfl dX2_readRowSize_16 ?_
  refine g_calll (va_runV (As := []) (rest := []) ⟨hx, hb, hml, hown, hts⟩ (r_X8_value l dC dI L kd tys fr_5 H.size g.2.2.2.1 q0_ mq0_ kq0_) (cwV 0 hts (gV_ t_1114 t_1115 t_1116 t_184 t_1117) rfl rfl rfl (by decide +kernel) ⟨(Nat.le_of_ble_eq_true rfl), (Nat.le_of_ble_eq_true rfl)⟩) (pre3V g hK mq0_ kq0_ (by decide) (q := (RX8, TX8, 10)) rfl) rfl rfl hl.1 rfl (lv_room (Nat.le_of_ble_eq_true rfl)) dX2_readRowSize_19 ⟨(Nat.le_of_ble_eq_true rfl), (Nat.le_of_ble_eq_true rfl)⟩) g hK (by decide) (by decide) (fx' := [(8, 6, q0_, .int x_2), (2, 0, a0_, .ref q0_), (2, 4, a0_, .ref q1_), (8, 8, q0_, .int y0_)]) rfl (fun r_6 fr_6 H locs hp hMr_6 g => ?_)
  refine lv_ldc2 (v := 25) hx hb hown (hts _ (List.mem_cons_of_mem _ t_1155)) dX2_readRowSize_22 ?_
  refine va_mmin_long hx hb (hml.trans hl.1.symm) hown (hts _ (List.mem_cons_of_mem _ t_1156)) (hts _ (List.mem_cons_of_mem _ t_1157)) (hts _ (List.mem_cons_of_mem _ t_204)) (hts _ (List.mem_cons_of_mem _ t_1158)) (Nat.le_of_ble_eq_true rfl) (Nat.le_of_ble_eq_true rfl) (Nat.le_of_ble_eq_true rfl) (Nat.le_of_ble_eq_true rfl) dX2_readRowSize_25 ?_
  refine lv_topl (fun y_7 ey_7 => ?_)
  refine lv_l2i hx hb dX2_readRowSize_28 rfl ?_
  refine lv_topi (fun y_8 ey_8 => ?_)
  refine lv_istore_n (lv' := [(2, .int y_8), (1, .int r_5), (0, .ref a0_)]) hx hb dX2_readRowSize_29 rfl hl (by decide) rfl (fun ls hl => ?_)
  refine lv_aload_n hx hb dX2_readRowSize_30 rfl (lv_at hl 2 rfl) ?_
  refine g_getk (C := RX2) (T := TX2) (N := 16) hx hb hts (mc_ inX2) hown hK g rfl 0 (by decide) rfl (hts _ (List.mem_cons_of_mem _ t_416)) (fun _ h9 => h9) 1 rfl dX2_readRowSize_31 ?_
  refine g_calli (va_runV (As := []) (rest := []) ⟨hx, hb, hml, hown, hts⟩ (r_X8_kind l dC dI L kd tys fr_6 H.size g.2.2.2.1 q0_ mq0_ kq0_) (cwV 0 hts (gV_ t_1118 t_1119 t_1120 t_184 t_1121) rfl rfl rfl (by decide +kernel) ⟨(Nat.le_of_ble_eq_true rfl), (Nat.le_of_ble_eq_true rfl)⟩) (pre3V g hK mq0_ kq0_ (by decide) (q := (RX8, TX8, 10)) rfl) rfl rfl hl.1 rfl (lv_room (Nat.le_of_ble_eq_true rfl)) dX2_readRowSize_34 ⟨(Nat.le_of_ble_eq_true rfl), (Nat.le_of_ble_eq_true rfl)⟩) g hK (by decide) (by decide) (fx' := [(8, 6, q0_, .int x_2), (2, 0, a0_, .ref q0_), (2, 4, a0_, .ref q1_), (8, 8, q0_, .int y0_)]) rfl (fun r_9 fr_9 H locs hp hMr_9 g => ?_)
  refine lv_iconst (v := 4) hx hb dX2_readRowSize_37 (by decide) ?_
  have kb_4 : bd 4 4 (4 : Int32) := ⟨by decide, by decide⟩
  refine lv_icmp_eq (tgt := 53) hx hb dX2_readRowSize_38 (by decide) (fun c_10 => ?_) (fun c_10 => ?_)
  · have fc_10 := eq_f c_10
    have b_11 : bd 4 4 r_9 := eqX fc_10 (bdT r_9) kb_4 (by decide)
    refine lv_iload_n hx hb dX2_readRowSize_53 rfl (lv_at hl 0 rfl) ?_
    refine lv_iconst (v := 1) hx hb dX2_readRowSize_54 (by decide) ?_
    have kb_1 : bd 1 1 (1 : Int32) := ⟨by decide, by decide⟩
    refine lv_icmp_lt (tgt := 64) hx hb dX2_readRowSize_55 (by decide) (fun c_12 => ?_) (fun c_12 => ?_)
    · have fc_12 := lt_f c_12
      have b_13 : bd (-2147483648) 0 y_8 := ltL fc_12 (bdT y_8) kb_1 (by decide)
      refine lv_aload_n hx hb dX2_readRowSize_64 rfl (lv_at hl 2 rfl) ?_
      refine g_getk (C := RX2) (T := TX2) (N := 16) hx hb hts (mc_ inX2) hown hK g rfl 0 (by decide) rfl (hts _ (List.mem_cons_of_mem _ t_416)) (fun _ h9 => h9) 1 rfl dX2_readRowSize_65 ?_
      refine lv_iconst (v := 3) hx hb dX2_readRowSize_68 (by decide) ?_
      refine lv_iload_n hx hb dX2_readRowSize_69 rfl (lv_at hl 1 rfl) ?_
      have kb_3 : bd 3 3 (3 : Int32) := ⟨by decide, by decide⟩
      refine g_callv (va_runV (As := [.int 3, .int r_5]) (rest := []) ⟨hx, hb, hml, hown, hts⟩ (r_X8_fail l dC dI L kd tys fr_9 H.size g.2.2.2.1 q0_ mq0_ kq0_ 3 (bd_sub kb_3 (by decide)) r_5 y0_ by0_ (g.fcts [3] rfl)) (cwV 2 hts (gV_ t_1122 t_1107 t_1108 t_184 t_1109) rfl rfl rfl (by decide +kernel) ⟨(Nat.le_of_ble_eq_true rfl), (Nat.le_of_ble_eq_true rfl)⟩) (pre3V g hK mq0_ kq0_ (by decide) (q := (RX8, TX8, 10)) rfl) rfl rfl hl.1 rfl (lv_room (Nat.le_of_ble_eq_true rfl)) dX2_readRowSize_70 ⟨(Nat.le_of_ble_eq_true rfl), (Nat.le_of_ble_eq_true rfl)⟩) g hK (by decide) (by decide) (fx' := [(2, 0, a0_, .ref q0_), (2, 4, a0_, .ref q1_)]) rfl (fun fr_14 H locs hp hMr_14 g => ?_)
      obtain ⟨x_15, h_16, hF_17⟩ := hp
      have g := g.more hF_17
      refine lv_goto (tgt := 99) hx hb dX2_readRowSize_73 (by decide) ?_
      refine lv_aload_n hx hb dX2_readRowSize_99 rfl (lv_at hl 2 rfl) ?_
      refine g_getk (C := RX2) (T := TX2) (N := 16) hx hb hts (mc_ inX2) hown hK g rfl 0 (by decide) rfl (hts _ (List.mem_cons_of_mem _ t_416)) (fun _ h9 => h9) 2 rfl dX2_readRowSize_100 ?_
      have kb_1201 : bd 1201 1201 (1201 : Int32) := ⟨by decide, by decide⟩
      refine g_callv (va_runV (As := []) (rest := []) ⟨hx, hb, hml, hown, hts⟩ (r_X8_next_2 l dC dI L kd tys fr_14 H.size g.2.2.2.1 q0_ mq0_ kq0_ 1201 kb_1201 (g.fcts [0] rfl)) (cwV 0 hts (gV_ t_1131 t_1103 t_1104 t_184 t_1105) rfl rfl rfl (by decide +kernel) ⟨(Nat.le_of_ble_eq_true rfl), (Nat.le_of_ble_eq_true rfl)⟩) (pre3V g hK mq0_ kq0_ (by decide) (q := (RX8, TX8, 10)) rfl) rfl rfl hl.1 rfl (lv_room (Nat.le_of_ble_eq_true rfl)) dX2_readRowSize_103 ⟨(Nat.le_of_ble_eq_true rfl), (Nat.le_of_ble_eq_true rfl)⟩) g hK (by decide) (by decide) (fx' := [(8, 6, q0_, .int 1201), (8, 8, q0_, .int x_15), (2, 0, a0_, .ref q0_), (2, 4, a0_, .ref q1_)]) rfl (fun fr_18 H locs hp hMr_18 g => ?_)
      refine lv_aload_n hx hb dX2_readRowSize_106 rfl (lv_at hl 2 rfl) ?_
      refine g_getk (C := RX2) (T := TX2) (N := 16) hx hb hts (mc_ inX2) hown hK g rfl 0 (by decide) rfl (hts _ (List.mem_cons_of_mem _ t_416)) (fun _ h9 => h9) 2 rfl dX2_readRowSize_107 ?_
      refine lv_bipush (v := 93) hx hb dX2_readRowSize_110 (by decide) ?_
      refine g_callv (va_runV (As := [.int 93]) (rest := []) ⟨hx, hb, hml, hown, hts⟩ (r_X8_take_2 l dC dI L kd tys fr_18 H.size g.2.2.2.1 q0_ mq0_ kq0_ 93 1201 kb_1201 x_15 h_16 (g.fcts [0, 1] rfl)) (cwV 1 hts (gV_ t_1098 t_1099 t_1100 t_184 t_1101) rfl rfl rfl (by decide +kernel) ⟨(Nat.le_of_ble_eq_true rfl), (Nat.le_of_ble_eq_true rfl)⟩) (pre3V g hK mq0_ kq0_ (by decide) (q := (RX8, TX8, 10)) rfl) rfl rfl hl.1 rfl (lv_room (Nat.le_of_ble_eq_true rfl)) dX2_readRowSize_112 ⟨(Nat.le_of_ble_eq_true rfl), (Nat.le_of_ble_eq_true rfl)⟩) g hK (by decide) (by decide) (fx' := [(8, 8, q0_, .int x_15), (2, 0, a0_, .ref q0_), (2, 4, a0_, .ref q1_)]) rfl (fun fr_19 H locs hp hMr_19 g => ?_)
      obtain ⟨x_20, h_21, hF_22⟩ := hp
      have g := g.more hF_22
      refine lv_iload_n hx hb dX2_readRowSize_115 rfl (lv_at hl 0 rfl) ?_
      subst hQ
      exact W.iret (v := y_8) hx hb hr (fun t ht hW => ⟨⟨_, _, rfl, Or.inr (Or.inr (Or.inr (Or.inr (Or.inr (Or.inr (Or.inr (Or.inr (Or.inr (Or.inr (Or.inr (Or.inr (Or.inr (Or.inr (Or.inr (Or.inr (⟨x_20, h_21, x_15, h_16, (g.fcts [0, 1] rfl)⟩)))))))))))))))), q3_of g hK ht hW⟩, g.2.2.1.F ht⟩) g.2.2.1.2.2 dX2_readRowSize_116
    · have fc_12 := nlt_f c_12
      have b_23 : bd 1 2147483647 y_8 := leR fc_12 kb_1 (bdT y_8) (by decide)
      refine lv_iload_n hx hb dX2_readRowSize_58 rfl (lv_at hl 0 rfl) ?_
      refine lv_bipush (v := 8) hx hb dX2_readRowSize_59 (by decide) ?_
      have kb_8 : bd 8 8 (8 : Int32) := ⟨by decide, by decide⟩
      refine lv_icmp_le (tgt := 76) hx hb dX2_readRowSize_61 (by decide) (fun c_24 => ?_) (fun c_24 => ?_)
      · have fc_24 := le_f c_24
        have b_25 : bd 1 8 y_8 := leL fc_24 b_23 kb_8 (by decide)
        rcases sp8_ b_25 with rfl | rfl | rfl | rfl | rfl | rfl | rfl | rfl
        · refine lv_aload_n hx hb dX2_readRowSize_76 rfl (lv_at hl 2 rfl) ?_
          refine g_getk (C := RX2) (T := TX2) (N := 16) hx hb hts (mc_ inX2) hown hK g rfl 4 (by decide) rfl (hts _ (List.mem_cons_of_mem _ t_420)) (fun _ h9 => h9) 2 rfl dX2_readRowSize_77 ?_
          refine g_geti (C := RX9) (T := TX9) (N := 13) hx hb hts (mc_ inX9) hown hK g mq1_ kq1_ (by decide) rfl 7 (by decide) rfl (hts _ (List.mem_cons_of_mem _ t_496)) (fun _ h9 => h9) rfl dX2_readRowSize_80 (fun x_26 bx_26 g => ?_)
          refine lv_iload_n hx hb dX2_readRowSize_83 rfl (lv_at hl 0 rfl) ?_
          refine lv_iadd hx hb dX2_readRowSize_84 ?_
          refine lv_topi (fun y_27 ey_27 => ?_)
          have ty_27 := add_bd ey_27 bx_26 kb_1 (by decide)
          have b_28 : bd 1 25 y_27 := add_rg ty_27 bx_26 kb_1 (by decide)
          refine lv_bipush (v := 24) hx hb dX2_readRowSize_85 (by decide) ?_
          have kb_24 : bd 24 24 (24 : Int32) := ⟨by decide, by decide⟩
          refine lv_icmp_le (tgt := 99) hx hb dX2_readRowSize_87 (by decide) (fun c_29 => ?_) (fun c_29 => ?_)
          · have fc_29 := le_f c_29
            have b_30 : bd 1 24 y_27 := leL fc_29 b_28 kb_24 (by decide)
            have b_31 : bd 0 23 x_26 := add_inv ty_27 b_30 bx_26 kb_1 (by decide)
            refine lv_aload_n hx hb dX2_readRowSize_99 rfl (lv_at hl 2 rfl) ?_
            refine g_getk (C := RX2) (T := TX2) (N := 16) hx hb hts (mc_ inX2) hown hK g rfl 0 (by decide) rfl (hts _ (List.mem_cons_of_mem _ t_416)) (fun _ h9 => h9) 2 rfl dX2_readRowSize_100 ?_
            refine g_callv (va_runV (As := []) (rest := []) ⟨hx, hb, hml, hown, hts⟩ (r_X8_next l dC dI L kd tys fr_9 H.size g.2.2.2.1 q0_ mq0_ kq0_) (cwV 0 hts (gV_ t_1131 t_1103 t_1104 t_184 t_1105) rfl rfl rfl (by decide +kernel) ⟨(Nat.le_of_ble_eq_true rfl), (Nat.le_of_ble_eq_true rfl)⟩) (pre3V g hK mq0_ kq0_ (by decide) (q := (RX8, TX8, 10)) rfl) rfl rfl hl.1 rfl (lv_room (Nat.le_of_ble_eq_true rfl)) dX2_readRowSize_103 ⟨(Nat.le_of_ble_eq_true rfl), (Nat.le_of_ble_eq_true rfl)⟩) g hK (by decide) (by decide) (fx' := [(9, 7, q1_, .int x_26), (2, 0, a0_, .ref q0_), (2, 4, a0_, .ref q1_), (8, 8, q0_, .int y0_)]) rfl (fun fr_32 H locs hp hMr_32 g => ?_)
            obtain ⟨x_33, h_34, hF_35⟩ := hp
            have g := g.more hF_35
            refine lv_aload_n hx hb dX2_readRowSize_106 rfl (lv_at hl 2 rfl) ?_
            refine g_getk (C := RX2) (T := TX2) (N := 16) hx hb hts (mc_ inX2) hown hK g rfl 0 (by decide) rfl (hts _ (List.mem_cons_of_mem _ t_416)) (fun _ h9 => h9) 2 rfl dX2_readRowSize_107 ?_
            refine lv_bipush (v := 93) hx hb dX2_readRowSize_110 (by decide) ?_
            refine g_callv (va_runV (As := [.int 93]) (rest := []) ⟨hx, hb, hml, hown, hts⟩ (r_X8_take l dC dI L kd tys fr_32 H.size g.2.2.2.1 q0_ mq0_ kq0_ 93 y0_ by0_ (g.fcts [4] rfl)) (cwV 1 hts (gV_ t_1098 t_1099 t_1100 t_184 t_1101) rfl rfl rfl (by decide +kernel) ⟨(Nat.le_of_ble_eq_true rfl), (Nat.le_of_ble_eq_true rfl)⟩) (pre3V g hK mq0_ kq0_ (by decide) (q := (RX8, TX8, 10)) rfl) rfl rfl hl.1 rfl (lv_room (Nat.le_of_ble_eq_true rfl)) dX2_readRowSize_112 ⟨(Nat.le_of_ble_eq_true rfl), (Nat.le_of_ble_eq_true rfl)⟩) g hK (by decide) (by decide) (fx' := [(9, 7, q1_, .int x_26), (2, 0, a0_, .ref q0_), (2, 4, a0_, .ref q1_)]) rfl (fun fr_36 H locs hp hMr_36 g => ?_)
            rcases hp with ⟨x_37, h_38, hF_39⟩ | ⟨x_40, h_41, hF_42⟩
            · have g := g.more hF_39
              refine lv_iload_n hx hb dX2_readRowSize_115 rfl (lv_at hl 0 rfl) ?_
              subst hQ
              exact W.iret (v := 1) hx hb hr (fun t ht hW => ⟨⟨_, _, rfl, Or.inl ⟨rfl, x_37, h_38, x_26, b_31, (g.fcts [0, 1, 2] rfl)⟩, q3_of g hK ht hW⟩, g.2.2.1.F ht⟩) g.2.2.1.2.2 dX2_readRowSize_116
            · have g := g.more hF_42
              refine lv_iload_n hx hb dX2_readRowSize_115 rfl (lv_at hl 0 rfl) ?_
              have kb_1201 : bd 1201 1201 (1201 : Int32) := ⟨by decide, by decide⟩
              subst hQ
              exact W.iret (v := 1) hx hb hr (fun t ht hW => ⟨⟨_, _, rfl, Or.inr (Or.inl ⟨rfl, 1201, kb_1201, x_40, h_41, (g.fcts [0, 1] rfl)⟩), q3_of g hK ht hW⟩, g.2.2.1.F ht⟩) g.2.2.1.2.2 dX2_readRowSize_116
          · have fc_29 := nle_f c_29
            have b_43 : bd 25 25 y_27 := ltR fc_29 kb_24 b_28 (by decide)
            have b_44 : bd 24 24 x_26 := add_inv ty_27 b_43 bx_26 kb_1 (by decide)
            refine lv_aload_n hx hb dX2_readRowSize_90 rfl (lv_at hl 2 rfl) ?_
            refine g_getk (C := RX2) (T := TX2) (N := 16) hx hb hts (mc_ inX2) hown hK g rfl 0 (by decide) rfl (hts _ (List.mem_cons_of_mem _ t_416)) (fun _ h9 => h9) 2 rfl dX2_readRowSize_91 ?_
            refine lv_iconst (v := 4) hx hb dX2_readRowSize_94 (by decide) ?_
            refine lv_iload_n hx hb dX2_readRowSize_95 rfl (lv_at hl 1 rfl) ?_
            refine g_callv (va_runV (As := [.int 4, .int r_5]) (rest := []) ⟨hx, hb, hml, hown, hts⟩ (r_X8_fail l dC dI L kd tys fr_9 H.size g.2.2.2.1 q0_ mq0_ kq0_ 4 (bd_sub kb_4 (by decide)) r_5 y0_ by0_ (g.fcts [4] rfl)) (cwV 2 hts (gV_ t_1122 t_1107 t_1108 t_184 t_1109) rfl rfl rfl (by decide +kernel) ⟨(Nat.le_of_ble_eq_true rfl), (Nat.le_of_ble_eq_true rfl)⟩) (pre3V g hK mq0_ kq0_ (by decide) (q := (RX8, TX8, 10)) rfl) rfl rfl hl.1 rfl (lv_room (Nat.le_of_ble_eq_true rfl)) dX2_readRowSize_96 ⟨(Nat.le_of_ble_eq_true rfl), (Nat.le_of_ble_eq_true rfl)⟩) g hK (by decide) (by decide) (fx' := [(9, 7, q1_, .int x_26), (2, 0, a0_, .ref q0_), (2, 4, a0_, .ref q1_)]) rfl (fun fr_45 H locs hp hMr_45 g => ?_)
            obtain ⟨x_46, h_47, hF_48⟩ := hp
            have g := g.more hF_48
            refine lv_aload_n hx hb dX2_readRowSize_99 rfl (lv_at hl 2 rfl) ?_
            refine g_getk (C := RX2) (T := TX2) (N := 16) hx hb hts (mc_ inX2) hown hK g rfl 0 (by decide) rfl (hts _ (List.mem_cons_of_mem _ t_416)) (fun _ h9 => h9) 3 rfl dX2_readRowSize_100 ?_
            have kb_1201 : bd 1201 1201 (1201 : Int32) := ⟨by decide, by decide⟩
            refine g_callv (va_runV (As := []) (rest := []) ⟨hx, hb, hml, hown, hts⟩ (r_X8_next_2 l dC dI L kd tys fr_45 H.size g.2.2.2.1 q0_ mq0_ kq0_ 1201 kb_1201 (g.fcts [0] rfl)) (cwV 0 hts (gV_ t_1131 t_1103 t_1104 t_184 t_1105) rfl rfl rfl (by decide +kernel) ⟨(Nat.le_of_ble_eq_true rfl), (Nat.le_of_ble_eq_true rfl)⟩) (pre3V g hK mq0_ kq0_ (by decide) (q := (RX8, TX8, 10)) rfl) rfl rfl hl.1 rfl (lv_room (Nat.le_of_ble_eq_true rfl)) dX2_readRowSize_103 ⟨(Nat.le_of_ble_eq_true rfl), (Nat.le_of_ble_eq_true rfl)⟩) g hK (by decide) (by decide) (fx' := [(8, 6, q0_, .int 1201), (8, 8, q0_, .int x_46), (9, 7, q1_, .int x_26), (2, 0, a0_, .ref q0_), (2, 4, a0_, .ref q1_)]) rfl (fun fr_49 H locs hp hMr_49 g => ?_)
            refine lv_aload_n hx hb dX2_readRowSize_106 rfl (lv_at hl 2 rfl) ?_
            refine g_getk (C := RX2) (T := TX2) (N := 16) hx hb hts (mc_ inX2) hown hK g rfl 0 (by decide) rfl (hts _ (List.mem_cons_of_mem _ t_416)) (fun _ h9 => h9) 3 rfl dX2_readRowSize_107 ?_
            refine lv_bipush (v := 93) hx hb dX2_readRowSize_110 (by decide) ?_
            refine g_callv (va_runV (As := [.int 93]) (rest := []) ⟨hx, hb, hml, hown, hts⟩ (r_X8_take_2 l dC dI L kd tys fr_49 H.size g.2.2.2.1 q0_ mq0_ kq0_ 93 1201 kb_1201 x_46 h_47 (g.fcts [0, 1] rfl)) (cwV 1 hts (gV_ t_1098 t_1099 t_1100 t_184 t_1101) rfl rfl rfl (by decide +kernel) ⟨(Nat.le_of_ble_eq_true rfl), (Nat.le_of_ble_eq_true rfl)⟩) (pre3V g hK mq0_ kq0_ (by decide) (q := (RX8, TX8, 10)) rfl) rfl rfl hl.1 rfl (lv_room (Nat.le_of_ble_eq_true rfl)) dX2_readRowSize_112 ⟨(Nat.le_of_ble_eq_true rfl), (Nat.le_of_ble_eq_true rfl)⟩) g hK (by decide) (by decide) (fx' := [(8, 8, q0_, .int x_46), (9, 7, q1_, .int x_26), (2, 0, a0_, .ref q0_), (2, 4, a0_, .ref q1_)]) rfl (fun fr_50 H locs hp hMr_50 g => ?_)
            obtain ⟨x_51, h_52, hF_53⟩ := hp
            have g := g.more hF_53
            refine lv_iload_n hx hb dX2_readRowSize_115 rfl (lv_at hl 0 rfl) ?_
            subst hQ
            exact W.iret (v := 1) hx hb hr (fun t ht hW => ⟨⟨_, _, rfl, Or.inr (Or.inl ⟨rfl, x_51, h_52, x_46, h_47, (g.fcts [0, 1] rfl)⟩), q3_of g hK ht hW⟩, g.2.2.1.F ht⟩) g.2.2.1.2.2 dX2_readRowSize_116
        · refine lv_aload_n hx hb dX2_readRowSize_76 rfl (lv_at hl 2 rfl) ?_
          refine g_getk (C := RX2) (T := TX2) (N := 16) hx hb hts (mc_ inX2) hown hK g rfl 4 (by decide) rfl (hts _ (List.mem_cons_of_mem _ t_420)) (fun _ h9 => h9) 2 rfl dX2_readRowSize_77 ?_
          refine g_geti (C := RX9) (T := TX9) (N := 13) hx hb hts (mc_ inX9) hown hK g mq1_ kq1_ (by decide) rfl 7 (by decide) rfl (hts _ (List.mem_cons_of_mem _ t_496)) (fun _ h9 => h9) rfl dX2_readRowSize_80 (fun x_54 bx_54 g => ?_)
          refine lv_iload_n hx hb dX2_readRowSize_83 rfl (lv_at hl 0 rfl) ?_
          have kb_2 : bd 2 2 (2 : Int32) := ⟨by decide, by decide⟩
          refine lv_iadd hx hb dX2_readRowSize_84 ?_
          refine lv_topi (fun y_55 ey_55 => ?_)
          have ty_55 := add_bd ey_55 bx_54 kb_2 (by decide)
          have b_56 : bd 2 26 y_55 := add_rg ty_55 bx_54 kb_2 (by decide)
          refine lv_bipush (v := 24) hx hb dX2_readRowSize_85 (by decide) ?_
          have kb_24 : bd 24 24 (24 : Int32) := ⟨by decide, by decide⟩
          refine lv_icmp_le (tgt := 99) hx hb dX2_readRowSize_87 (by decide) (fun c_57 => ?_) (fun c_57 => ?_)
          · have fc_57 := le_f c_57
            have b_58 : bd 2 24 y_55 := leL fc_57 b_56 kb_24 (by decide)
            have b_59 : bd 0 22 x_54 := add_inv ty_55 b_58 bx_54 kb_2 (by decide)
            refine lv_aload_n hx hb dX2_readRowSize_99 rfl (lv_at hl 2 rfl) ?_
            refine g_getk (C := RX2) (T := TX2) (N := 16) hx hb hts (mc_ inX2) hown hK g rfl 0 (by decide) rfl (hts _ (List.mem_cons_of_mem _ t_416)) (fun _ h9 => h9) 2 rfl dX2_readRowSize_100 ?_
            refine g_callv (va_runV (As := []) (rest := []) ⟨hx, hb, hml, hown, hts⟩ (r_X8_next l dC dI L kd tys fr_9 H.size g.2.2.2.1 q0_ mq0_ kq0_) (cwV 0 hts (gV_ t_1131 t_1103 t_1104 t_184 t_1105) rfl rfl rfl (by decide +kernel) ⟨(Nat.le_of_ble_eq_true rfl), (Nat.le_of_ble_eq_true rfl)⟩) (pre3V g hK mq0_ kq0_ (by decide) (q := (RX8, TX8, 10)) rfl) rfl rfl hl.1 rfl (lv_room (Nat.le_of_ble_eq_true rfl)) dX2_readRowSize_103 ⟨(Nat.le_of_ble_eq_true rfl), (Nat.le_of_ble_eq_true rfl)⟩) g hK (by decide) (by decide) (fx' := [(9, 7, q1_, .int x_54), (2, 0, a0_, .ref q0_), (2, 4, a0_, .ref q1_), (8, 8, q0_, .int y0_)]) rfl (fun fr_60 H locs hp hMr_60 g => ?_)
            obtain ⟨x_61, h_62, hF_63⟩ := hp
            have g := g.more hF_63
            refine lv_aload_n hx hb dX2_readRowSize_106 rfl (lv_at hl 2 rfl) ?_
            refine g_getk (C := RX2) (T := TX2) (N := 16) hx hb hts (mc_ inX2) hown hK g rfl 0 (by decide) rfl (hts _ (List.mem_cons_of_mem _ t_416)) (fun _ h9 => h9) 2 rfl dX2_readRowSize_107 ?_
            refine lv_bipush (v := 93) hx hb dX2_readRowSize_110 (by decide) ?_
            refine g_callv (va_runV (As := [.int 93]) (rest := []) ⟨hx, hb, hml, hown, hts⟩ (r_X8_take l dC dI L kd tys fr_60 H.size g.2.2.2.1 q0_ mq0_ kq0_ 93 y0_ by0_ (g.fcts [4] rfl)) (cwV 1 hts (gV_ t_1098 t_1099 t_1100 t_184 t_1101) rfl rfl rfl (by decide +kernel) ⟨(Nat.le_of_ble_eq_true rfl), (Nat.le_of_ble_eq_true rfl)⟩) (pre3V g hK mq0_ kq0_ (by decide) (q := (RX8, TX8, 10)) rfl) rfl rfl hl.1 rfl (lv_room (Nat.le_of_ble_eq_true rfl)) dX2_readRowSize_112 ⟨(Nat.le_of_ble_eq_true rfl), (Nat.le_of_ble_eq_true rfl)⟩) g hK (by decide) (by decide) (fx' := [(9, 7, q1_, .int x_54), (2, 0, a0_, .ref q0_), (2, 4, a0_, .ref q1_)]) rfl (fun fr_64 H locs hp hMr_64 g => ?_)
            rcases hp with ⟨x_65, h_66, hF_67⟩ | ⟨x_68, h_69, hF_70⟩
            · have g := g.more hF_67
              refine lv_iload_n hx hb dX2_readRowSize_115 rfl (lv_at hl 0 rfl) ?_
              subst hQ
              exact W.iret (v := 2) hx hb hr (fun t ht hW => ⟨⟨_, _, rfl, Or.inr (Or.inr (Or.inl ⟨rfl, x_65, h_66, x_54, b_59, (g.fcts [0, 1, 2] rfl)⟩)), q3_of g hK ht hW⟩, g.2.2.1.F ht⟩) g.2.2.1.2.2 dX2_readRowSize_116
            · have g := g.more hF_70
              refine lv_iload_n hx hb dX2_readRowSize_115 rfl (lv_at hl 0 rfl) ?_
              have kb_1201 : bd 1201 1201 (1201 : Int32) := ⟨by decide, by decide⟩
              subst hQ
              exact W.iret (v := 2) hx hb hr (fun t ht hW => ⟨⟨_, _, rfl, Or.inr (Or.inr (Or.inr (Or.inl ⟨rfl, 1201, kb_1201, x_68, h_69, (g.fcts [0, 1] rfl)⟩))), q3_of g hK ht hW⟩, g.2.2.1.F ht⟩) g.2.2.1.2.2 dX2_readRowSize_116
          · have fc_57 := nle_f c_57
            have b_71 : bd 25 26 y_55 := ltR fc_57 kb_24 b_56 (by decide)
            have b_72 : bd 23 24 x_54 := add_inv ty_55 b_71 bx_54 kb_2 (by decide)
            refine lv_aload_n hx hb dX2_readRowSize_90 rfl (lv_at hl 2 rfl) ?_
            refine g_getk (C := RX2) (T := TX2) (N := 16) hx hb hts (mc_ inX2) hown hK g rfl 0 (by decide) rfl (hts _ (List.mem_cons_of_mem _ t_416)) (fun _ h9 => h9) 2 rfl dX2_readRowSize_91 ?_
            refine lv_iconst (v := 4) hx hb dX2_readRowSize_94 (by decide) ?_
            refine lv_iload_n hx hb dX2_readRowSize_95 rfl (lv_at hl 1 rfl) ?_
            refine g_callv (va_runV (As := [.int 4, .int r_5]) (rest := []) ⟨hx, hb, hml, hown, hts⟩ (r_X8_fail l dC dI L kd tys fr_9 H.size g.2.2.2.1 q0_ mq0_ kq0_ 4 (bd_sub kb_4 (by decide)) r_5 y0_ by0_ (g.fcts [4] rfl)) (cwV 2 hts (gV_ t_1122 t_1107 t_1108 t_184 t_1109) rfl rfl rfl (by decide +kernel) ⟨(Nat.le_of_ble_eq_true rfl), (Nat.le_of_ble_eq_true rfl)⟩) (pre3V g hK mq0_ kq0_ (by decide) (q := (RX8, TX8, 10)) rfl) rfl rfl hl.1 rfl (lv_room (Nat.le_of_ble_eq_true rfl)) dX2_readRowSize_96 ⟨(Nat.le_of_ble_eq_true rfl), (Nat.le_of_ble_eq_true rfl)⟩) g hK (by decide) (by decide) (fx' := [(9, 7, q1_, .int x_54), (2, 0, a0_, .ref q0_), (2, 4, a0_, .ref q1_)]) rfl (fun fr_73 H locs hp hMr_73 g => ?_)
            obtain ⟨x_74, h_75, hF_76⟩ := hp
            have g := g.more hF_76
            refine lv_aload_n hx hb dX2_readRowSize_99 rfl (lv_at hl 2 rfl) ?_
            refine g_getk (C := RX2) (T := TX2) (N := 16) hx hb hts (mc_ inX2) hown hK g rfl 0 (by decide) rfl (hts _ (List.mem_cons_of_mem _ t_416)) (fun _ h9 => h9) 3 rfl dX2_readRowSize_100 ?_
            have kb_1201 : bd 1201 1201 (1201 : Int32) := ⟨by decide, by decide⟩
            refine g_callv (va_runV (As := []) (rest := []) ⟨hx, hb, hml, hown, hts⟩ (r_X8_next_2 l dC dI L kd tys fr_73 H.size g.2.2.2.1 q0_ mq0_ kq0_ 1201 kb_1201 (g.fcts [0] rfl)) (cwV 0 hts (gV_ t_1131 t_1103 t_1104 t_184 t_1105) rfl rfl rfl (by decide +kernel) ⟨(Nat.le_of_ble_eq_true rfl), (Nat.le_of_ble_eq_true rfl)⟩) (pre3V g hK mq0_ kq0_ (by decide) (q := (RX8, TX8, 10)) rfl) rfl rfl hl.1 rfl (lv_room (Nat.le_of_ble_eq_true rfl)) dX2_readRowSize_103 ⟨(Nat.le_of_ble_eq_true rfl), (Nat.le_of_ble_eq_true rfl)⟩) g hK (by decide) (by decide) (fx' := [(8, 6, q0_, .int 1201), (8, 8, q0_, .int x_74), (9, 7, q1_, .int x_54), (2, 0, a0_, .ref q0_), (2, 4, a0_, .ref q1_)]) rfl (fun fr_77 H locs hp hMr_77 g => ?_)
            refine lv_aload_n hx hb dX2_readRowSize_106 rfl (lv_at hl 2 rfl) ?_
            refine g_getk (C := RX2) (T := TX2) (N := 16) hx hb hts (mc_ inX2) hown hK g rfl 0 (by decide) rfl (hts _ (List.mem_cons_of_mem _ t_416)) (fun _ h9 => h9) 3 rfl dX2_readRowSize_107 ?_
            refine lv_bipush (v := 93) hx hb dX2_readRowSize_110 (by decide) ?_
            refine g_callv (va_runV (As := [.int 93]) (rest := []) ⟨hx, hb, hml, hown, hts⟩ (r_X8_take_2 l dC dI L kd tys fr_77 H.size g.2.2.2.1 q0_ mq0_ kq0_ 93 1201 kb_1201 x_74 h_75 (g.fcts [0, 1] rfl)) (cwV 1 hts (gV_ t_1098 t_1099 t_1100 t_184 t_1101) rfl rfl rfl (by decide +kernel) ⟨(Nat.le_of_ble_eq_true rfl), (Nat.le_of_ble_eq_true rfl)⟩) (pre3V g hK mq0_ kq0_ (by decide) (q := (RX8, TX8, 10)) rfl) rfl rfl hl.1 rfl (lv_room (Nat.le_of_ble_eq_true rfl)) dX2_readRowSize_112 ⟨(Nat.le_of_ble_eq_true rfl), (Nat.le_of_ble_eq_true rfl)⟩) g hK (by decide) (by decide) (fx' := [(8, 8, q0_, .int x_74), (9, 7, q1_, .int x_54), (2, 0, a0_, .ref q0_), (2, 4, a0_, .ref q1_)]) rfl (fun fr_78 H locs hp hMr_78 g => ?_)
            obtain ⟨x_79, h_80, hF_81⟩ := hp
            have g := g.more hF_81
            refine lv_iload_n hx hb dX2_readRowSize_115 rfl (lv_at hl 0 rfl) ?_
            subst hQ
            exact W.iret (v := 2) hx hb hr (fun t ht hW => ⟨⟨_, _, rfl, Or.inr (Or.inr (Or.inr (Or.inl ⟨rfl, x_79, h_80, x_74, h_75, (g.fcts [0, 1] rfl)⟩))), q3_of g hK ht hW⟩, g.2.2.1.F ht⟩) g.2.2.1.2.2 dX2_readRowSize_116
        · refine lv_aload_n hx hb dX2_readRowSize_76 rfl (lv_at hl 2 rfl) ?_
          refine g_getk (C := RX2) (T := TX2) (N := 16) hx hb hts (mc_ inX2) hown hK g rfl 4 (by decide) rfl (hts _ (List.mem_cons_of_mem _ t_420)) (fun _ h9 => h9) 2 rfl dX2_readRowSize_77 ?_
          refine g_geti (C := RX9) (T := TX9) (N := 13) hx hb hts (mc_ inX9) hown hK g mq1_ kq1_ (by decide) rfl 7 (by decide) rfl (hts _ (List.mem_cons_of_mem _ t_496)) (fun _ h9 => h9) rfl dX2_readRowSize_80 (fun x_82 bx_82 g => ?_)
          refine lv_iload_n hx hb dX2_readRowSize_83 rfl (lv_at hl 0 rfl) ?_
          have kb_3 : bd 3 3 (3 : Int32) := ⟨by decide, by decide⟩
          refine lv_iadd hx hb dX2_readRowSize_84 ?_
          refine lv_topi (fun y_83 ey_83 => ?_)
          have ty_83 := add_bd ey_83 bx_82 kb_3 (by decide)
          have b_84 : bd 3 27 y_83 := add_rg ty_83 bx_82 kb_3 (by decide)
          refine lv_bipush (v := 24) hx hb dX2_readRowSize_85 (by decide) ?_
          have kb_24 : bd 24 24 (24 : Int32) := ⟨by decide, by decide⟩
          refine lv_icmp_le (tgt := 99) hx hb dX2_readRowSize_87 (by decide) (fun c_85 => ?_) (fun c_85 => ?_)
          · have fc_85 := le_f c_85
            have b_86 : bd 3 24 y_83 := leL fc_85 b_84 kb_24 (by decide)
            have b_87 : bd 0 21 x_82 := add_inv ty_83 b_86 bx_82 kb_3 (by decide)
            refine lv_aload_n hx hb dX2_readRowSize_99 rfl (lv_at hl 2 rfl) ?_
            refine g_getk (C := RX2) (T := TX2) (N := 16) hx hb hts (mc_ inX2) hown hK g rfl 0 (by decide) rfl (hts _ (List.mem_cons_of_mem _ t_416)) (fun _ h9 => h9) 2 rfl dX2_readRowSize_100 ?_
            refine g_callv (va_runV (As := []) (rest := []) ⟨hx, hb, hml, hown, hts⟩ (r_X8_next l dC dI L kd tys fr_9 H.size g.2.2.2.1 q0_ mq0_ kq0_) (cwV 0 hts (gV_ t_1131 t_1103 t_1104 t_184 t_1105) rfl rfl rfl (by decide +kernel) ⟨(Nat.le_of_ble_eq_true rfl), (Nat.le_of_ble_eq_true rfl)⟩) (pre3V g hK mq0_ kq0_ (by decide) (q := (RX8, TX8, 10)) rfl) rfl rfl hl.1 rfl (lv_room (Nat.le_of_ble_eq_true rfl)) dX2_readRowSize_103 ⟨(Nat.le_of_ble_eq_true rfl), (Nat.le_of_ble_eq_true rfl)⟩) g hK (by decide) (by decide) (fx' := [(9, 7, q1_, .int x_82), (2, 0, a0_, .ref q0_), (2, 4, a0_, .ref q1_), (8, 8, q0_, .int y0_)]) rfl (fun fr_88 H locs hp hMr_88 g => ?_)
            obtain ⟨x_89, h_90, hF_91⟩ := hp
            have g := g.more hF_91
            refine lv_aload_n hx hb dX2_readRowSize_106 rfl (lv_at hl 2 rfl) ?_
            refine g_getk (C := RX2) (T := TX2) (N := 16) hx hb hts (mc_ inX2) hown hK g rfl 0 (by decide) rfl (hts _ (List.mem_cons_of_mem _ t_416)) (fun _ h9 => h9) 2 rfl dX2_readRowSize_107 ?_
            refine lv_bipush (v := 93) hx hb dX2_readRowSize_110 (by decide) ?_
            refine g_callv (va_runV (As := [.int 93]) (rest := []) ⟨hx, hb, hml, hown, hts⟩ (r_X8_take l dC dI L kd tys fr_88 H.size g.2.2.2.1 q0_ mq0_ kq0_ 93 y0_ by0_ (g.fcts [4] rfl)) (cwV 1 hts (gV_ t_1098 t_1099 t_1100 t_184 t_1101) rfl rfl rfl (by decide +kernel) ⟨(Nat.le_of_ble_eq_true rfl), (Nat.le_of_ble_eq_true rfl)⟩) (pre3V g hK mq0_ kq0_ (by decide) (q := (RX8, TX8, 10)) rfl) rfl rfl hl.1 rfl (lv_room (Nat.le_of_ble_eq_true rfl)) dX2_readRowSize_112 ⟨(Nat.le_of_ble_eq_true rfl), (Nat.le_of_ble_eq_true rfl)⟩) g hK (by decide) (by decide) (fx' := [(9, 7, q1_, .int x_82), (2, 0, a0_, .ref q0_), (2, 4, a0_, .ref q1_)]) rfl (fun fr_92 H locs hp hMr_92 g => ?_)
            rcases hp with ⟨x_93, h_94, hF_95⟩ | ⟨x_96, h_97, hF_98⟩
            · have g := g.more hF_95
              refine lv_iload_n hx hb dX2_readRowSize_115 rfl (lv_at hl 0 rfl) ?_
              subst hQ
              exact W.iret (v := 3) hx hb hr (fun t ht hW => ⟨⟨_, _, rfl, Or.inr (Or.inr (Or.inr (Or.inr (Or.inl ⟨rfl, x_93, h_94, x_82, b_87, (g.fcts [0, 1, 2] rfl)⟩)))), q3_of g hK ht hW⟩, g.2.2.1.F ht⟩) g.2.2.1.2.2 dX2_readRowSize_116
            · have g := g.more hF_98
              refine lv_iload_n hx hb dX2_readRowSize_115 rfl (lv_at hl 0 rfl) ?_
              have kb_1201 : bd 1201 1201 (1201 : Int32) := ⟨by decide, by decide⟩
              subst hQ
              exact W.iret (v := 3) hx hb hr (fun t ht hW => ⟨⟨_, _, rfl, Or.inr (Or.inr (Or.inr (Or.inr (Or.inr (Or.inl ⟨rfl, 1201, kb_1201, x_96, h_97, (g.fcts [0, 1] rfl)⟩))))), q3_of g hK ht hW⟩, g.2.2.1.F ht⟩) g.2.2.1.2.2 dX2_readRowSize_116
          · have fc_85 := nle_f c_85
            have b_99 : bd 25 27 y_83 := ltR fc_85 kb_24 b_84 (by decide)
            have b_100 : bd 22 24 x_82 := add_inv ty_83 b_99 bx_82 kb_3 (by decide)
            refine lv_aload_n hx hb dX2_readRowSize_90 rfl (lv_at hl 2 rfl) ?_
            refine g_getk (C := RX2) (T := TX2) (N := 16) hx hb hts (mc_ inX2) hown hK g rfl 0 (by decide) rfl (hts _ (List.mem_cons_of_mem _ t_416)) (fun _ h9 => h9) 2 rfl dX2_readRowSize_91 ?_
            refine lv_iconst (v := 4) hx hb dX2_readRowSize_94 (by decide) ?_
            refine lv_iload_n hx hb dX2_readRowSize_95 rfl (lv_at hl 1 rfl) ?_
            refine g_callv (va_runV (As := [.int 4, .int r_5]) (rest := []) ⟨hx, hb, hml, hown, hts⟩ (r_X8_fail l dC dI L kd tys fr_9 H.size g.2.2.2.1 q0_ mq0_ kq0_ 4 (bd_sub kb_4 (by decide)) r_5 y0_ by0_ (g.fcts [4] rfl)) (cwV 2 hts (gV_ t_1122 t_1107 t_1108 t_184 t_1109) rfl rfl rfl (by decide +kernel) ⟨(Nat.le_of_ble_eq_true rfl), (Nat.le_of_ble_eq_true rfl)⟩) (pre3V g hK mq0_ kq0_ (by decide) (q := (RX8, TX8, 10)) rfl) rfl rfl hl.1 rfl (lv_room (Nat.le_of_ble_eq_true rfl)) dX2_readRowSize_96 ⟨(Nat.le_of_ble_eq_true rfl), (Nat.le_of_ble_eq_true rfl)⟩) g hK (by decide) (by decide) (fx' := [(9, 7, q1_, .int x_82), (2, 0, a0_, .ref q0_), (2, 4, a0_, .ref q1_)]) rfl (fun fr_101 H locs hp hMr_101 g => ?_)
            obtain ⟨x_102, h_103, hF_104⟩ := hp
            have g := g.more hF_104
            refine lv_aload_n hx hb dX2_readRowSize_99 rfl (lv_at hl 2 rfl) ?_
            refine g_getk (C := RX2) (T := TX2) (N := 16) hx hb hts (mc_ inX2) hown hK g rfl 0 (by decide) rfl (hts _ (List.mem_cons_of_mem _ t_416)) (fun _ h9 => h9) 3 rfl dX2_readRowSize_100 ?_
            have kb_1201 : bd 1201 1201 (1201 : Int32) := ⟨by decide, by decide⟩
            refine g_callv (va_runV (As := []) (rest := []) ⟨hx, hb, hml, hown, hts⟩ (r_X8_next_2 l dC dI L kd tys fr_101 H.size g.2.2.2.1 q0_ mq0_ kq0_ 1201 kb_1201 (g.fcts [0] rfl)) (cwV 0 hts (gV_ t_1131 t_1103 t_1104 t_184 t_1105) rfl rfl rfl (by decide +kernel) ⟨(Nat.le_of_ble_eq_true rfl), (Nat.le_of_ble_eq_true rfl)⟩) (pre3V g hK mq0_ kq0_ (by decide) (q := (RX8, TX8, 10)) rfl) rfl rfl hl.1 rfl (lv_room (Nat.le_of_ble_eq_true rfl)) dX2_readRowSize_103 ⟨(Nat.le_of_ble_eq_true rfl), (Nat.le_of_ble_eq_true rfl)⟩) g hK (by decide) (by decide) (fx' := [(8, 6, q0_, .int 1201), (8, 8, q0_, .int x_102), (9, 7, q1_, .int x_82), (2, 0, a0_, .ref q0_), (2, 4, a0_, .ref q1_)]) rfl (fun fr_105 H locs hp hMr_105 g => ?_)
            refine lv_aload_n hx hb dX2_readRowSize_106 rfl (lv_at hl 2 rfl) ?_
            refine g_getk (C := RX2) (T := TX2) (N := 16) hx hb hts (mc_ inX2) hown hK g rfl 0 (by decide) rfl (hts _ (List.mem_cons_of_mem _ t_416)) (fun _ h9 => h9) 3 rfl dX2_readRowSize_107 ?_
            refine lv_bipush (v := 93) hx hb dX2_readRowSize_110 (by decide) ?_
            refine g_callv (va_runV (As := [.int 93]) (rest := []) ⟨hx, hb, hml, hown, hts⟩ (r_X8_take_2 l dC dI L kd tys fr_105 H.size g.2.2.2.1 q0_ mq0_ kq0_ 93 1201 kb_1201 x_102 h_103 (g.fcts [0, 1] rfl)) (cwV 1 hts (gV_ t_1098 t_1099 t_1100 t_184 t_1101) rfl rfl rfl (by decide +kernel) ⟨(Nat.le_of_ble_eq_true rfl), (Nat.le_of_ble_eq_true rfl)⟩) (pre3V g hK mq0_ kq0_ (by decide) (q := (RX8, TX8, 10)) rfl) rfl rfl hl.1 rfl (lv_room (Nat.le_of_ble_eq_true rfl)) dX2_readRowSize_112 ⟨(Nat.le_of_ble_eq_true rfl), (Nat.le_of_ble_eq_true rfl)⟩) g hK (by decide) (by decide) (fx' := [(8, 8, q0_, .int x_102), (9, 7, q1_, .int x_82), (2, 0, a0_, .ref q0_), (2, 4, a0_, .ref q1_)]) rfl (fun fr_106 H locs hp hMr_106 g => ?_)
            obtain ⟨x_107, h_108, hF_109⟩ := hp
            have g := g.more hF_109
            refine lv_iload_n hx hb dX2_readRowSize_115 rfl (lv_at hl 0 rfl) ?_
            subst hQ
            exact W.iret (v := 3) hx hb hr (fun t ht hW => ⟨⟨_, _, rfl, Or.inr (Or.inr (Or.inr (Or.inr (Or.inr (Or.inl ⟨rfl, x_107, h_108, x_102, h_103, (g.fcts [0, 1] rfl)⟩))))), q3_of g hK ht hW⟩, g.2.2.1.F ht⟩) g.2.2.1.2.2 dX2_readRowSize_116
        · refine lv_aload_n hx hb dX2_readRowSize_76 rfl (lv_at hl 2 rfl) ?_
          refine g_getk (C := RX2) (T := TX2) (N := 16) hx hb hts (mc_ inX2) hown hK g rfl 4 (by decide) rfl (hts _ (List.mem_cons_of_mem _ t_420)) (fun _ h9 => h9) 2 rfl dX2_readRowSize_77 ?_
          refine g_geti (C := RX9) (T := TX9) (N := 13) hx hb hts (mc_ inX9) hown hK g mq1_ kq1_ (by decide) rfl 7 (by decide) rfl (hts _ (List.mem_cons_of_mem _ t_496)) (fun _ h9 => h9) rfl dX2_readRowSize_80 (fun x_110 bx_110 g => ?_)
          refine lv_iload_n hx hb dX2_readRowSize_83 rfl (lv_at hl 0 rfl) ?_
          refine lv_iadd hx hb dX2_readRowSize_84 ?_
          refine lv_topi (fun y_111 ey_111 => ?_)
          have ty_111 := add_bd ey_111 bx_110 kb_4 (by decide)
          have b_112 : bd 4 28 y_111 := add_rg ty_111 bx_110 kb_4 (by decide)
          refine lv_bipush (v := 24) hx hb dX2_readRowSize_85 (by decide) ?_
          have kb_24 : bd 24 24 (24 : Int32) := ⟨by decide, by decide⟩
          refine lv_icmp_le (tgt := 99) hx hb dX2_readRowSize_87 (by decide) (fun c_113 => ?_) (fun c_113 => ?_)
          · have fc_113 := le_f c_113
            have b_114 : bd 4 24 y_111 := leL fc_113 b_112 kb_24 (by decide)
            have b_115 : bd 0 20 x_110 := add_inv ty_111 b_114 bx_110 kb_4 (by decide)
            refine lv_aload_n hx hb dX2_readRowSize_99 rfl (lv_at hl 2 rfl) ?_
            refine g_getk (C := RX2) (T := TX2) (N := 16) hx hb hts (mc_ inX2) hown hK g rfl 0 (by decide) rfl (hts _ (List.mem_cons_of_mem _ t_416)) (fun _ h9 => h9) 2 rfl dX2_readRowSize_100 ?_
            refine g_callv (va_runV (As := []) (rest := []) ⟨hx, hb, hml, hown, hts⟩ (r_X8_next l dC dI L kd tys fr_9 H.size g.2.2.2.1 q0_ mq0_ kq0_) (cwV 0 hts (gV_ t_1131 t_1103 t_1104 t_184 t_1105) rfl rfl rfl (by decide +kernel) ⟨(Nat.le_of_ble_eq_true rfl), (Nat.le_of_ble_eq_true rfl)⟩) (pre3V g hK mq0_ kq0_ (by decide) (q := (RX8, TX8, 10)) rfl) rfl rfl hl.1 rfl (lv_room (Nat.le_of_ble_eq_true rfl)) dX2_readRowSize_103 ⟨(Nat.le_of_ble_eq_true rfl), (Nat.le_of_ble_eq_true rfl)⟩) g hK (by decide) (by decide) (fx' := [(9, 7, q1_, .int x_110), (2, 0, a0_, .ref q0_), (2, 4, a0_, .ref q1_), (8, 8, q0_, .int y0_)]) rfl (fun fr_116 H locs hp hMr_116 g => ?_)
            obtain ⟨x_117, h_118, hF_119⟩ := hp
            have g := g.more hF_119
            refine lv_aload_n hx hb dX2_readRowSize_106 rfl (lv_at hl 2 rfl) ?_
            refine g_getk (C := RX2) (T := TX2) (N := 16) hx hb hts (mc_ inX2) hown hK g rfl 0 (by decide) rfl (hts _ (List.mem_cons_of_mem _ t_416)) (fun _ h9 => h9) 2 rfl dX2_readRowSize_107 ?_
            refine lv_bipush (v := 93) hx hb dX2_readRowSize_110 (by decide) ?_
            refine g_callv (va_runV (As := [.int 93]) (rest := []) ⟨hx, hb, hml, hown, hts⟩ (r_X8_take l dC dI L kd tys fr_116 H.size g.2.2.2.1 q0_ mq0_ kq0_ 93 y0_ by0_ (g.fcts [4] rfl)) (cwV 1 hts (gV_ t_1098 t_1099 t_1100 t_184 t_1101) rfl rfl rfl (by decide +kernel) ⟨(Nat.le_of_ble_eq_true rfl), (Nat.le_of_ble_eq_true rfl)⟩) (pre3V g hK mq0_ kq0_ (by decide) (q := (RX8, TX8, 10)) rfl) rfl rfl hl.1 rfl (lv_room (Nat.le_of_ble_eq_true rfl)) dX2_readRowSize_112 ⟨(Nat.le_of_ble_eq_true rfl), (Nat.le_of_ble_eq_true rfl)⟩) g hK (by decide) (by decide) (fx' := [(9, 7, q1_, .int x_110), (2, 0, a0_, .ref q0_), (2, 4, a0_, .ref q1_)]) rfl (fun fr_120 H locs hp hMr_120 g => ?_)
            rcases hp with ⟨x_121, h_122, hF_123⟩ | ⟨x_124, h_125, hF_126⟩
            · have g := g.more hF_123
              refine lv_iload_n hx hb dX2_readRowSize_115 rfl (lv_at hl 0 rfl) ?_
              subst hQ
              exact W.iret (v := 4) hx hb hr (fun t ht hW => ⟨⟨_, _, rfl, Or.inr (Or.inr (Or.inr (Or.inr (Or.inr (Or.inr (Or.inl ⟨rfl, x_121, h_122, x_110, b_115, (g.fcts [0, 1, 2] rfl)⟩)))))), q3_of g hK ht hW⟩, g.2.2.1.F ht⟩) g.2.2.1.2.2 dX2_readRowSize_116
            · have g := g.more hF_126
              refine lv_iload_n hx hb dX2_readRowSize_115 rfl (lv_at hl 0 rfl) ?_
              have kb_1201 : bd 1201 1201 (1201 : Int32) := ⟨by decide, by decide⟩
              subst hQ
              exact W.iret (v := 4) hx hb hr (fun t ht hW => ⟨⟨_, _, rfl, Or.inr (Or.inr (Or.inr (Or.inr (Or.inr (Or.inr (Or.inr (Or.inl ⟨rfl, 1201, kb_1201, x_124, h_125, (g.fcts [0, 1] rfl)⟩))))))), q3_of g hK ht hW⟩, g.2.2.1.F ht⟩) g.2.2.1.2.2 dX2_readRowSize_116
          · have fc_113 := nle_f c_113
            have b_127 : bd 25 28 y_111 := ltR fc_113 kb_24 b_112 (by decide)
            have b_128 : bd 21 24 x_110 := add_inv ty_111 b_127 bx_110 kb_4 (by decide)
            refine lv_aload_n hx hb dX2_readRowSize_90 rfl (lv_at hl 2 rfl) ?_
            refine g_getk (C := RX2) (T := TX2) (N := 16) hx hb hts (mc_ inX2) hown hK g rfl 0 (by decide) rfl (hts _ (List.mem_cons_of_mem _ t_416)) (fun _ h9 => h9) 2 rfl dX2_readRowSize_91 ?_
            refine lv_iconst (v := 4) hx hb dX2_readRowSize_94 (by decide) ?_
            refine lv_iload_n hx hb dX2_readRowSize_95 rfl (lv_at hl 1 rfl) ?_
            refine g_callv (va_runV (As := [.int 4, .int r_5]) (rest := []) ⟨hx, hb, hml, hown, hts⟩ (r_X8_fail l dC dI L kd tys fr_9 H.size g.2.2.2.1 q0_ mq0_ kq0_ 4 (bd_sub kb_4 (by decide)) r_5 y0_ by0_ (g.fcts [4] rfl)) (cwV 2 hts (gV_ t_1122 t_1107 t_1108 t_184 t_1109) rfl rfl rfl (by decide +kernel) ⟨(Nat.le_of_ble_eq_true rfl), (Nat.le_of_ble_eq_true rfl)⟩) (pre3V g hK mq0_ kq0_ (by decide) (q := (RX8, TX8, 10)) rfl) rfl rfl hl.1 rfl (lv_room (Nat.le_of_ble_eq_true rfl)) dX2_readRowSize_96 ⟨(Nat.le_of_ble_eq_true rfl), (Nat.le_of_ble_eq_true rfl)⟩) g hK (by decide) (by decide) (fx' := [(9, 7, q1_, .int x_110), (2, 0, a0_, .ref q0_), (2, 4, a0_, .ref q1_)]) rfl (fun fr_129 H locs hp hMr_129 g => ?_)
            obtain ⟨x_130, h_131, hF_132⟩ := hp
            have g := g.more hF_132
            refine lv_aload_n hx hb dX2_readRowSize_99 rfl (lv_at hl 2 rfl) ?_
            refine g_getk (C := RX2) (T := TX2) (N := 16) hx hb hts (mc_ inX2) hown hK g rfl 0 (by decide) rfl (hts _ (List.mem_cons_of_mem _ t_416)) (fun _ h9 => h9) 3 rfl dX2_readRowSize_100 ?_
            have kb_1201 : bd 1201 1201 (1201 : Int32) := ⟨by decide, by decide⟩
            refine g_callv (va_runV (As := []) (rest := []) ⟨hx, hb, hml, hown, hts⟩ (r_X8_next_2 l dC dI L kd tys fr_129 H.size g.2.2.2.1 q0_ mq0_ kq0_ 1201 kb_1201 (g.fcts [0] rfl)) (cwV 0 hts (gV_ t_1131 t_1103 t_1104 t_184 t_1105) rfl rfl rfl (by decide +kernel) ⟨(Nat.le_of_ble_eq_true rfl), (Nat.le_of_ble_eq_true rfl)⟩) (pre3V g hK mq0_ kq0_ (by decide) (q := (RX8, TX8, 10)) rfl) rfl rfl hl.1 rfl (lv_room (Nat.le_of_ble_eq_true rfl)) dX2_readRowSize_103 ⟨(Nat.le_of_ble_eq_true rfl), (Nat.le_of_ble_eq_true rfl)⟩) g hK (by decide) (by decide) (fx' := [(8, 6, q0_, .int 1201), (8, 8, q0_, .int x_130), (9, 7, q1_, .int x_110), (2, 0, a0_, .ref q0_), (2, 4, a0_, .ref q1_)]) rfl (fun fr_133 H locs hp hMr_133 g => ?_)
            refine lv_aload_n hx hb dX2_readRowSize_106 rfl (lv_at hl 2 rfl) ?_
            refine g_getk (C := RX2) (T := TX2) (N := 16) hx hb hts (mc_ inX2) hown hK g rfl 0 (by decide) rfl (hts _ (List.mem_cons_of_mem _ t_416)) (fun _ h9 => h9) 3 rfl dX2_readRowSize_107 ?_
            refine lv_bipush (v := 93) hx hb dX2_readRowSize_110 (by decide) ?_
            refine g_callv (va_runV (As := [.int 93]) (rest := []) ⟨hx, hb, hml, hown, hts⟩ (r_X8_take_2 l dC dI L kd tys fr_133 H.size g.2.2.2.1 q0_ mq0_ kq0_ 93 1201 kb_1201 x_130 h_131 (g.fcts [0, 1] rfl)) (cwV 1 hts (gV_ t_1098 t_1099 t_1100 t_184 t_1101) rfl rfl rfl (by decide +kernel) ⟨(Nat.le_of_ble_eq_true rfl), (Nat.le_of_ble_eq_true rfl)⟩) (pre3V g hK mq0_ kq0_ (by decide) (q := (RX8, TX8, 10)) rfl) rfl rfl hl.1 rfl (lv_room (Nat.le_of_ble_eq_true rfl)) dX2_readRowSize_112 ⟨(Nat.le_of_ble_eq_true rfl), (Nat.le_of_ble_eq_true rfl)⟩) g hK (by decide) (by decide) (fx' := [(8, 8, q0_, .int x_130), (9, 7, q1_, .int x_110), (2, 0, a0_, .ref q0_), (2, 4, a0_, .ref q1_)]) rfl (fun fr_134 H locs hp hMr_134 g => ?_)
            obtain ⟨x_135, h_136, hF_137⟩ := hp
            have g := g.more hF_137
            refine lv_iload_n hx hb dX2_readRowSize_115 rfl (lv_at hl 0 rfl) ?_
            subst hQ
            exact W.iret (v := 4) hx hb hr (fun t ht hW => ⟨⟨_, _, rfl, Or.inr (Or.inr (Or.inr (Or.inr (Or.inr (Or.inr (Or.inr (Or.inl ⟨rfl, x_135, h_136, x_130, h_131, (g.fcts [0, 1] rfl)⟩))))))), q3_of g hK ht hW⟩, g.2.2.1.F ht⟩) g.2.2.1.2.2 dX2_readRowSize_116
        · refine lv_aload_n hx hb dX2_readRowSize_76 rfl (lv_at hl 2 rfl) ?_
          refine g_getk (C := RX2) (T := TX2) (N := 16) hx hb hts (mc_ inX2) hown hK g rfl 4 (by decide) rfl (hts _ (List.mem_cons_of_mem _ t_420)) (fun _ h9 => h9) 2 rfl dX2_readRowSize_77 ?_
          refine g_geti (C := RX9) (T := TX9) (N := 13) hx hb hts (mc_ inX9) hown hK g mq1_ kq1_ (by decide) rfl 7 (by decide) rfl (hts _ (List.mem_cons_of_mem _ t_496)) (fun _ h9 => h9) rfl dX2_readRowSize_80 (fun x_138 bx_138 g => ?_)
          refine lv_iload_n hx hb dX2_readRowSize_83 rfl (lv_at hl 0 rfl) ?_
          have kb_5 : bd 5 5 (5 : Int32) := ⟨by decide, by decide⟩
          refine lv_iadd hx hb dX2_readRowSize_84 ?_
          refine lv_topi (fun y_139 ey_139 => ?_)
          have ty_139 := add_bd ey_139 bx_138 kb_5 (by decide)
          have b_140 : bd 5 29 y_139 := add_rg ty_139 bx_138 kb_5 (by decide)
          refine lv_bipush (v := 24) hx hb dX2_readRowSize_85 (by decide) ?_
          have kb_24 : bd 24 24 (24 : Int32) := ⟨by decide, by decide⟩
          refine lv_icmp_le (tgt := 99) hx hb dX2_readRowSize_87 (by decide) (fun c_141 => ?_) (fun c_141 => ?_)
          · have fc_141 := le_f c_141
            have b_142 : bd 5 24 y_139 := leL fc_141 b_140 kb_24 (by decide)
            have b_143 : bd 0 19 x_138 := add_inv ty_139 b_142 bx_138 kb_5 (by decide)
            refine lv_aload_n hx hb dX2_readRowSize_99 rfl (lv_at hl 2 rfl) ?_
            refine g_getk (C := RX2) (T := TX2) (N := 16) hx hb hts (mc_ inX2) hown hK g rfl 0 (by decide) rfl (hts _ (List.mem_cons_of_mem _ t_416)) (fun _ h9 => h9) 2 rfl dX2_readRowSize_100 ?_
            refine g_callv (va_runV (As := []) (rest := []) ⟨hx, hb, hml, hown, hts⟩ (r_X8_next l dC dI L kd tys fr_9 H.size g.2.2.2.1 q0_ mq0_ kq0_) (cwV 0 hts (gV_ t_1131 t_1103 t_1104 t_184 t_1105) rfl rfl rfl (by decide +kernel) ⟨(Nat.le_of_ble_eq_true rfl), (Nat.le_of_ble_eq_true rfl)⟩) (pre3V g hK mq0_ kq0_ (by decide) (q := (RX8, TX8, 10)) rfl) rfl rfl hl.1 rfl (lv_room (Nat.le_of_ble_eq_true rfl)) dX2_readRowSize_103 ⟨(Nat.le_of_ble_eq_true rfl), (Nat.le_of_ble_eq_true rfl)⟩) g hK (by decide) (by decide) (fx' := [(9, 7, q1_, .int x_138), (2, 0, a0_, .ref q0_), (2, 4, a0_, .ref q1_), (8, 8, q0_, .int y0_)]) rfl (fun fr_144 H locs hp hMr_144 g => ?_)
            obtain ⟨x_145, h_146, hF_147⟩ := hp
            have g := g.more hF_147
            refine lv_aload_n hx hb dX2_readRowSize_106 rfl (lv_at hl 2 rfl) ?_
            refine g_getk (C := RX2) (T := TX2) (N := 16) hx hb hts (mc_ inX2) hown hK g rfl 0 (by decide) rfl (hts _ (List.mem_cons_of_mem _ t_416)) (fun _ h9 => h9) 2 rfl dX2_readRowSize_107 ?_
            refine lv_bipush (v := 93) hx hb dX2_readRowSize_110 (by decide) ?_
            refine g_callv (va_runV (As := [.int 93]) (rest := []) ⟨hx, hb, hml, hown, hts⟩ (r_X8_take l dC dI L kd tys fr_144 H.size g.2.2.2.1 q0_ mq0_ kq0_ 93 y0_ by0_ (g.fcts [4] rfl)) (cwV 1 hts (gV_ t_1098 t_1099 t_1100 t_184 t_1101) rfl rfl rfl (by decide +kernel) ⟨(Nat.le_of_ble_eq_true rfl), (Nat.le_of_ble_eq_true rfl)⟩) (pre3V g hK mq0_ kq0_ (by decide) (q := (RX8, TX8, 10)) rfl) rfl rfl hl.1 rfl (lv_room (Nat.le_of_ble_eq_true rfl)) dX2_readRowSize_112 ⟨(Nat.le_of_ble_eq_true rfl), (Nat.le_of_ble_eq_true rfl)⟩) g hK (by decide) (by decide) (fx' := [(9, 7, q1_, .int x_138), (2, 0, a0_, .ref q0_), (2, 4, a0_, .ref q1_)]) rfl (fun fr_148 H locs hp hMr_148 g => ?_)
            rcases hp with ⟨x_149, h_150, hF_151⟩ | ⟨x_152, h_153, hF_154⟩
            · have g := g.more hF_151
              refine lv_iload_n hx hb dX2_readRowSize_115 rfl (lv_at hl 0 rfl) ?_
              subst hQ
              exact W.iret (v := 5) hx hb hr (fun t ht hW => ⟨⟨_, _, rfl, Or.inr (Or.inr (Or.inr (Or.inr (Or.inr (Or.inr (Or.inr (Or.inr (Or.inl ⟨rfl, x_149, h_150, x_138, b_143, (g.fcts [0, 1, 2] rfl)⟩)))))))), q3_of g hK ht hW⟩, g.2.2.1.F ht⟩) g.2.2.1.2.2 dX2_readRowSize_116
            · have g := g.more hF_154
              refine lv_iload_n hx hb dX2_readRowSize_115 rfl (lv_at hl 0 rfl) ?_
              have kb_1201 : bd 1201 1201 (1201 : Int32) := ⟨by decide, by decide⟩
              subst hQ
              exact W.iret (v := 5) hx hb hr (fun t ht hW => ⟨⟨_, _, rfl, Or.inr (Or.inr (Or.inr (Or.inr (Or.inr (Or.inr (Or.inr (Or.inr (Or.inr (Or.inl ⟨rfl, 1201, kb_1201, x_152, h_153, (g.fcts [0, 1] rfl)⟩))))))))), q3_of g hK ht hW⟩, g.2.2.1.F ht⟩) g.2.2.1.2.2 dX2_readRowSize_116
          · have fc_141 := nle_f c_141
            have b_155 : bd 25 29 y_139 := ltR fc_141 kb_24 b_140 (by decide)
            have b_156 : bd 20 24 x_138 := add_inv ty_139 b_155 bx_138 kb_5 (by decide)
            refine lv_aload_n hx hb dX2_readRowSize_90 rfl (lv_at hl 2 rfl) ?_
            refine g_getk (C := RX2) (T := TX2) (N := 16) hx hb hts (mc_ inX2) hown hK g rfl 0 (by decide) rfl (hts _ (List.mem_cons_of_mem _ t_416)) (fun _ h9 => h9) 2 rfl dX2_readRowSize_91 ?_
            refine lv_iconst (v := 4) hx hb dX2_readRowSize_94 (by decide) ?_
            refine lv_iload_n hx hb dX2_readRowSize_95 rfl (lv_at hl 1 rfl) ?_
            refine g_callv (va_runV (As := [.int 4, .int r_5]) (rest := []) ⟨hx, hb, hml, hown, hts⟩ (r_X8_fail l dC dI L kd tys fr_9 H.size g.2.2.2.1 q0_ mq0_ kq0_ 4 (bd_sub kb_4 (by decide)) r_5 y0_ by0_ (g.fcts [4] rfl)) (cwV 2 hts (gV_ t_1122 t_1107 t_1108 t_184 t_1109) rfl rfl rfl (by decide +kernel) ⟨(Nat.le_of_ble_eq_true rfl), (Nat.le_of_ble_eq_true rfl)⟩) (pre3V g hK mq0_ kq0_ (by decide) (q := (RX8, TX8, 10)) rfl) rfl rfl hl.1 rfl (lv_room (Nat.le_of_ble_eq_true rfl)) dX2_readRowSize_96 ⟨(Nat.le_of_ble_eq_true rfl), (Nat.le_of_ble_eq_true rfl)⟩) g hK (by decide) (by decide) (fx' := [(9, 7, q1_, .int x_138), (2, 0, a0_, .ref q0_), (2, 4, a0_, .ref q1_)]) rfl (fun fr_157 H locs hp hMr_157 g => ?_)
            obtain ⟨x_158, h_159, hF_160⟩ := hp
            have g := g.more hF_160
            refine lv_aload_n hx hb dX2_readRowSize_99 rfl (lv_at hl 2 rfl) ?_
            refine g_getk (C := RX2) (T := TX2) (N := 16) hx hb hts (mc_ inX2) hown hK g rfl 0 (by decide) rfl (hts _ (List.mem_cons_of_mem _ t_416)) (fun _ h9 => h9) 3 rfl dX2_readRowSize_100 ?_
            have kb_1201 : bd 1201 1201 (1201 : Int32) := ⟨by decide, by decide⟩
            refine g_callv (va_runV (As := []) (rest := []) ⟨hx, hb, hml, hown, hts⟩ (r_X8_next_2 l dC dI L kd tys fr_157 H.size g.2.2.2.1 q0_ mq0_ kq0_ 1201 kb_1201 (g.fcts [0] rfl)) (cwV 0 hts (gV_ t_1131 t_1103 t_1104 t_184 t_1105) rfl rfl rfl (by decide +kernel) ⟨(Nat.le_of_ble_eq_true rfl), (Nat.le_of_ble_eq_true rfl)⟩) (pre3V g hK mq0_ kq0_ (by decide) (q := (RX8, TX8, 10)) rfl) rfl rfl hl.1 rfl (lv_room (Nat.le_of_ble_eq_true rfl)) dX2_readRowSize_103 ⟨(Nat.le_of_ble_eq_true rfl), (Nat.le_of_ble_eq_true rfl)⟩) g hK (by decide) (by decide) (fx' := [(8, 6, q0_, .int 1201), (8, 8, q0_, .int x_158), (9, 7, q1_, .int x_138), (2, 0, a0_, .ref q0_), (2, 4, a0_, .ref q1_)]) rfl (fun fr_161 H locs hp hMr_161 g => ?_)
            refine lv_aload_n hx hb dX2_readRowSize_106 rfl (lv_at hl 2 rfl) ?_
            refine g_getk (C := RX2) (T := TX2) (N := 16) hx hb hts (mc_ inX2) hown hK g rfl 0 (by decide) rfl (hts _ (List.mem_cons_of_mem _ t_416)) (fun _ h9 => h9) 3 rfl dX2_readRowSize_107 ?_
            refine lv_bipush (v := 93) hx hb dX2_readRowSize_110 (by decide) ?_
            refine g_callv (va_runV (As := [.int 93]) (rest := []) ⟨hx, hb, hml, hown, hts⟩ (r_X8_take_2 l dC dI L kd tys fr_161 H.size g.2.2.2.1 q0_ mq0_ kq0_ 93 1201 kb_1201 x_158 h_159 (g.fcts [0, 1] rfl)) (cwV 1 hts (gV_ t_1098 t_1099 t_1100 t_184 t_1101) rfl rfl rfl (by decide +kernel) ⟨(Nat.le_of_ble_eq_true rfl), (Nat.le_of_ble_eq_true rfl)⟩) (pre3V g hK mq0_ kq0_ (by decide) (q := (RX8, TX8, 10)) rfl) rfl rfl hl.1 rfl (lv_room (Nat.le_of_ble_eq_true rfl)) dX2_readRowSize_112 ⟨(Nat.le_of_ble_eq_true rfl), (Nat.le_of_ble_eq_true rfl)⟩) g hK (by decide) (by decide) (fx' := [(8, 8, q0_, .int x_158), (9, 7, q1_, .int x_138), (2, 0, a0_, .ref q0_), (2, 4, a0_, .ref q1_)]) rfl (fun fr_162 H locs hp hMr_162 g => ?_)
            obtain ⟨x_163, h_164, hF_165⟩ := hp
            have g := g.more hF_165
            refine lv_iload_n hx hb dX2_readRowSize_115 rfl (lv_at hl 0 rfl) ?_
            subst hQ
            exact W.iret (v := 5) hx hb hr (fun t ht hW => ⟨⟨_, _, rfl, Or.inr (Or.inr (Or.inr (Or.inr (Or.inr (Or.inr (Or.inr (Or.inr (Or.inr (Or.inl ⟨rfl, x_163, h_164, x_158, h_159, (g.fcts [0, 1] rfl)⟩))))))))), q3_of g hK ht hW⟩, g.2.2.1.F ht⟩) g.2.2.1.2.2 dX2_readRowSize_116
        · refine lv_aload_n hx hb dX2_readRowSize_76 rfl (lv_at hl 2 rfl) ?_
          refine g_getk (C := RX2) (T := TX2) (N := 16) hx hb hts (mc_ inX2) hown hK g rfl 4 (by decide) rfl (hts _ (List.mem_cons_of_mem _ t_420)) (fun _ h9 => h9) 2 rfl dX2_readRowSize_77 ?_
          refine g_geti (C := RX9) (T := TX9) (N := 13) hx hb hts (mc_ inX9) hown hK g mq1_ kq1_ (by decide) rfl 7 (by decide) rfl (hts _ (List.mem_cons_of_mem _ t_496)) (fun _ h9 => h9) rfl dX2_readRowSize_80 (fun x_166 bx_166 g => ?_)
          refine lv_iload_n hx hb dX2_readRowSize_83 rfl (lv_at hl 0 rfl) ?_
          have kb_6 : bd 6 6 (6 : Int32) := ⟨by decide, by decide⟩
          refine lv_iadd hx hb dX2_readRowSize_84 ?_
          refine lv_topi (fun y_167 ey_167 => ?_)
          have ty_167 := add_bd ey_167 bx_166 kb_6 (by decide)
          have b_168 : bd 6 30 y_167 := add_rg ty_167 bx_166 kb_6 (by decide)
          refine lv_bipush (v := 24) hx hb dX2_readRowSize_85 (by decide) ?_
          have kb_24 : bd 24 24 (24 : Int32) := ⟨by decide, by decide⟩
          refine lv_icmp_le (tgt := 99) hx hb dX2_readRowSize_87 (by decide) (fun c_169 => ?_) (fun c_169 => ?_)
          · have fc_169 := le_f c_169
            have b_170 : bd 6 24 y_167 := leL fc_169 b_168 kb_24 (by decide)
            have b_171 : bd 0 18 x_166 := add_inv ty_167 b_170 bx_166 kb_6 (by decide)
            refine lv_aload_n hx hb dX2_readRowSize_99 rfl (lv_at hl 2 rfl) ?_
            refine g_getk (C := RX2) (T := TX2) (N := 16) hx hb hts (mc_ inX2) hown hK g rfl 0 (by decide) rfl (hts _ (List.mem_cons_of_mem _ t_416)) (fun _ h9 => h9) 2 rfl dX2_readRowSize_100 ?_
            refine g_callv (va_runV (As := []) (rest := []) ⟨hx, hb, hml, hown, hts⟩ (r_X8_next l dC dI L kd tys fr_9 H.size g.2.2.2.1 q0_ mq0_ kq0_) (cwV 0 hts (gV_ t_1131 t_1103 t_1104 t_184 t_1105) rfl rfl rfl (by decide +kernel) ⟨(Nat.le_of_ble_eq_true rfl), (Nat.le_of_ble_eq_true rfl)⟩) (pre3V g hK mq0_ kq0_ (by decide) (q := (RX8, TX8, 10)) rfl) rfl rfl hl.1 rfl (lv_room (Nat.le_of_ble_eq_true rfl)) dX2_readRowSize_103 ⟨(Nat.le_of_ble_eq_true rfl), (Nat.le_of_ble_eq_true rfl)⟩) g hK (by decide) (by decide) (fx' := [(9, 7, q1_, .int x_166), (2, 0, a0_, .ref q0_), (2, 4, a0_, .ref q1_), (8, 8, q0_, .int y0_)]) rfl (fun fr_172 H locs hp hMr_172 g => ?_)
            obtain ⟨x_173, h_174, hF_175⟩ := hp
            have g := g.more hF_175
            refine lv_aload_n hx hb dX2_readRowSize_106 rfl (lv_at hl 2 rfl) ?_
            refine g_getk (C := RX2) (T := TX2) (N := 16) hx hb hts (mc_ inX2) hown hK g rfl 0 (by decide) rfl (hts _ (List.mem_cons_of_mem _ t_416)) (fun _ h9 => h9) 2 rfl dX2_readRowSize_107 ?_
            refine lv_bipush (v := 93) hx hb dX2_readRowSize_110 (by decide) ?_
            refine g_callv (va_runV (As := [.int 93]) (rest := []) ⟨hx, hb, hml, hown, hts⟩ (r_X8_take l dC dI L kd tys fr_172 H.size g.2.2.2.1 q0_ mq0_ kq0_ 93 y0_ by0_ (g.fcts [4] rfl)) (cwV 1 hts (gV_ t_1098 t_1099 t_1100 t_184 t_1101) rfl rfl rfl (by decide +kernel) ⟨(Nat.le_of_ble_eq_true rfl), (Nat.le_of_ble_eq_true rfl)⟩) (pre3V g hK mq0_ kq0_ (by decide) (q := (RX8, TX8, 10)) rfl) rfl rfl hl.1 rfl (lv_room (Nat.le_of_ble_eq_true rfl)) dX2_readRowSize_112 ⟨(Nat.le_of_ble_eq_true rfl), (Nat.le_of_ble_eq_true rfl)⟩) g hK (by decide) (by decide) (fx' := [(9, 7, q1_, .int x_166), (2, 0, a0_, .ref q0_), (2, 4, a0_, .ref q1_)]) rfl (fun fr_176 H locs hp hMr_176 g => ?_)
            rcases hp with ⟨x_177, h_178, hF_179⟩ | ⟨x_180, h_181, hF_182⟩
            · have g := g.more hF_179
              refine lv_iload_n hx hb dX2_readRowSize_115 rfl (lv_at hl 0 rfl) ?_
              subst hQ
              exact W.iret (v := 6) hx hb hr (fun t ht hW => ⟨⟨_, _, rfl, Or.inr (Or.inr (Or.inr (Or.inr (Or.inr (Or.inr (Or.inr (Or.inr (Or.inr (Or.inr (Or.inl ⟨rfl, x_177, h_178, x_166, b_171, (g.fcts [0, 1, 2] rfl)⟩)))))))))), q3_of g hK ht hW⟩, g.2.2.1.F ht⟩) g.2.2.1.2.2 dX2_readRowSize_116
            · have g := g.more hF_182
              refine lv_iload_n hx hb dX2_readRowSize_115 rfl (lv_at hl 0 rfl) ?_
              have kb_1201 : bd 1201 1201 (1201 : Int32) := ⟨by decide, by decide⟩
              subst hQ
              exact W.iret (v := 6) hx hb hr (fun t ht hW => ⟨⟨_, _, rfl, Or.inr (Or.inr (Or.inr (Or.inr (Or.inr (Or.inr (Or.inr (Or.inr (Or.inr (Or.inr (Or.inr (Or.inl ⟨rfl, 1201, kb_1201, x_180, h_181, (g.fcts [0, 1] rfl)⟩))))))))))), q3_of g hK ht hW⟩, g.2.2.1.F ht⟩) g.2.2.1.2.2 dX2_readRowSize_116
          · have fc_169 := nle_f c_169
            have b_183 : bd 25 30 y_167 := ltR fc_169 kb_24 b_168 (by decide)
            have b_184 : bd 19 24 x_166 := add_inv ty_167 b_183 bx_166 kb_6 (by decide)
            refine lv_aload_n hx hb dX2_readRowSize_90 rfl (lv_at hl 2 rfl) ?_
            refine g_getk (C := RX2) (T := TX2) (N := 16) hx hb hts (mc_ inX2) hown hK g rfl 0 (by decide) rfl (hts _ (List.mem_cons_of_mem _ t_416)) (fun _ h9 => h9) 2 rfl dX2_readRowSize_91 ?_
            refine lv_iconst (v := 4) hx hb dX2_readRowSize_94 (by decide) ?_
            refine lv_iload_n hx hb dX2_readRowSize_95 rfl (lv_at hl 1 rfl) ?_
            refine g_callv (va_runV (As := [.int 4, .int r_5]) (rest := []) ⟨hx, hb, hml, hown, hts⟩ (r_X8_fail l dC dI L kd tys fr_9 H.size g.2.2.2.1 q0_ mq0_ kq0_ 4 (bd_sub kb_4 (by decide)) r_5 y0_ by0_ (g.fcts [4] rfl)) (cwV 2 hts (gV_ t_1122 t_1107 t_1108 t_184 t_1109) rfl rfl rfl (by decide +kernel) ⟨(Nat.le_of_ble_eq_true rfl), (Nat.le_of_ble_eq_true rfl)⟩) (pre3V g hK mq0_ kq0_ (by decide) (q := (RX8, TX8, 10)) rfl) rfl rfl hl.1 rfl (lv_room (Nat.le_of_ble_eq_true rfl)) dX2_readRowSize_96 ⟨(Nat.le_of_ble_eq_true rfl), (Nat.le_of_ble_eq_true rfl)⟩) g hK (by decide) (by decide) (fx' := [(9, 7, q1_, .int x_166), (2, 0, a0_, .ref q0_), (2, 4, a0_, .ref q1_)]) rfl (fun fr_185 H locs hp hMr_185 g => ?_)
            obtain ⟨x_186, h_187, hF_188⟩ := hp
            have g := g.more hF_188
            refine lv_aload_n hx hb dX2_readRowSize_99 rfl (lv_at hl 2 rfl) ?_
            refine g_getk (C := RX2) (T := TX2) (N := 16) hx hb hts (mc_ inX2) hown hK g rfl 0 (by decide) rfl (hts _ (List.mem_cons_of_mem _ t_416)) (fun _ h9 => h9) 3 rfl dX2_readRowSize_100 ?_
            have kb_1201 : bd 1201 1201 (1201 : Int32) := ⟨by decide, by decide⟩
            refine g_callv (va_runV (As := []) (rest := []) ⟨hx, hb, hml, hown, hts⟩ (r_X8_next_2 l dC dI L kd tys fr_185 H.size g.2.2.2.1 q0_ mq0_ kq0_ 1201 kb_1201 (g.fcts [0] rfl)) (cwV 0 hts (gV_ t_1131 t_1103 t_1104 t_184 t_1105) rfl rfl rfl (by decide +kernel) ⟨(Nat.le_of_ble_eq_true rfl), (Nat.le_of_ble_eq_true rfl)⟩) (pre3V g hK mq0_ kq0_ (by decide) (q := (RX8, TX8, 10)) rfl) rfl rfl hl.1 rfl (lv_room (Nat.le_of_ble_eq_true rfl)) dX2_readRowSize_103 ⟨(Nat.le_of_ble_eq_true rfl), (Nat.le_of_ble_eq_true rfl)⟩) g hK (by decide) (by decide) (fx' := [(8, 6, q0_, .int 1201), (8, 8, q0_, .int x_186), (9, 7, q1_, .int x_166), (2, 0, a0_, .ref q0_), (2, 4, a0_, .ref q1_)]) rfl (fun fr_189 H locs hp hMr_189 g => ?_)
            refine lv_aload_n hx hb dX2_readRowSize_106 rfl (lv_at hl 2 rfl) ?_
            refine g_getk (C := RX2) (T := TX2) (N := 16) hx hb hts (mc_ inX2) hown hK g rfl 0 (by decide) rfl (hts _ (List.mem_cons_of_mem _ t_416)) (fun _ h9 => h9) 3 rfl dX2_readRowSize_107 ?_
            refine lv_bipush (v := 93) hx hb dX2_readRowSize_110 (by decide) ?_
            refine g_callv (va_runV (As := [.int 93]) (rest := []) ⟨hx, hb, hml, hown, hts⟩ (r_X8_take_2 l dC dI L kd tys fr_189 H.size g.2.2.2.1 q0_ mq0_ kq0_ 93 1201 kb_1201 x_186 h_187 (g.fcts [0, 1] rfl)) (cwV 1 hts (gV_ t_1098 t_1099 t_1100 t_184 t_1101) rfl rfl rfl (by decide +kernel) ⟨(Nat.le_of_ble_eq_true rfl), (Nat.le_of_ble_eq_true rfl)⟩) (pre3V g hK mq0_ kq0_ (by decide) (q := (RX8, TX8, 10)) rfl) rfl rfl hl.1 rfl (lv_room (Nat.le_of_ble_eq_true rfl)) dX2_readRowSize_112 ⟨(Nat.le_of_ble_eq_true rfl), (Nat.le_of_ble_eq_true rfl)⟩) g hK (by decide) (by decide) (fx' := [(8, 8, q0_, .int x_186), (9, 7, q1_, .int x_166), (2, 0, a0_, .ref q0_), (2, 4, a0_, .ref q1_)]) rfl (fun fr_190 H locs hp hMr_190 g => ?_)
            obtain ⟨x_191, h_192, hF_193⟩ := hp
            have g := g.more hF_193
            refine lv_iload_n hx hb dX2_readRowSize_115 rfl (lv_at hl 0 rfl) ?_
            subst hQ
            exact W.iret (v := 6) hx hb hr (fun t ht hW => ⟨⟨_, _, rfl, Or.inr (Or.inr (Or.inr (Or.inr (Or.inr (Or.inr (Or.inr (Or.inr (Or.inr (Or.inr (Or.inr (Or.inl ⟨rfl, x_191, h_192, x_186, h_187, (g.fcts [0, 1] rfl)⟩))))))))))), q3_of g hK ht hW⟩, g.2.2.1.F ht⟩) g.2.2.1.2.2 dX2_readRowSize_116
        · refine lv_aload_n hx hb dX2_readRowSize_76 rfl (lv_at hl 2 rfl) ?_
          refine g_getk (C := RX2) (T := TX2) (N := 16) hx hb hts (mc_ inX2) hown hK g rfl 4 (by decide) rfl (hts _ (List.mem_cons_of_mem _ t_420)) (fun _ h9 => h9) 2 rfl dX2_readRowSize_77 ?_
          refine g_geti (C := RX9) (T := TX9) (N := 13) hx hb hts (mc_ inX9) hown hK g mq1_ kq1_ (by decide) rfl 7 (by decide) rfl (hts _ (List.mem_cons_of_mem _ t_496)) (fun _ h9 => h9) rfl dX2_readRowSize_80 (fun x_194 bx_194 g => ?_)
          refine lv_iload_n hx hb dX2_readRowSize_83 rfl (lv_at hl 0 rfl) ?_
          have kb_7 : bd 7 7 (7 : Int32) := ⟨by decide, by decide⟩
          refine lv_iadd hx hb dX2_readRowSize_84 ?_
          refine lv_topi (fun y_195 ey_195 => ?_)
          have ty_195 := add_bd ey_195 bx_194 kb_7 (by decide)
          have b_196 : bd 7 31 y_195 := add_rg ty_195 bx_194 kb_7 (by decide)
          refine lv_bipush (v := 24) hx hb dX2_readRowSize_85 (by decide) ?_
          have kb_24 : bd 24 24 (24 : Int32) := ⟨by decide, by decide⟩
          refine lv_icmp_le (tgt := 99) hx hb dX2_readRowSize_87 (by decide) (fun c_197 => ?_) (fun c_197 => ?_)
          · have fc_197 := le_f c_197
            have b_198 : bd 7 24 y_195 := leL fc_197 b_196 kb_24 (by decide)
            have b_199 : bd 0 17 x_194 := add_inv ty_195 b_198 bx_194 kb_7 (by decide)
            refine lv_aload_n hx hb dX2_readRowSize_99 rfl (lv_at hl 2 rfl) ?_
            refine g_getk (C := RX2) (T := TX2) (N := 16) hx hb hts (mc_ inX2) hown hK g rfl 0 (by decide) rfl (hts _ (List.mem_cons_of_mem _ t_416)) (fun _ h9 => h9) 2 rfl dX2_readRowSize_100 ?_
            refine g_callv (va_runV (As := []) (rest := []) ⟨hx, hb, hml, hown, hts⟩ (r_X8_next l dC dI L kd tys fr_9 H.size g.2.2.2.1 q0_ mq0_ kq0_) (cwV 0 hts (gV_ t_1131 t_1103 t_1104 t_184 t_1105) rfl rfl rfl (by decide +kernel) ⟨(Nat.le_of_ble_eq_true rfl), (Nat.le_of_ble_eq_true rfl)⟩) (pre3V g hK mq0_ kq0_ (by decide) (q := (RX8, TX8, 10)) rfl) rfl rfl hl.1 rfl (lv_room (Nat.le_of_ble_eq_true rfl)) dX2_readRowSize_103 ⟨(Nat.le_of_ble_eq_true rfl), (Nat.le_of_ble_eq_true rfl)⟩) g hK (by decide) (by decide) (fx' := [(9, 7, q1_, .int x_194), (2, 0, a0_, .ref q0_), (2, 4, a0_, .ref q1_), (8, 8, q0_, .int y0_)]) rfl (fun fr_200 H locs hp hMr_200 g => ?_)
            obtain ⟨x_201, h_202, hF_203⟩ := hp
            have g := g.more hF_203
            refine lv_aload_n hx hb dX2_readRowSize_106 rfl (lv_at hl 2 rfl) ?_
            refine g_getk (C := RX2) (T := TX2) (N := 16) hx hb hts (mc_ inX2) hown hK g rfl 0 (by decide) rfl (hts _ (List.mem_cons_of_mem _ t_416)) (fun _ h9 => h9) 2 rfl dX2_readRowSize_107 ?_
            refine lv_bipush (v := 93) hx hb dX2_readRowSize_110 (by decide) ?_
            refine g_callv (va_runV (As := [.int 93]) (rest := []) ⟨hx, hb, hml, hown, hts⟩ (r_X8_take l dC dI L kd tys fr_200 H.size g.2.2.2.1 q0_ mq0_ kq0_ 93 y0_ by0_ (g.fcts [4] rfl)) (cwV 1 hts (gV_ t_1098 t_1099 t_1100 t_184 t_1101) rfl rfl rfl (by decide +kernel) ⟨(Nat.le_of_ble_eq_true rfl), (Nat.le_of_ble_eq_true rfl)⟩) (pre3V g hK mq0_ kq0_ (by decide) (q := (RX8, TX8, 10)) rfl) rfl rfl hl.1 rfl (lv_room (Nat.le_of_ble_eq_true rfl)) dX2_readRowSize_112 ⟨(Nat.le_of_ble_eq_true rfl), (Nat.le_of_ble_eq_true rfl)⟩) g hK (by decide) (by decide) (fx' := [(9, 7, q1_, .int x_194), (2, 0, a0_, .ref q0_), (2, 4, a0_, .ref q1_)]) rfl (fun fr_204 H locs hp hMr_204 g => ?_)
            rcases hp with ⟨x_205, h_206, hF_207⟩ | ⟨x_208, h_209, hF_210⟩
            · have g := g.more hF_207
              refine lv_iload_n hx hb dX2_readRowSize_115 rfl (lv_at hl 0 rfl) ?_
              subst hQ
              exact W.iret (v := 7) hx hb hr (fun t ht hW => ⟨⟨_, _, rfl, Or.inr (Or.inr (Or.inr (Or.inr (Or.inr (Or.inr (Or.inr (Or.inr (Or.inr (Or.inr (Or.inr (Or.inr (Or.inl ⟨rfl, x_205, h_206, x_194, b_199, (g.fcts [0, 1, 2] rfl)⟩)))))))))))), q3_of g hK ht hW⟩, g.2.2.1.F ht⟩) g.2.2.1.2.2 dX2_readRowSize_116
            · have g := g.more hF_210
              refine lv_iload_n hx hb dX2_readRowSize_115 rfl (lv_at hl 0 rfl) ?_
              have kb_1201 : bd 1201 1201 (1201 : Int32) := ⟨by decide, by decide⟩
              subst hQ
              exact W.iret (v := 7) hx hb hr (fun t ht hW => ⟨⟨_, _, rfl, Or.inr (Or.inr (Or.inr (Or.inr (Or.inr (Or.inr (Or.inr (Or.inr (Or.inr (Or.inr (Or.inr (Or.inr (Or.inr (Or.inl ⟨rfl, 1201, kb_1201, x_208, h_209, (g.fcts [0, 1] rfl)⟩))))))))))))), q3_of g hK ht hW⟩, g.2.2.1.F ht⟩) g.2.2.1.2.2 dX2_readRowSize_116
          · have fc_197 := nle_f c_197
            have b_211 : bd 25 31 y_195 := ltR fc_197 kb_24 b_196 (by decide)
            have b_212 : bd 18 24 x_194 := add_inv ty_195 b_211 bx_194 kb_7 (by decide)
            refine lv_aload_n hx hb dX2_readRowSize_90 rfl (lv_at hl 2 rfl) ?_
            refine g_getk (C := RX2) (T := TX2) (N := 16) hx hb hts (mc_ inX2) hown hK g rfl 0 (by decide) rfl (hts _ (List.mem_cons_of_mem _ t_416)) (fun _ h9 => h9) 2 rfl dX2_readRowSize_91 ?_
            refine lv_iconst (v := 4) hx hb dX2_readRowSize_94 (by decide) ?_
            refine lv_iload_n hx hb dX2_readRowSize_95 rfl (lv_at hl 1 rfl) ?_
            refine g_callv (va_runV (As := [.int 4, .int r_5]) (rest := []) ⟨hx, hb, hml, hown, hts⟩ (r_X8_fail l dC dI L kd tys fr_9 H.size g.2.2.2.1 q0_ mq0_ kq0_ 4 (bd_sub kb_4 (by decide)) r_5 y0_ by0_ (g.fcts [4] rfl)) (cwV 2 hts (gV_ t_1122 t_1107 t_1108 t_184 t_1109) rfl rfl rfl (by decide +kernel) ⟨(Nat.le_of_ble_eq_true rfl), (Nat.le_of_ble_eq_true rfl)⟩) (pre3V g hK mq0_ kq0_ (by decide) (q := (RX8, TX8, 10)) rfl) rfl rfl hl.1 rfl (lv_room (Nat.le_of_ble_eq_true rfl)) dX2_readRowSize_96 ⟨(Nat.le_of_ble_eq_true rfl), (Nat.le_of_ble_eq_true rfl)⟩) g hK (by decide) (by decide) (fx' := [(9, 7, q1_, .int x_194), (2, 0, a0_, .ref q0_), (2, 4, a0_, .ref q1_)]) rfl (fun fr_213 H locs hp hMr_213 g => ?_)
            obtain ⟨x_214, h_215, hF_216⟩ := hp
            have g := g.more hF_216
            refine lv_aload_n hx hb dX2_readRowSize_99 rfl (lv_at hl 2 rfl) ?_
            refine g_getk (C := RX2) (T := TX2) (N := 16) hx hb hts (mc_ inX2) hown hK g rfl 0 (by decide) rfl (hts _ (List.mem_cons_of_mem _ t_416)) (fun _ h9 => h9) 3 rfl dX2_readRowSize_100 ?_
            have kb_1201 : bd 1201 1201 (1201 : Int32) := ⟨by decide, by decide⟩
            refine g_callv (va_runV (As := []) (rest := []) ⟨hx, hb, hml, hown, hts⟩ (r_X8_next_2 l dC dI L kd tys fr_213 H.size g.2.2.2.1 q0_ mq0_ kq0_ 1201 kb_1201 (g.fcts [0] rfl)) (cwV 0 hts (gV_ t_1131 t_1103 t_1104 t_184 t_1105) rfl rfl rfl (by decide +kernel) ⟨(Nat.le_of_ble_eq_true rfl), (Nat.le_of_ble_eq_true rfl)⟩) (pre3V g hK mq0_ kq0_ (by decide) (q := (RX8, TX8, 10)) rfl) rfl rfl hl.1 rfl (lv_room (Nat.le_of_ble_eq_true rfl)) dX2_readRowSize_103 ⟨(Nat.le_of_ble_eq_true rfl), (Nat.le_of_ble_eq_true rfl)⟩) g hK (by decide) (by decide) (fx' := [(8, 6, q0_, .int 1201), (8, 8, q0_, .int x_214), (9, 7, q1_, .int x_194), (2, 0, a0_, .ref q0_), (2, 4, a0_, .ref q1_)]) rfl (fun fr_217 H locs hp hMr_217 g => ?_)
            refine lv_aload_n hx hb dX2_readRowSize_106 rfl (lv_at hl 2 rfl) ?_
            refine g_getk (C := RX2) (T := TX2) (N := 16) hx hb hts (mc_ inX2) hown hK g rfl 0 (by decide) rfl (hts _ (List.mem_cons_of_mem _ t_416)) (fun _ h9 => h9) 3 rfl dX2_readRowSize_107 ?_
            refine lv_bipush (v := 93) hx hb dX2_readRowSize_110 (by decide) ?_
            refine g_callv (va_runV (As := [.int 93]) (rest := []) ⟨hx, hb, hml, hown, hts⟩ (r_X8_take_2 l dC dI L kd tys fr_217 H.size g.2.2.2.1 q0_ mq0_ kq0_ 93 1201 kb_1201 x_214 h_215 (g.fcts [0, 1] rfl)) (cwV 1 hts (gV_ t_1098 t_1099 t_1100 t_184 t_1101) rfl rfl rfl (by decide +kernel) ⟨(Nat.le_of_ble_eq_true rfl), (Nat.le_of_ble_eq_true rfl)⟩) (pre3V g hK mq0_ kq0_ (by decide) (q := (RX8, TX8, 10)) rfl) rfl rfl hl.1 rfl (lv_room (Nat.le_of_ble_eq_true rfl)) dX2_readRowSize_112 ⟨(Nat.le_of_ble_eq_true rfl), (Nat.le_of_ble_eq_true rfl)⟩) g hK (by decide) (by decide) (fx' := [(8, 8, q0_, .int x_214), (9, 7, q1_, .int x_194), (2, 0, a0_, .ref q0_), (2, 4, a0_, .ref q1_)]) rfl (fun fr_218 H locs hp hMr_218 g => ?_)
            obtain ⟨x_219, h_220, hF_221⟩ := hp
            have g := g.more hF_221
            refine lv_iload_n hx hb dX2_readRowSize_115 rfl (lv_at hl 0 rfl) ?_
            subst hQ
            exact W.iret (v := 7) hx hb hr (fun t ht hW => ⟨⟨_, _, rfl, Or.inr (Or.inr (Or.inr (Or.inr (Or.inr (Or.inr (Or.inr (Or.inr (Or.inr (Or.inr (Or.inr (Or.inr (Or.inr (Or.inl ⟨rfl, x_219, h_220, x_214, h_215, (g.fcts [0, 1] rfl)⟩))))))))))))), q3_of g hK ht hW⟩, g.2.2.1.F ht⟩) g.2.2.1.2.2 dX2_readRowSize_116
        · refine lv_aload_n hx hb dX2_readRowSize_76 rfl (lv_at hl 2 rfl) ?_
          refine g_getk (C := RX2) (T := TX2) (N := 16) hx hb hts (mc_ inX2) hown hK g rfl 4 (by decide) rfl (hts _ (List.mem_cons_of_mem _ t_420)) (fun _ h9 => h9) 2 rfl dX2_readRowSize_77 ?_
          refine g_geti (C := RX9) (T := TX9) (N := 13) hx hb hts (mc_ inX9) hown hK g mq1_ kq1_ (by decide) rfl 7 (by decide) rfl (hts _ (List.mem_cons_of_mem _ t_496)) (fun _ h9 => h9) rfl dX2_readRowSize_80 (fun x_222 bx_222 g => ?_)
          refine lv_iload_n hx hb dX2_readRowSize_83 rfl (lv_at hl 0 rfl) ?_
          refine lv_iadd hx hb dX2_readRowSize_84 ?_
          refine lv_topi (fun y_223 ey_223 => ?_)
          have ty_223 := add_bd ey_223 bx_222 kb_8 (by decide)
          have b_224 : bd 8 32 y_223 := add_rg ty_223 bx_222 kb_8 (by decide)
          refine lv_bipush (v := 24) hx hb dX2_readRowSize_85 (by decide) ?_
          have kb_24 : bd 24 24 (24 : Int32) := ⟨by decide, by decide⟩
          refine lv_icmp_le (tgt := 99) hx hb dX2_readRowSize_87 (by decide) (fun c_225 => ?_) (fun c_225 => ?_)
          · have fc_225 := le_f c_225
            have b_226 : bd 8 24 y_223 := leL fc_225 b_224 kb_24 (by decide)
            have b_227 : bd 0 16 x_222 := add_inv ty_223 b_226 bx_222 kb_8 (by decide)
            refine lv_aload_n hx hb dX2_readRowSize_99 rfl (lv_at hl 2 rfl) ?_
            refine g_getk (C := RX2) (T := TX2) (N := 16) hx hb hts (mc_ inX2) hown hK g rfl 0 (by decide) rfl (hts _ (List.mem_cons_of_mem _ t_416)) (fun _ h9 => h9) 2 rfl dX2_readRowSize_100 ?_
            refine g_callv (va_runV (As := []) (rest := []) ⟨hx, hb, hml, hown, hts⟩ (r_X8_next l dC dI L kd tys fr_9 H.size g.2.2.2.1 q0_ mq0_ kq0_) (cwV 0 hts (gV_ t_1131 t_1103 t_1104 t_184 t_1105) rfl rfl rfl (by decide +kernel) ⟨(Nat.le_of_ble_eq_true rfl), (Nat.le_of_ble_eq_true rfl)⟩) (pre3V g hK mq0_ kq0_ (by decide) (q := (RX8, TX8, 10)) rfl) rfl rfl hl.1 rfl (lv_room (Nat.le_of_ble_eq_true rfl)) dX2_readRowSize_103 ⟨(Nat.le_of_ble_eq_true rfl), (Nat.le_of_ble_eq_true rfl)⟩) g hK (by decide) (by decide) (fx' := [(9, 7, q1_, .int x_222), (2, 0, a0_, .ref q0_), (2, 4, a0_, .ref q1_), (8, 8, q0_, .int y0_)]) rfl (fun fr_228 H locs hp hMr_228 g => ?_)
            obtain ⟨x_229, h_230, hF_231⟩ := hp
            have g := g.more hF_231
            refine lv_aload_n hx hb dX2_readRowSize_106 rfl (lv_at hl 2 rfl) ?_
            refine g_getk (C := RX2) (T := TX2) (N := 16) hx hb hts (mc_ inX2) hown hK g rfl 0 (by decide) rfl (hts _ (List.mem_cons_of_mem _ t_416)) (fun _ h9 => h9) 2 rfl dX2_readRowSize_107 ?_
            refine lv_bipush (v := 93) hx hb dX2_readRowSize_110 (by decide) ?_
            refine g_callv (va_runV (As := [.int 93]) (rest := []) ⟨hx, hb, hml, hown, hts⟩ (r_X8_take l dC dI L kd tys fr_228 H.size g.2.2.2.1 q0_ mq0_ kq0_ 93 y0_ by0_ (g.fcts [4] rfl)) (cwV 1 hts (gV_ t_1098 t_1099 t_1100 t_184 t_1101) rfl rfl rfl (by decide +kernel) ⟨(Nat.le_of_ble_eq_true rfl), (Nat.le_of_ble_eq_true rfl)⟩) (pre3V g hK mq0_ kq0_ (by decide) (q := (RX8, TX8, 10)) rfl) rfl rfl hl.1 rfl (lv_room (Nat.le_of_ble_eq_true rfl)) dX2_readRowSize_112 ⟨(Nat.le_of_ble_eq_true rfl), (Nat.le_of_ble_eq_true rfl)⟩) g hK (by decide) (by decide) (fx' := [(9, 7, q1_, .int x_222), (2, 0, a0_, .ref q0_), (2, 4, a0_, .ref q1_)]) rfl (fun fr_232 H locs hp hMr_232 g => ?_)
            rcases hp with ⟨x_233, h_234, hF_235⟩ | ⟨x_236, h_237, hF_238⟩
            · have g := g.more hF_235
              refine lv_iload_n hx hb dX2_readRowSize_115 rfl (lv_at hl 0 rfl) ?_
              subst hQ
              exact W.iret (v := 8) hx hb hr (fun t ht hW => ⟨⟨_, _, rfl, Or.inr (Or.inr (Or.inr (Or.inr (Or.inr (Or.inr (Or.inr (Or.inr (Or.inr (Or.inr (Or.inr (Or.inr (Or.inr (Or.inr (Or.inl ⟨rfl, x_233, h_234, x_222, b_227, (g.fcts [0, 1, 2] rfl)⟩)))))))))))))), q3_of g hK ht hW⟩, g.2.2.1.F ht⟩) g.2.2.1.2.2 dX2_readRowSize_116
            · have g := g.more hF_238
              refine lv_iload_n hx hb dX2_readRowSize_115 rfl (lv_at hl 0 rfl) ?_
              have kb_1201 : bd 1201 1201 (1201 : Int32) := ⟨by decide, by decide⟩
              subst hQ
              exact W.iret (v := 8) hx hb hr (fun t ht hW => ⟨⟨_, _, rfl, Or.inr (Or.inr (Or.inr (Or.inr (Or.inr (Or.inr (Or.inr (Or.inr (Or.inr (Or.inr (Or.inr (Or.inr (Or.inr (Or.inr (Or.inr (Or.inl ⟨rfl, 1201, kb_1201, x_236, h_237, (g.fcts [0, 1] rfl)⟩))))))))))))))), q3_of g hK ht hW⟩, g.2.2.1.F ht⟩) g.2.2.1.2.2 dX2_readRowSize_116
          · have fc_225 := nle_f c_225
            have b_239 : bd 25 32 y_223 := ltR fc_225 kb_24 b_224 (by decide)
            have b_240 : bd 17 24 x_222 := add_inv ty_223 b_239 bx_222 kb_8 (by decide)
            refine lv_aload_n hx hb dX2_readRowSize_90 rfl (lv_at hl 2 rfl) ?_
            refine g_getk (C := RX2) (T := TX2) (N := 16) hx hb hts (mc_ inX2) hown hK g rfl 0 (by decide) rfl (hts _ (List.mem_cons_of_mem _ t_416)) (fun _ h9 => h9) 2 rfl dX2_readRowSize_91 ?_
            refine lv_iconst (v := 4) hx hb dX2_readRowSize_94 (by decide) ?_
            refine lv_iload_n hx hb dX2_readRowSize_95 rfl (lv_at hl 1 rfl) ?_
            refine g_callv (va_runV (As := [.int 4, .int r_5]) (rest := []) ⟨hx, hb, hml, hown, hts⟩ (r_X8_fail l dC dI L kd tys fr_9 H.size g.2.2.2.1 q0_ mq0_ kq0_ 4 (bd_sub kb_4 (by decide)) r_5 y0_ by0_ (g.fcts [4] rfl)) (cwV 2 hts (gV_ t_1122 t_1107 t_1108 t_184 t_1109) rfl rfl rfl (by decide +kernel) ⟨(Nat.le_of_ble_eq_true rfl), (Nat.le_of_ble_eq_true rfl)⟩) (pre3V g hK mq0_ kq0_ (by decide) (q := (RX8, TX8, 10)) rfl) rfl rfl hl.1 rfl (lv_room (Nat.le_of_ble_eq_true rfl)) dX2_readRowSize_96 ⟨(Nat.le_of_ble_eq_true rfl), (Nat.le_of_ble_eq_true rfl)⟩) g hK (by decide) (by decide) (fx' := [(9, 7, q1_, .int x_222), (2, 0, a0_, .ref q0_), (2, 4, a0_, .ref q1_)]) rfl (fun fr_241 H locs hp hMr_241 g => ?_)
            obtain ⟨x_242, h_243, hF_244⟩ := hp
            have g := g.more hF_244
            refine lv_aload_n hx hb dX2_readRowSize_99 rfl (lv_at hl 2 rfl) ?_
            refine g_getk (C := RX2) (T := TX2) (N := 16) hx hb hts (mc_ inX2) hown hK g rfl 0 (by decide) rfl (hts _ (List.mem_cons_of_mem _ t_416)) (fun _ h9 => h9) 3 rfl dX2_readRowSize_100 ?_
            have kb_1201 : bd 1201 1201 (1201 : Int32) := ⟨by decide, by decide⟩
            refine g_callv (va_runV (As := []) (rest := []) ⟨hx, hb, hml, hown, hts⟩ (r_X8_next_2 l dC dI L kd tys fr_241 H.size g.2.2.2.1 q0_ mq0_ kq0_ 1201 kb_1201 (g.fcts [0] rfl)) (cwV 0 hts (gV_ t_1131 t_1103 t_1104 t_184 t_1105) rfl rfl rfl (by decide +kernel) ⟨(Nat.le_of_ble_eq_true rfl), (Nat.le_of_ble_eq_true rfl)⟩) (pre3V g hK mq0_ kq0_ (by decide) (q := (RX8, TX8, 10)) rfl) rfl rfl hl.1 rfl (lv_room (Nat.le_of_ble_eq_true rfl)) dX2_readRowSize_103 ⟨(Nat.le_of_ble_eq_true rfl), (Nat.le_of_ble_eq_true rfl)⟩) g hK (by decide) (by decide) (fx' := [(8, 6, q0_, .int 1201), (8, 8, q0_, .int x_242), (9, 7, q1_, .int x_222), (2, 0, a0_, .ref q0_), (2, 4, a0_, .ref q1_)]) rfl (fun fr_245 H locs hp hMr_245 g => ?_)
            refine lv_aload_n hx hb dX2_readRowSize_106 rfl (lv_at hl 2 rfl) ?_
            refine g_getk (C := RX2) (T := TX2) (N := 16) hx hb hts (mc_ inX2) hown hK g rfl 0 (by decide) rfl (hts _ (List.mem_cons_of_mem _ t_416)) (fun _ h9 => h9) 3 rfl dX2_readRowSize_107 ?_
            refine lv_bipush (v := 93) hx hb dX2_readRowSize_110 (by decide) ?_
            refine g_callv (va_runV (As := [.int 93]) (rest := []) ⟨hx, hb, hml, hown, hts⟩ (r_X8_take_2 l dC dI L kd tys fr_245 H.size g.2.2.2.1 q0_ mq0_ kq0_ 93 1201 kb_1201 x_242 h_243 (g.fcts [0, 1] rfl)) (cwV 1 hts (gV_ t_1098 t_1099 t_1100 t_184 t_1101) rfl rfl rfl (by decide +kernel) ⟨(Nat.le_of_ble_eq_true rfl), (Nat.le_of_ble_eq_true rfl)⟩) (pre3V g hK mq0_ kq0_ (by decide) (q := (RX8, TX8, 10)) rfl) rfl rfl hl.1 rfl (lv_room (Nat.le_of_ble_eq_true rfl)) dX2_readRowSize_112 ⟨(Nat.le_of_ble_eq_true rfl), (Nat.le_of_ble_eq_true rfl)⟩) g hK (by decide) (by decide) (fx' := [(8, 8, q0_, .int x_242), (9, 7, q1_, .int x_222), (2, 0, a0_, .ref q0_), (2, 4, a0_, .ref q1_)]) rfl (fun fr_246 H locs hp hMr_246 g => ?_)
            obtain ⟨x_247, h_248, hF_249⟩ := hp
            have g := g.more hF_249
            refine lv_iload_n hx hb dX2_readRowSize_115 rfl (lv_at hl 0 rfl) ?_
            subst hQ
            exact W.iret (v := 8) hx hb hr (fun t ht hW => ⟨⟨_, _, rfl, Or.inr (Or.inr (Or.inr (Or.inr (Or.inr (Or.inr (Or.inr (Or.inr (Or.inr (Or.inr (Or.inr (Or.inr (Or.inr (Or.inr (Or.inr (Or.inl ⟨rfl, x_247, h_248, x_242, h_243, (g.fcts [0, 1] rfl)⟩))))))))))))))), q3_of g hK ht hW⟩, g.2.2.1.F ht⟩) g.2.2.1.2.2 dX2_readRowSize_116
      · have fc_24 := nle_f c_24
        have b_250 : bd 9 2147483647 y_8 := ltR fc_24 kb_8 b_23 (by decide)
        refine lv_aload_n hx hb dX2_readRowSize_64 rfl (lv_at hl 2 rfl) ?_
        refine g_getk (C := RX2) (T := TX2) (N := 16) hx hb hts (mc_ inX2) hown hK g rfl 0 (by decide) rfl (hts _ (List.mem_cons_of_mem _ t_416)) (fun _ h9 => h9) 1 rfl dX2_readRowSize_65 ?_
        refine lv_iconst (v := 3) hx hb dX2_readRowSize_68 (by decide) ?_
        refine lv_iload_n hx hb dX2_readRowSize_69 rfl (lv_at hl 1 rfl) ?_
        have kb_3 : bd 3 3 (3 : Int32) := ⟨by decide, by decide⟩
        refine g_callv (va_runV (As := [.int 3, .int r_5]) (rest := []) ⟨hx, hb, hml, hown, hts⟩ (r_X8_fail l dC dI L kd tys fr_9 H.size g.2.2.2.1 q0_ mq0_ kq0_ 3 (bd_sub kb_3 (by decide)) r_5 y0_ by0_ (g.fcts [3] rfl)) (cwV 2 hts (gV_ t_1122 t_1107 t_1108 t_184 t_1109) rfl rfl rfl (by decide +kernel) ⟨(Nat.le_of_ble_eq_true rfl), (Nat.le_of_ble_eq_true rfl)⟩) (pre3V g hK mq0_ kq0_ (by decide) (q := (RX8, TX8, 10)) rfl) rfl rfl hl.1 rfl (lv_room (Nat.le_of_ble_eq_true rfl)) dX2_readRowSize_70 ⟨(Nat.le_of_ble_eq_true rfl), (Nat.le_of_ble_eq_true rfl)⟩) g hK (by decide) (by decide) (fx' := [(2, 0, a0_, .ref q0_), (2, 4, a0_, .ref q1_)]) rfl (fun fr_251 H locs hp hMr_251 g => ?_)
        obtain ⟨x_252, h_253, hF_254⟩ := hp
        have g := g.more hF_254
        refine lv_goto (tgt := 99) hx hb dX2_readRowSize_73 (by decide) ?_
        refine lv_aload_n hx hb dX2_readRowSize_99 rfl (lv_at hl 2 rfl) ?_
        refine g_getk (C := RX2) (T := TX2) (N := 16) hx hb hts (mc_ inX2) hown hK g rfl 0 (by decide) rfl (hts _ (List.mem_cons_of_mem _ t_416)) (fun _ h9 => h9) 2 rfl dX2_readRowSize_100 ?_
        have kb_1201 : bd 1201 1201 (1201 : Int32) := ⟨by decide, by decide⟩
        refine g_callv (va_runV (As := []) (rest := []) ⟨hx, hb, hml, hown, hts⟩ (r_X8_next_2 l dC dI L kd tys fr_251 H.size g.2.2.2.1 q0_ mq0_ kq0_ 1201 kb_1201 (g.fcts [0] rfl)) (cwV 0 hts (gV_ t_1131 t_1103 t_1104 t_184 t_1105) rfl rfl rfl (by decide +kernel) ⟨(Nat.le_of_ble_eq_true rfl), (Nat.le_of_ble_eq_true rfl)⟩) (pre3V g hK mq0_ kq0_ (by decide) (q := (RX8, TX8, 10)) rfl) rfl rfl hl.1 rfl (lv_room (Nat.le_of_ble_eq_true rfl)) dX2_readRowSize_103 ⟨(Nat.le_of_ble_eq_true rfl), (Nat.le_of_ble_eq_true rfl)⟩) g hK (by decide) (by decide) (fx' := [(8, 6, q0_, .int 1201), (8, 8, q0_, .int x_252), (2, 0, a0_, .ref q0_), (2, 4, a0_, .ref q1_)]) rfl (fun fr_255 H locs hp hMr_255 g => ?_)
        refine lv_aload_n hx hb dX2_readRowSize_106 rfl (lv_at hl 2 rfl) ?_
        refine g_getk (C := RX2) (T := TX2) (N := 16) hx hb hts (mc_ inX2) hown hK g rfl 0 (by decide) rfl (hts _ (List.mem_cons_of_mem _ t_416)) (fun _ h9 => h9) 2 rfl dX2_readRowSize_107 ?_
        refine lv_bipush (v := 93) hx hb dX2_readRowSize_110 (by decide) ?_
        refine g_callv (va_runV (As := [.int 93]) (rest := []) ⟨hx, hb, hml, hown, hts⟩ (r_X8_take_2 l dC dI L kd tys fr_255 H.size g.2.2.2.1 q0_ mq0_ kq0_ 93 1201 kb_1201 x_252 h_253 (g.fcts [0, 1] rfl)) (cwV 1 hts (gV_ t_1098 t_1099 t_1100 t_184 t_1101) rfl rfl rfl (by decide +kernel) ⟨(Nat.le_of_ble_eq_true rfl), (Nat.le_of_ble_eq_true rfl)⟩) (pre3V g hK mq0_ kq0_ (by decide) (q := (RX8, TX8, 10)) rfl) rfl rfl hl.1 rfl (lv_room (Nat.le_of_ble_eq_true rfl)) dX2_readRowSize_112 ⟨(Nat.le_of_ble_eq_true rfl), (Nat.le_of_ble_eq_true rfl)⟩) g hK (by decide) (by decide) (fx' := [(8, 8, q0_, .int x_252), (2, 0, a0_, .ref q0_), (2, 4, a0_, .ref q1_)]) rfl (fun fr_256 H locs hp hMr_256 g => ?_)
        obtain ⟨x_257, h_258, hF_259⟩ := hp
        have g := g.more hF_259
        refine lv_iload_n hx hb dX2_readRowSize_115 rfl (lv_at hl 0 rfl) ?_
        subst hQ
        exact W.iret (v := y_8) hx hb hr (fun t ht hW => ⟨⟨_, _, rfl, Or.inr (Or.inr (Or.inr (Or.inr (Or.inr (Or.inr (Or.inr (Or.inr (Or.inr (Or.inr (Or.inr (Or.inr (Or.inr (Or.inr (Or.inr (Or.inr (⟨x_257, h_258, x_252, h_253, (g.fcts [0, 1] rfl)⟩)))))))))))))))), q3_of g hK ht hW⟩, g.2.2.1.F ht⟩) g.2.2.1.2.2 dX2_readRowSize_116
  · have fc_10 := neq_f c_10
    refine lv_aload_n hx hb dX2_readRowSize_41 rfl (lv_at hl 2 rfl) ?_
    refine g_getk (C := RX2) (T := TX2) (N := 16) hx hb hts (mc_ inX2) hown hK g rfl 0 (by decide) rfl (hts _ (List.mem_cons_of_mem _ t_416)) (fun _ h9 => h9) 1 rfl dX2_readRowSize_42 ?_
    refine lv_iconst (v := 1) hx hb dX2_readRowSize_45 (by decide) ?_
    refine lv_iload_n hx hb dX2_readRowSize_46 rfl (lv_at hl 1 rfl) ?_
    have kb_1 : bd 1 1 (1 : Int32) := ⟨by decide, by decide⟩
    refine g_callv (va_runV (As := [.int 1, .int r_5]) (rest := []) ⟨hx, hb, hml, hown, hts⟩ (r_X8_fail l dC dI L kd tys fr_9 H.size g.2.2.2.1 q0_ mq0_ kq0_ 1 (bd_sub kb_1 (by decide)) r_5 y0_ by0_ (g.fcts [3] rfl)) (cwV 2 hts (gV_ t_1122 t_1107 t_1108 t_184 t_1109) rfl rfl rfl (by decide +kernel) ⟨(Nat.le_of_ble_eq_true rfl), (Nat.le_of_ble_eq_true rfl)⟩) (pre3V g hK mq0_ kq0_ (by decide) (q := (RX8, TX8, 10)) rfl) rfl rfl hl.1 rfl (lv_room (Nat.le_of_ble_eq_true rfl)) dX2_readRowSize_47 ⟨(Nat.le_of_ble_eq_true rfl), (Nat.le_of_ble_eq_true rfl)⟩) g hK (by decide) (by decide) (fx' := [(2, 0, a0_, .ref q0_), (2, 4, a0_, .ref q1_)]) rfl (fun fr_260 H locs hp hMr_260 g => ?_)
    obtain ⟨x_261, h_262, hF_263⟩ := hp
    have g := g.more hF_263
    refine lv_goto (tgt := 99) hx hb dX2_readRowSize_50 (by decide) ?_
    refine lv_aload_n hx hb dX2_readRowSize_99 rfl (lv_at hl 2 rfl) ?_
    refine g_getk (C := RX2) (T := TX2) (N := 16) hx hb hts (mc_ inX2) hown hK g rfl 0 (by decide) rfl (hts _ (List.mem_cons_of_mem _ t_416)) (fun _ h9 => h9) 2 rfl dX2_readRowSize_100 ?_
    have kb_1201 : bd 1201 1201 (1201 : Int32) := ⟨by decide, by decide⟩
    refine g_callv (va_runV (As := []) (rest := []) ⟨hx, hb, hml, hown, hts⟩ (r_X8_next_2 l dC dI L kd tys fr_260 H.size g.2.2.2.1 q0_ mq0_ kq0_ 1201 kb_1201 (g.fcts [0] rfl)) (cwV 0 hts (gV_ t_1131 t_1103 t_1104 t_184 t_1105) rfl rfl rfl (by decide +kernel) ⟨(Nat.le_of_ble_eq_true rfl), (Nat.le_of_ble_eq_true rfl)⟩) (pre3V g hK mq0_ kq0_ (by decide) (q := (RX8, TX8, 10)) rfl) rfl rfl hl.1 rfl (lv_room (Nat.le_of_ble_eq_true rfl)) dX2_readRowSize_103 ⟨(Nat.le_of_ble_eq_true rfl), (Nat.le_of_ble_eq_true rfl)⟩) g hK (by decide) (by decide) (fx' := [(8, 6, q0_, .int 1201), (8, 8, q0_, .int x_261), (2, 0, a0_, .ref q0_), (2, 4, a0_, .ref q1_)]) rfl (fun fr_264 H locs hp hMr_264 g => ?_)
    refine lv_aload_n hx hb dX2_readRowSize_106 rfl (lv_at hl 2 rfl) ?_
    refine g_getk (C := RX2) (T := TX2) (N := 16) hx hb hts (mc_ inX2) hown hK g rfl 0 (by decide) rfl (hts _ (List.mem_cons_of_mem _ t_416)) (fun _ h9 => h9) 2 rfl dX2_readRowSize_107 ?_
    refine lv_bipush (v := 93) hx hb dX2_readRowSize_110 (by decide) ?_
    refine g_callv (va_runV (As := [.int 93]) (rest := []) ⟨hx, hb, hml, hown, hts⟩ (r_X8_take_2 l dC dI L kd tys fr_264 H.size g.2.2.2.1 q0_ mq0_ kq0_ 93 1201 kb_1201 x_261 h_262 (g.fcts [0, 1] rfl)) (cwV 1 hts (gV_ t_1098 t_1099 t_1100 t_184 t_1101) rfl rfl rfl (by decide +kernel) ⟨(Nat.le_of_ble_eq_true rfl), (Nat.le_of_ble_eq_true rfl)⟩) (pre3V g hK mq0_ kq0_ (by decide) (q := (RX8, TX8, 10)) rfl) rfl rfl hl.1 rfl (lv_room (Nat.le_of_ble_eq_true rfl)) dX2_readRowSize_112 ⟨(Nat.le_of_ble_eq_true rfl), (Nat.le_of_ble_eq_true rfl)⟩) g hK (by decide) (by decide) (fx' := [(8, 8, q0_, .int x_261), (2, 0, a0_, .ref q0_), (2, 4, a0_, .ref q1_)]) rfl (fun fr_265 H locs hp hMr_265 g => ?_)
    obtain ⟨x_266, h_267, hF_268⟩ := hp
    have g := g.more hF_268
    refine lv_iload_n hx hb dX2_readRowSize_115 rfl (lv_at hl 0 rfl) ?_
    subst hQ
    exact W.iret (v := y_8) hx hb hr (fun t ht hW => ⟨⟨_, _, rfl, Or.inr (Or.inr (Or.inr (Or.inr (Or.inr (Or.inr (Or.inr (Or.inr (Or.inr (Or.inr (Or.inr (Or.inr (Or.inr (Or.inr (Or.inr (Or.inr (⟨x_266, h_267, x_261, h_262, (g.fcts [0, 1] rfl)⟩)))))))))))))))), q3_of g hK ht hW⟩, g.2.2.1.F ht⟩) g.2.2.1.2.2 dX2_readRowSize_116
set_option maxHeartbeats 4000000 in
set_option maxRecDepth 100000 in
theorem r_X9_addField_3 (l : Launch) (dC : Nat → ClassId) (dI : Nat → Nat → Nat) (L : List Nat) (kd : Nat → Nat) (tys : List (ClassId × FieldType)) (f0 : Nat → va_E) (sz : Nat) (hWT : WT L kd tys f0) (a0_ : Nat) (ma0_ : a0_ ∈ L) (ka0_ : kd a0_ = 9) (x1_ : Int64) (x2_ : Int32) (bx2_ : bd 1 1 x2_) (x3_ : Int32) (bx3_ : bd 0 0 x3_) (y0_ : Int32) (by0_ : bd 0 23 y0_) (y1_ : Int32) (by1_ : bd 0 9 y1_) (hfx : Fs L kd f0 [(9, 7, a0_, .int y0_), (9, 2, a0_, .int y1_)]) : Met l yX9_addField (.code yX9_addField cX9_addField 5 none :: lw_g) ({ frames := 1, cells := 0, slots := 0, locals := 15 }) (va_Pc [.ref a0_, .long x1_, .int x2_, .int x3_] (P3 (dC, dI) L tys f0 sz)) (va_Qv (fun (f : Nat → va_E) => (∃ z0_ : Int32, bd 1 10 z0_ ∧ ∃ z1_ : Int32, bd 1 24 z1_ ∧ Fs L kd f [(9, 2, a0_, .int z0_), (9, 7, a0_, .int z1_)])) (Q3 (dC, dI) L kd tys [(9, 2), (9, 7)] [152, 153, 154, 155] f0 sz) (pA L sz)) 0 0 (pA L sz) := by
  refine Met.ofW (cc := cX9_addField) (maxL := 5) (ret := none) (by decide) rfl ?_
  intro p e s m args below meth c s₁ B hml hv
  obtain ⟨rfl, hsz, hP, hK, hD0⟩ := hv
  have hx := B.exec
  have hb := B.bytes
  have hr := B.returns
  have hts := atoms_spec (ws := (.code yX9_addField cX9_addField 5 none :: lw_g)) B.pre
  have hown : s.vm.findClass RX9 = some m.cls := findClass_of_methodNamed B.named
  have hlocks := B.notSynchronized
  subst hsz
  have g : G3 (dC, dI) L kd tys s f0 [(9, 2), (9, 7)] [152, 153, 154, 155] f0 s.heap [] [(9, 7, a0_, .int y0_), (9, 2, a0_, .int y1_)] := G3.start hP hD0 hWT hfx
  have hl := lv_entry ([.ref a0_, .long x1_, .int x2_, .int x3_]) (n := 5) (Nat.le_of_ble_eq_true rfl)
  rw [lg_entry_eq]
  generalize (lg_sl ([.ref a0_, .long x1_, .int x2_, .int x3_]) ++ List.replicate (5 - (lg_sl ([.ref a0_, .long x1_, .int x2_, .int x3_])).length) Slot.unset).toArray = ls at hl ⊢
  have hl : lv_has ls 5 [(0, .ref a0_), (1, .long x1_), (3, .int x2_), (4, .int x3_)] := hl
  refine W_q (fun Q hQ => ?_)
  refine lv_aload_n hx hb dX9_addField_0 rfl (lv_at hl 0 rfl) ?_
  refine g_getk (C := RX9) (T := TX9) (N := 13) hx hb hts (mc_ inX9) hown hK g rfl 2 (by decide) rfl (hts _ (List.mem_cons_of_mem _ t_485)) (fun _ h9 => h9) 1 rfl dX9_addField_1 ?_
  refine lv_bipush (v := 10) hx hb dX9_addField_4 (by decide) ?_
  have kb_10 : bd 10 10 (10 : Int32) := ⟨by decide, by decide⟩
  refine lv_icmp_ge (tgt := 77) hx hb dX9_addField_6 (by decide) (fun c_1 => ?_) (fun c_1 => ?_)
  · have fc_1 := le_f c_1
    have b_2 : bd 10 9 (10 : Int32) := leL fc_1 kb_10 by1_ (by decide)
    exact bd_no (eqX rfl b_2 kb_10 (lo := 10) (hi := 9) (by decide)) (by decide)
  · have fc_1 := nle_f c_1
    refine lv_aload_n hx hb dX9_addField_9 rfl (lv_at hl 0 rfl) ?_
    refine g_getr (K := 152) (C := RX9) (T := TX9) (N := 13) hx hb hts (mc_ inX9) hown hK g ma0_ ka0_ (by decide) rfl 3 (by decide) rfl (hts _ (List.mem_cons_of_mem _ t_488)) (fun _ h9 => h9) rfl dX9_addField_10 (fun a_3 ma_3 ka_3 g => ?_)
    refine lv_aload_n hx hb dX9_addField_13 rfl (lv_at hl 0 rfl) ?_
    refine g_getk (C := RX9) (T := TX9) (N := 13) hx hb hts (mc_ inX9) hown hK g rfl 2 (by decide) rfl (hts _ (List.mem_cons_of_mem _ t_485)) (fun _ h9 => h9) 2 rfl dX9_addField_14 ?_
    refine lv_lload_n hx hb dX9_addField_17 rfl (lv_at hl 1 rfl) ?_
    refine g_last hx hb hK g ma_3 ka_3 (by decide) rfl (in_bd by1_ (by decide)) (by decide) dX9_addField_18 (fun f H locs hM_4 g => ?_)
    refine lv_aload_n hx hb dX9_addField_19 rfl (lv_at hl 0 rfl) ?_
    refine g_getr (K := 153) (C := RX9) (T := TX9) (N := 13) hx hb hts (mc_ inX9) hown hK g ma0_ ka0_ (by decide) rfl 4 (by decide) rfl (hts _ (List.mem_cons_of_mem _ t_489)) (fun _ h9 => h9) rfl dX9_addField_20 (fun a_5 ma_5 ka_5 g => ?_)
    refine lv_aload_n hx hb dX9_addField_23 rfl (lv_at hl 0 rfl) ?_
    refine g_getk (C := RX9) (T := TX9) (N := 13) hx hb hts (mc_ inX9) hown hK g rfl 2 (by decide) rfl (hts _ (List.mem_cons_of_mem _ t_485)) (fun _ h9 => h9) 3 rfl dX9_addField_24 ?_
    refine lv_aload_n hx hb dX9_addField_27 rfl (lv_at hl 0 rfl) ?_
    refine g_getk (C := RX9) (T := TX9) (N := 13) hx hb hts (mc_ inX9) hown hK g rfl 7 (by decide) rfl (hts _ (List.mem_cons_of_mem _ t_493)) (fun _ h9 => h9) 2 rfl dX9_addField_28 ?_
    refine g_iast hx hb hK g ma_5 ka_5 (by decide) rfl (in_bd by1_ (by decide)) (bd_sub by0_ (by decide)) (by decide) dX9_addField_31 (fun f H locs hM_6 g => ?_)
    refine lv_aload_n hx hb dX9_addField_32 rfl (lv_at hl 0 rfl) ?_
    refine g_getr (K := 154) (C := RX9) (T := TX9) (N := 13) hx hb hts (mc_ inX9) hown hK g ma0_ ka0_ (by decide) rfl 5 (by decide) rfl (hts _ (List.mem_cons_of_mem _ t_490)) (fun _ h9 => h9) rfl dX9_addField_33 (fun a_7 ma_7 ka_7 g => ?_)
    refine lv_aload_n hx hb dX9_addField_36 rfl (lv_at hl 0 rfl) ?_
    refine g_getk (C := RX9) (T := TX9) (N := 13) hx hb hts (mc_ inX9) hown hK g rfl 2 (by decide) rfl (hts _ (List.mem_cons_of_mem _ t_485)) (fun _ h9 => h9) 4 rfl dX9_addField_37 ?_
    refine lv_iload_n hx hb dX9_addField_40 rfl (lv_at hl 2 rfl) ?_
    refine g_iast hx hb hK g ma_7 ka_7 (by decide) rfl (in_bd by1_ (by decide)) (bd_sub bx2_ (by decide)) (by decide) dX9_addField_41 (fun f H locs hM_8 g => ?_)
    refine lv_aload_n hx hb dX9_addField_42 rfl (lv_at hl 0 rfl) ?_
    refine g_getr (K := 155) (C := RX9) (T := TX9) (N := 13) hx hb hts (mc_ inX9) hown hK g ma0_ ka0_ (by decide) rfl 6 (by decide) rfl (hts _ (List.mem_cons_of_mem _ t_492)) (fun _ h9 => h9) rfl dX9_addField_43 (fun a_9 ma_9 ka_9 g => ?_)
    refine lv_aload_n hx hb dX9_addField_46 rfl (lv_at hl 0 rfl) ?_
    refine g_getk (C := RX9) (T := TX9) (N := 13) hx hb hts (mc_ inX9) hown hK g rfl 2 (by decide) rfl (hts _ (List.mem_cons_of_mem _ t_485)) (fun _ h9 => h9) 5 rfl dX9_addField_47 ?_
    refine lv_iload hx hb dX9_addField_50 (lv_at hl 3 rfl) ?_
    refine g_iast hx hb hK g ma_9 ka_9 (by decide) rfl (in_bd by1_ (by decide)) (bd_sub bx3_ (by decide)) (by decide) dX9_addField_52 (fun f H locs hM_10 g => ?_)
    refine lv_aload_n hx hb dX9_addField_53 rfl (lv_at hl 0 rfl) ?_
    refine lv_dup hx hb dX9_addField_54 rfl ?_
    refine g_getk (C := RX9) (T := TX9) (N := 13) hx hb hts (mc_ inX9) hown hK g rfl 7 (by decide) rfl (hts _ (List.mem_cons_of_mem _ t_493)) (fun _ h9 => h9) 4 rfl dX9_addField_55 ?_
    refine lv_iload_n hx hb dX9_addField_58 rfl (lv_at hl 2 rfl) ?_
    refine lv_iconst (v := 1) hx hb dX9_addField_59 (by decide) ?_
    have kb_1 : bd 1 1 (1 : Int32) := ⟨by decide, by decide⟩
    refine va_mmax hx hb (hml.trans hl.1.symm) hown (hts _ (List.mem_cons_of_mem _ t_1168)) (hts _ (List.mem_cons_of_mem _ t_1041)) (hts _ (List.mem_cons_of_mem _ t_204)) (hts _ (List.mem_cons_of_mem _ t_1042)) (Nat.le_of_ble_eq_true rfl) (Nat.le_of_ble_eq_true rfl) (Nat.le_of_ble_eq_true rfl) (Nat.le_of_ble_eq_true rfl) dX9_addField_60 ?_
    refine lv_topi (fun y_11 ey_11 => ?_)
    have ty_11 : y_11.toInt = max x2_.toInt (1 : Int32).toInt := by rw [ey_11]; exact mmax_ok _ _
    have b_12 : bd 1 1 y_11 := max_rg ty_11 bx2_ kb_1 (by decide)
    refine lv_iadd hx hb dX9_addField_63 ?_
    refine lv_topi (fun y_13 ey_13 => ?_)
    have ty_13 := add_bd ey_13 by0_ b_12 (by decide)
    have b_14 : bd 1 24 y_13 := add_rg ty_13 by0_ b_12 (by decide)
    refine g_put (C := RX9) (T := TX9) (N := 13) hx hb hts (mc_ inX9) tyX9 tyX9_ok nmX9 hown hK g ma0_ ka0_ (by decide) rfl 7 (by decide) (hts _ (List.mem_cons_of_mem _ t_493)) (fun _ h9 => h9) rfl rfl (okV_i (bd_sub b_14 (by decide))) rfl rfl (by decide) (Or.inr (Or.inl (by decide))) (fx' := [(9, 6, a0_, .ref a_9), (9, 5, a0_, .ref a_7), (9, 4, a0_, .ref a_5), (9, 3, a0_, .ref a_3), (9, 2, a0_, .int y1_)]) rfl dX9_addField_64 (fun f H locs hM_15 g => ?_)
    refine lv_aload_n hx hb dX9_addField_67 rfl (lv_at hl 0 rfl) ?_
    refine lv_dup hx hb dX9_addField_68 rfl ?_
    refine g_getk (C := RX9) (T := TX9) (N := 13) hx hb hts (mc_ inX9) hown hK g rfl 2 (by decide) rfl (hts _ (List.mem_cons_of_mem _ t_485)) (fun _ h9 => h9) 5 rfl dX9_addField_69 ?_
    refine lv_iconst (v := 1) hx hb dX9_addField_72 (by decide) ?_
    refine lv_iadd hx hb dX9_addField_73 ?_
    refine lv_topi (fun y_16 ey_16 => ?_)
    have ty_16 := add_bd ey_16 by1_ kb_1 (by decide)
    have b_17 : bd 1 10 y_16 := add_rg ty_16 by1_ kb_1 (by decide)
    refine g_put (C := RX9) (T := TX9) (N := 13) hx hb hts (mc_ inX9) tyX9 tyX9_ok nmX9 hown hK g ma0_ ka0_ (by decide) rfl 2 (by decide) (hts _ (List.mem_cons_of_mem _ t_485)) (fun _ h9 => h9) rfl rfl (okV_i (bd_sub b_17 (by decide))) rfl rfl (by decide) (Or.inr (Or.inl (by decide))) (fx' := [(9, 7, a0_, .int y_13), (9, 6, a0_, .ref a_9), (9, 5, a0_, .ref a_7), (9, 4, a0_, .ref a_5), (9, 3, a0_, .ref a_3)]) rfl dX9_addField_74 (fun f H locs hM_18 g => ?_)
    subst hQ
    exact W.vret hx hb hr (fun t ht hW => ⟨⟨_, rfl, ⟨y_16, b_17, y_13, b_14, (g.fcts [0, 1] rfl)⟩, q3_of g hK ht hW⟩, g.2.2.1.F ht⟩) g.2.2.1.2.2 dX9_addField_77
set_option maxHeartbeats 4000000 in
set_option maxRecDepth 100000 in
theorem r_X9_addField_4 (l : Launch) (dC : Nat → ClassId) (dI : Nat → Nat → Nat) (L : List Nat) (kd : Nat → Nat) (tys : List (ClassId × FieldType)) (f0 : Nat → va_E) (sz : Nat) (hWT : WT L kd tys f0) (a0_ : Nat) (ma0_ : a0_ ∈ L) (ka0_ : kd a0_ = 9) (x1_ : Int64) (x2_ : Int32) (bx2_ : bd 1 1 x2_) (x3_ : Int32) (y0_ : Int32) (by0_ : bd 0 23 y0_) (y1_ : Int32) (by1_ : bd 0 9 y1_) (hfx : Fs L kd f0 [(9, 7, a0_, .int y0_), (9, 2, a0_, .int y1_)]) : Met l yX9_addField (.code yX9_addField cX9_addField 5 none :: lw_g) ({ frames := 1, cells := 0, slots := 0, locals := 15 }) (va_Pc [.ref a0_, .long x1_, .int x2_, .int x3_] (P3 (dC, dI) L tys f0 sz)) (va_Qv (fun (f : Nat → va_E) => (∃ z0_ : Int32, bd 1 10 z0_ ∧ ∃ z1_ : Int32, bd 1 24 z1_ ∧ Fs L kd f [(9, 2, a0_, .int z0_), (9, 7, a0_, .int z1_)])) (Q3 (dC, dI) L kd tys [(9, 2), (9, 7)] [152, 153, 154, 155] f0 sz) (pA L sz)) 0 0 (pA L sz) := by
  refine Met.ofW (cc := cX9_addField) (maxL := 5) (ret := none) (by decide) rfl ?_
  intro p e s m args below meth c s₁ B hml hv
  obtain ⟨rfl, hsz, hP, hK, hD0⟩ := hv
  have hx := B.exec
  have hb := B.bytes
  have hr := B.returns
  have hts := atoms_spec (ws := (.code yX9_addField cX9_addField 5 none :: lw_g)) B.pre
  have hown : s.vm.findClass RX9 = some m.cls := findClass_of_methodNamed B.named
  have hlocks := B.notSynchronized
  subst hsz
  have g : G3 (dC, dI) L kd tys s f0 [(9, 2), (9, 7)] [152, 153, 154, 155] f0 s.heap [] [(9, 7, a0_, .int y0_), (9, 2, a0_, .int y1_)] := G3.start hP hD0 hWT hfx
  have hl := lv_entry ([.ref a0_, .long x1_, .int x2_, .int x3_]) (n := 5) (Nat.le_of_ble_eq_true rfl)
  rw [lg_entry_eq]
  generalize (lg_sl ([.ref a0_, .long x1_, .int x2_, .int x3_]) ++ List.replicate (5 - (lg_sl ([.ref a0_, .long x1_, .int x2_, .int x3_])).length) Slot.unset).toArray = ls at hl ⊢
  have hl : lv_has ls 5 [(0, .ref a0_), (1, .long x1_), (3, .int x2_), (4, .int x3_)] := hl
  refine W_q (fun Q hQ => ?_)
  refine lv_aload_n hx hb dX9_addField_0 rfl (lv_at hl 0 rfl) ?_
  refine g_getk (C := RX9) (T := TX9) (N := 13) hx hb hts (mc_ inX9) hown hK g rfl 2 (by decide) rfl (hts _ (List.mem_cons_of_mem _ t_485)) (fun _ h9 => h9) 1 rfl dX9_addField_1 ?_
  refine lv_bipush (v := 10) hx hb dX9_addField_4 (by decide) ?_
  have kb_10 : bd 10 10 (10 : Int32) := ⟨by decide, by decide⟩
  refine lv_icmp_ge (tgt := 77) hx hb dX9_addField_6 (by decide) (fun c_1 => ?_) (fun c_1 => ?_)
  · have fc_1 := le_f c_1
    have b_2 : bd 10 9 (10 : Int32) := leL fc_1 kb_10 by1_ (by decide)
    exact bd_no (eqX rfl b_2 kb_10 (lo := 10) (hi := 9) (by decide)) (by decide)
  · have fc_1 := nle_f c_1
    refine lv_aload_n hx hb dX9_addField_9 rfl (lv_at hl 0 rfl) ?_
    refine g_getr (K := 152) (C := RX9) (T := TX9) (N := 13) hx hb hts (mc_ inX9) hown hK g ma0_ ka0_ (by decide) rfl 3 (by decide) rfl (hts _ (List.mem_cons_of_mem _ t_488)) (fun _ h9 => h9) rfl dX9_addField_10 (fun a_3 ma_3 ka_3 g => ?_)
    refine lv_aload_n hx hb dX9_addField_13 rfl (lv_at hl 0 rfl) ?_
    refine g_getk (C := RX9) (T := TX9) (N := 13) hx hb hts (mc_ inX9) hown hK g rfl 2 (by decide) rfl (hts _ (List.mem_cons_of_mem _ t_485)) (fun _ h9 => h9) 2 rfl dX9_addField_14 ?_
    refine lv_lload_n hx hb dX9_addField_17 rfl (lv_at hl 1 rfl) ?_
    refine g_last hx hb hK g ma_3 ka_3 (by decide) rfl (in_bd by1_ (by decide)) (by decide) dX9_addField_18 (fun f H locs hM_4 g => ?_)
    refine lv_aload_n hx hb dX9_addField_19 rfl (lv_at hl 0 rfl) ?_
    refine g_getr (K := 153) (C := RX9) (T := TX9) (N := 13) hx hb hts (mc_ inX9) hown hK g ma0_ ka0_ (by decide) rfl 4 (by decide) rfl (hts _ (List.mem_cons_of_mem _ t_489)) (fun _ h9 => h9) rfl dX9_addField_20 (fun a_5 ma_5 ka_5 g => ?_)
    refine lv_aload_n hx hb dX9_addField_23 rfl (lv_at hl 0 rfl) ?_
    refine g_getk (C := RX9) (T := TX9) (N := 13) hx hb hts (mc_ inX9) hown hK g rfl 2 (by decide) rfl (hts _ (List.mem_cons_of_mem _ t_485)) (fun _ h9 => h9) 3 rfl dX9_addField_24 ?_
    refine lv_aload_n hx hb dX9_addField_27 rfl (lv_at hl 0 rfl) ?_
    refine g_getk (C := RX9) (T := TX9) (N := 13) hx hb hts (mc_ inX9) hown hK g rfl 7 (by decide) rfl (hts _ (List.mem_cons_of_mem _ t_493)) (fun _ h9 => h9) 2 rfl dX9_addField_28 ?_
    refine g_iast hx hb hK g ma_5 ka_5 (by decide) rfl (in_bd by1_ (by decide)) (bd_sub by0_ (by decide)) (by decide) dX9_addField_31 (fun f H locs hM_6 g => ?_)
    refine lv_aload_n hx hb dX9_addField_32 rfl (lv_at hl 0 rfl) ?_
    refine g_getr (K := 154) (C := RX9) (T := TX9) (N := 13) hx hb hts (mc_ inX9) hown hK g ma0_ ka0_ (by decide) rfl 5 (by decide) rfl (hts _ (List.mem_cons_of_mem _ t_490)) (fun _ h9 => h9) rfl dX9_addField_33 (fun a_7 ma_7 ka_7 g => ?_)
    refine lv_aload_n hx hb dX9_addField_36 rfl (lv_at hl 0 rfl) ?_
    refine g_getk (C := RX9) (T := TX9) (N := 13) hx hb hts (mc_ inX9) hown hK g rfl 2 (by decide) rfl (hts _ (List.mem_cons_of_mem _ t_485)) (fun _ h9 => h9) 4 rfl dX9_addField_37 ?_
    refine lv_iload_n hx hb dX9_addField_40 rfl (lv_at hl 2 rfl) ?_
    refine g_iast hx hb hK g ma_7 ka_7 (by decide) rfl (in_bd by1_ (by decide)) (bd_sub bx2_ (by decide)) (by decide) dX9_addField_41 (fun f H locs hM_8 g => ?_)
    refine lv_aload_n hx hb dX9_addField_42 rfl (lv_at hl 0 rfl) ?_
    refine g_getr (K := 155) (C := RX9) (T := TX9) (N := 13) hx hb hts (mc_ inX9) hown hK g ma0_ ka0_ (by decide) rfl 6 (by decide) rfl (hts _ (List.mem_cons_of_mem _ t_492)) (fun _ h9 => h9) rfl dX9_addField_43 (fun a_9 ma_9 ka_9 g => ?_)
    refine lv_aload_n hx hb dX9_addField_46 rfl (lv_at hl 0 rfl) ?_
    refine g_getk (C := RX9) (T := TX9) (N := 13) hx hb hts (mc_ inX9) hown hK g rfl 2 (by decide) rfl (hts _ (List.mem_cons_of_mem _ t_485)) (fun _ h9 => h9) 5 rfl dX9_addField_47 ?_
    refine lv_iload hx hb dX9_addField_50 (lv_at hl 3 rfl) ?_
    refine g_iast hx hb hK g ma_9 ka_9 (by decide) rfl (in_bd by1_ (by decide)) (bdT x3_) (by decide) dX9_addField_52 (fun f H locs hM_10 g => ?_)
    refine lv_aload_n hx hb dX9_addField_53 rfl (lv_at hl 0 rfl) ?_
    refine lv_dup hx hb dX9_addField_54 rfl ?_
    refine g_getk (C := RX9) (T := TX9) (N := 13) hx hb hts (mc_ inX9) hown hK g rfl 7 (by decide) rfl (hts _ (List.mem_cons_of_mem _ t_493)) (fun _ h9 => h9) 4 rfl dX9_addField_55 ?_
    refine lv_iload_n hx hb dX9_addField_58 rfl (lv_at hl 2 rfl) ?_
    refine lv_iconst (v := 1) hx hb dX9_addField_59 (by decide) ?_
    have kb_1 : bd 1 1 (1 : Int32) := ⟨by decide, by decide⟩
    refine va_mmax hx hb (hml.trans hl.1.symm) hown (hts _ (List.mem_cons_of_mem _ t_1168)) (hts _ (List.mem_cons_of_mem _ t_1041)) (hts _ (List.mem_cons_of_mem _ t_204)) (hts _ (List.mem_cons_of_mem _ t_1042)) (Nat.le_of_ble_eq_true rfl) (Nat.le_of_ble_eq_true rfl) (Nat.le_of_ble_eq_true rfl) (Nat.le_of_ble_eq_true rfl) dX9_addField_60 ?_
    refine lv_topi (fun y_11 ey_11 => ?_)
    have ty_11 : y_11.toInt = max x2_.toInt (1 : Int32).toInt := by rw [ey_11]; exact mmax_ok _ _
    have b_12 : bd 1 1 y_11 := max_rg ty_11 bx2_ kb_1 (by decide)
    refine lv_iadd hx hb dX9_addField_63 ?_
    refine lv_topi (fun y_13 ey_13 => ?_)
    have ty_13 := add_bd ey_13 by0_ b_12 (by decide)
    have b_14 : bd 1 24 y_13 := add_rg ty_13 by0_ b_12 (by decide)
    refine g_put (C := RX9) (T := TX9) (N := 13) hx hb hts (mc_ inX9) tyX9 tyX9_ok nmX9 hown hK g ma0_ ka0_ (by decide) rfl 7 (by decide) (hts _ (List.mem_cons_of_mem _ t_493)) (fun _ h9 => h9) rfl rfl (okV_i (bd_sub b_14 (by decide))) rfl rfl (by decide) (Or.inr (Or.inl (by decide))) (fx' := [(9, 6, a0_, .ref a_9), (9, 5, a0_, .ref a_7), (9, 4, a0_, .ref a_5), (9, 3, a0_, .ref a_3), (9, 2, a0_, .int y1_)]) rfl dX9_addField_64 (fun f H locs hM_15 g => ?_)
    refine lv_aload_n hx hb dX9_addField_67 rfl (lv_at hl 0 rfl) ?_
    refine lv_dup hx hb dX9_addField_68 rfl ?_
    refine g_getk (C := RX9) (T := TX9) (N := 13) hx hb hts (mc_ inX9) hown hK g rfl 2 (by decide) rfl (hts _ (List.mem_cons_of_mem _ t_485)) (fun _ h9 => h9) 5 rfl dX9_addField_69 ?_
    refine lv_iconst (v := 1) hx hb dX9_addField_72 (by decide) ?_
    refine lv_iadd hx hb dX9_addField_73 ?_
    refine lv_topi (fun y_16 ey_16 => ?_)
    have ty_16 := add_bd ey_16 by1_ kb_1 (by decide)
    have b_17 : bd 1 10 y_16 := add_rg ty_16 by1_ kb_1 (by decide)
    refine g_put (C := RX9) (T := TX9) (N := 13) hx hb hts (mc_ inX9) tyX9 tyX9_ok nmX9 hown hK g ma0_ ka0_ (by decide) rfl 2 (by decide) (hts _ (List.mem_cons_of_mem _ t_485)) (fun _ h9 => h9) rfl rfl (okV_i (bd_sub b_17 (by decide))) rfl rfl (by decide) (Or.inr (Or.inl (by decide))) (fx' := [(9, 7, a0_, .int y_13), (9, 6, a0_, .ref a_9), (9, 5, a0_, .ref a_7), (9, 4, a0_, .ref a_5), (9, 3, a0_, .ref a_3)]) rfl dX9_addField_74 (fun f H locs hM_18 g => ?_)
    subst hQ
    exact W.vret hx hb hr (fun t ht hW => ⟨⟨_, rfl, ⟨y_16, b_17, y_13, b_14, (g.fcts [0, 1] rfl)⟩, q3_of g hK ht hW⟩, g.2.2.1.F ht⟩) g.2.2.1.2.2 dX9_addField_77
set_option maxHeartbeats 4000000 in
set_option maxRecDepth 100000 in
theorem r_X9_addField_5 (l : Launch) (dC : Nat → ClassId) (dI : Nat → Nat → Nat) (L : List Nat) (kd : Nat → Nat) (tys : List (ClassId × FieldType)) (f0 : Nat → va_E) (sz : Nat) (hWT : WT L kd tys f0) (a0_ : Nat) (ma0_ : a0_ ∈ L) (ka0_ : kd a0_ = 9) (x1_ : Int64) (x2_ : Int32) (bx2_ : bd 2 2 x2_) (x3_ : Int32) (bx3_ : bd 0 0 x3_) (y0_ : Int32) (by0_ : bd 0 22 y0_) (y1_ : Int32) (by1_ : bd 0 9 y1_) (hfx : Fs L kd f0 [(9, 7, a0_, .int y0_), (9, 2, a0_, .int y1_)]) : Met l yX9_addField (.code yX9_addField cX9_addField 5 none :: lw_g) ({ frames := 1, cells := 0, slots := 0, locals := 15 }) (va_Pc [.ref a0_, .long x1_, .int x2_, .int x3_] (P3 (dC, dI) L tys f0 sz)) (va_Qv (fun (f : Nat → va_E) => (∃ z0_ : Int32, bd 1 10 z0_ ∧ ∃ z1_ : Int32, bd 2 24 z1_ ∧ Fs L kd f [(9, 2, a0_, .int z0_), (9, 7, a0_, .int z1_)])) (Q3 (dC, dI) L kd tys [(9, 2), (9, 7)] [152, 153, 154, 155] f0 sz) (pA L sz)) 0 0 (pA L sz) := by
  refine Met.ofW (cc := cX9_addField) (maxL := 5) (ret := none) (by decide) rfl ?_
  intro p e s m args below meth c s₁ B hml hv
  obtain ⟨rfl, hsz, hP, hK, hD0⟩ := hv
  have hx := B.exec
  have hb := B.bytes
  have hr := B.returns
  have hts := atoms_spec (ws := (.code yX9_addField cX9_addField 5 none :: lw_g)) B.pre
  have hown : s.vm.findClass RX9 = some m.cls := findClass_of_methodNamed B.named
  have hlocks := B.notSynchronized
  subst hsz
  have g : G3 (dC, dI) L kd tys s f0 [(9, 2), (9, 7)] [152, 153, 154, 155] f0 s.heap [] [(9, 7, a0_, .int y0_), (9, 2, a0_, .int y1_)] := G3.start hP hD0 hWT hfx
  have hl := lv_entry ([.ref a0_, .long x1_, .int x2_, .int x3_]) (n := 5) (Nat.le_of_ble_eq_true rfl)
  rw [lg_entry_eq]
  generalize (lg_sl ([.ref a0_, .long x1_, .int x2_, .int x3_]) ++ List.replicate (5 - (lg_sl ([.ref a0_, .long x1_, .int x2_, .int x3_])).length) Slot.unset).toArray = ls at hl ⊢
  have hl : lv_has ls 5 [(0, .ref a0_), (1, .long x1_), (3, .int x2_), (4, .int x3_)] := hl
  refine W_q (fun Q hQ => ?_)
  refine lv_aload_n hx hb dX9_addField_0 rfl (lv_at hl 0 rfl) ?_
  refine g_getk (C := RX9) (T := TX9) (N := 13) hx hb hts (mc_ inX9) hown hK g rfl 2 (by decide) rfl (hts _ (List.mem_cons_of_mem _ t_485)) (fun _ h9 => h9) 1 rfl dX9_addField_1 ?_
  refine lv_bipush (v := 10) hx hb dX9_addField_4 (by decide) ?_
  have kb_10 : bd 10 10 (10 : Int32) := ⟨by decide, by decide⟩
  refine lv_icmp_ge (tgt := 77) hx hb dX9_addField_6 (by decide) (fun c_1 => ?_) (fun c_1 => ?_)
  · have fc_1 := le_f c_1
    have b_2 : bd 10 9 (10 : Int32) := leL fc_1 kb_10 by1_ (by decide)
    exact bd_no (eqX rfl b_2 kb_10 (lo := 10) (hi := 9) (by decide)) (by decide)
  · have fc_1 := nle_f c_1
    refine lv_aload_n hx hb dX9_addField_9 rfl (lv_at hl 0 rfl) ?_
    refine g_getr (K := 152) (C := RX9) (T := TX9) (N := 13) hx hb hts (mc_ inX9) hown hK g ma0_ ka0_ (by decide) rfl 3 (by decide) rfl (hts _ (List.mem_cons_of_mem _ t_488)) (fun _ h9 => h9) rfl dX9_addField_10 (fun a_3 ma_3 ka_3 g => ?_)
    refine lv_aload_n hx hb dX9_addField_13 rfl (lv_at hl 0 rfl) ?_
    refine g_getk (C := RX9) (T := TX9) (N := 13) hx hb hts (mc_ inX9) hown hK g rfl 2 (by decide) rfl (hts _ (List.mem_cons_of_mem _ t_485)) (fun _ h9 => h9) 2 rfl dX9_addField_14 ?_
    refine lv_lload_n hx hb dX9_addField_17 rfl (lv_at hl 1 rfl) ?_
    refine g_last hx hb hK g ma_3 ka_3 (by decide) rfl (in_bd by1_ (by decide)) (by decide) dX9_addField_18 (fun f H locs hM_4 g => ?_)
    refine lv_aload_n hx hb dX9_addField_19 rfl (lv_at hl 0 rfl) ?_
    refine g_getr (K := 153) (C := RX9) (T := TX9) (N := 13) hx hb hts (mc_ inX9) hown hK g ma0_ ka0_ (by decide) rfl 4 (by decide) rfl (hts _ (List.mem_cons_of_mem _ t_489)) (fun _ h9 => h9) rfl dX9_addField_20 (fun a_5 ma_5 ka_5 g => ?_)
    refine lv_aload_n hx hb dX9_addField_23 rfl (lv_at hl 0 rfl) ?_
    refine g_getk (C := RX9) (T := TX9) (N := 13) hx hb hts (mc_ inX9) hown hK g rfl 2 (by decide) rfl (hts _ (List.mem_cons_of_mem _ t_485)) (fun _ h9 => h9) 3 rfl dX9_addField_24 ?_
    refine lv_aload_n hx hb dX9_addField_27 rfl (lv_at hl 0 rfl) ?_
    refine g_getk (C := RX9) (T := TX9) (N := 13) hx hb hts (mc_ inX9) hown hK g rfl 7 (by decide) rfl (hts _ (List.mem_cons_of_mem _ t_493)) (fun _ h9 => h9) 2 rfl dX9_addField_28 ?_
    refine g_iast hx hb hK g ma_5 ka_5 (by decide) rfl (in_bd by1_ (by decide)) (bd_sub by0_ (by decide)) (by decide) dX9_addField_31 (fun f H locs hM_6 g => ?_)
    refine lv_aload_n hx hb dX9_addField_32 rfl (lv_at hl 0 rfl) ?_
    refine g_getr (K := 154) (C := RX9) (T := TX9) (N := 13) hx hb hts (mc_ inX9) hown hK g ma0_ ka0_ (by decide) rfl 5 (by decide) rfl (hts _ (List.mem_cons_of_mem _ t_490)) (fun _ h9 => h9) rfl dX9_addField_33 (fun a_7 ma_7 ka_7 g => ?_)
    refine lv_aload_n hx hb dX9_addField_36 rfl (lv_at hl 0 rfl) ?_
    refine g_getk (C := RX9) (T := TX9) (N := 13) hx hb hts (mc_ inX9) hown hK g rfl 2 (by decide) rfl (hts _ (List.mem_cons_of_mem _ t_485)) (fun _ h9 => h9) 4 rfl dX9_addField_37 ?_
    refine lv_iload_n hx hb dX9_addField_40 rfl (lv_at hl 2 rfl) ?_
    refine g_iast hx hb hK g ma_7 ka_7 (by decide) rfl (in_bd by1_ (by decide)) (bd_sub bx2_ (by decide)) (by decide) dX9_addField_41 (fun f H locs hM_8 g => ?_)
    refine lv_aload_n hx hb dX9_addField_42 rfl (lv_at hl 0 rfl) ?_
    refine g_getr (K := 155) (C := RX9) (T := TX9) (N := 13) hx hb hts (mc_ inX9) hown hK g ma0_ ka0_ (by decide) rfl 6 (by decide) rfl (hts _ (List.mem_cons_of_mem _ t_492)) (fun _ h9 => h9) rfl dX9_addField_43 (fun a_9 ma_9 ka_9 g => ?_)
    refine lv_aload_n hx hb dX9_addField_46 rfl (lv_at hl 0 rfl) ?_
    refine g_getk (C := RX9) (T := TX9) (N := 13) hx hb hts (mc_ inX9) hown hK g rfl 2 (by decide) rfl (hts _ (List.mem_cons_of_mem _ t_485)) (fun _ h9 => h9) 5 rfl dX9_addField_47 ?_
    refine lv_iload hx hb dX9_addField_50 (lv_at hl 3 rfl) ?_
    refine g_iast hx hb hK g ma_9 ka_9 (by decide) rfl (in_bd by1_ (by decide)) (bd_sub bx3_ (by decide)) (by decide) dX9_addField_52 (fun f H locs hM_10 g => ?_)
    refine lv_aload_n hx hb dX9_addField_53 rfl (lv_at hl 0 rfl) ?_
    refine lv_dup hx hb dX9_addField_54 rfl ?_
    refine g_getk (C := RX9) (T := TX9) (N := 13) hx hb hts (mc_ inX9) hown hK g rfl 7 (by decide) rfl (hts _ (List.mem_cons_of_mem _ t_493)) (fun _ h9 => h9) 4 rfl dX9_addField_55 ?_
    refine lv_iload_n hx hb dX9_addField_58 rfl (lv_at hl 2 rfl) ?_
    refine lv_iconst (v := 1) hx hb dX9_addField_59 (by decide) ?_
    have kb_1 : bd 1 1 (1 : Int32) := ⟨by decide, by decide⟩
    refine va_mmax hx hb (hml.trans hl.1.symm) hown (hts _ (List.mem_cons_of_mem _ t_1168)) (hts _ (List.mem_cons_of_mem _ t_1041)) (hts _ (List.mem_cons_of_mem _ t_204)) (hts _ (List.mem_cons_of_mem _ t_1042)) (Nat.le_of_ble_eq_true rfl) (Nat.le_of_ble_eq_true rfl) (Nat.le_of_ble_eq_true rfl) (Nat.le_of_ble_eq_true rfl) dX9_addField_60 ?_
    refine lv_topi (fun y_11 ey_11 => ?_)
    have ty_11 : y_11.toInt = max x2_.toInt (1 : Int32).toInt := by rw [ey_11]; exact mmax_ok _ _
    have b_12 : bd 2 2 y_11 := max_rg ty_11 bx2_ kb_1 (by decide)
    refine lv_iadd hx hb dX9_addField_63 ?_
    refine lv_topi (fun y_13 ey_13 => ?_)
    have ty_13 := add_bd ey_13 by0_ b_12 (by decide)
    have b_14 : bd 2 24 y_13 := add_rg ty_13 by0_ b_12 (by decide)
    refine g_put (C := RX9) (T := TX9) (N := 13) hx hb hts (mc_ inX9) tyX9 tyX9_ok nmX9 hown hK g ma0_ ka0_ (by decide) rfl 7 (by decide) (hts _ (List.mem_cons_of_mem _ t_493)) (fun _ h9 => h9) rfl rfl (okV_i (bd_sub b_14 (by decide))) rfl rfl (by decide) (Or.inr (Or.inl (by decide))) (fx' := [(9, 6, a0_, .ref a_9), (9, 5, a0_, .ref a_7), (9, 4, a0_, .ref a_5), (9, 3, a0_, .ref a_3), (9, 2, a0_, .int y1_)]) rfl dX9_addField_64 (fun f H locs hM_15 g => ?_)
    refine lv_aload_n hx hb dX9_addField_67 rfl (lv_at hl 0 rfl) ?_
    refine lv_dup hx hb dX9_addField_68 rfl ?_
    refine g_getk (C := RX9) (T := TX9) (N := 13) hx hb hts (mc_ inX9) hown hK g rfl 2 (by decide) rfl (hts _ (List.mem_cons_of_mem _ t_485)) (fun _ h9 => h9) 5 rfl dX9_addField_69 ?_
    refine lv_iconst (v := 1) hx hb dX9_addField_72 (by decide) ?_
    refine lv_iadd hx hb dX9_addField_73 ?_
    refine lv_topi (fun y_16 ey_16 => ?_)
    have ty_16 := add_bd ey_16 by1_ kb_1 (by decide)
    have b_17 : bd 1 10 y_16 := add_rg ty_16 by1_ kb_1 (by decide)
    refine g_put (C := RX9) (T := TX9) (N := 13) hx hb hts (mc_ inX9) tyX9 tyX9_ok nmX9 hown hK g ma0_ ka0_ (by decide) rfl 2 (by decide) (hts _ (List.mem_cons_of_mem _ t_485)) (fun _ h9 => h9) rfl rfl (okV_i (bd_sub b_17 (by decide))) rfl rfl (by decide) (Or.inr (Or.inl (by decide))) (fx' := [(9, 7, a0_, .int y_13), (9, 6, a0_, .ref a_9), (9, 5, a0_, .ref a_7), (9, 4, a0_, .ref a_5), (9, 3, a0_, .ref a_3)]) rfl dX9_addField_74 (fun f H locs hM_18 g => ?_)
    subst hQ
    exact W.vret hx hb hr (fun t ht hW => ⟨⟨_, rfl, ⟨y_16, b_17, y_13, b_14, (g.fcts [0, 1] rfl)⟩, q3_of g hK ht hW⟩, g.2.2.1.F ht⟩) g.2.2.1.2.2 dX9_addField_77
