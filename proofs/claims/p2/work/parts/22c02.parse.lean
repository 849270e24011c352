set_option maxHeartbeats 4000000 in
set_option maxRecDepth 100000 in
theorem r_X2_readRowSize (l : Launch) (dC : Nat → ClassId) (dI : Nat → Nat → Nat) (L : List Nat) (kd : Nat → Nat) (tys : List (ClassId × FieldType)) (f0 : Nat → va_E) (sz : Nat) (hWT : WT L kd tys f0) (a0_ : Nat) (ma0_ : a0_ ∈ L) (ka0_ : kd a0_ = 2) (q0_ : Nat) (mq0_ : q0_ ∈ L) (kq0_ : kd q0_ = 8) (q1_ : Nat) (mq1_ : q1_ ∈ L) (kq1_ : kd q1_ = 9) (y0_ : Int32) (by0_ : bd 0 0 y0_) (hfx : Fs L kd f0 [(2, 0, a0_, .ref q0_), (2, 4, a0_, .ref q1_), (8, 8, q0_, .int y0_)]) : Met l yX2_readRowSize (.code yX2_readRowSize cX2_readRowSize 3 (some .int) :: lw_g) ({ frames := 2, cells := 0, slots := 0, locals := 44 }) (va_Pc [.ref a0_] (P3 (dC, dI) L tys f0 sz)) (va_Qi (fun (r : Int32) (f : Nat → va_E) => (r = 1 ∧ ∃ z0_ : Int32, bd 1 1201 z0_ ∧ ∃ z1_ : Int32, bd 0 0 z1_ ∧ ∃ z2_ : Int32, bd 0 23 z2_ ∧ Fs L kd f [(8, 6, q0_, .int z0_), (8, 8, q0_, .int z1_), (9, 7, q1_, .int z2_)]) ∨ (r = 1 ∧ ∃ z0_ : Int32, bd 1201 1201 z0_ ∧ ∃ z1_ : Int32, bd 1 7 z1_ ∧ Fs L kd f [(8, 6, q0_, .int z0_), (8, 8, q0_, .int z1_)]) ∨ (r = 2 ∧ ∃ z0_ : Int32, bd 1 1201 z0_ ∧ ∃ z1_ : Int32, bd 0 0 z1_ ∧ ∃ z2_ : Int32, bd 0 22 z2_ ∧ Fs L kd f [(8, 6, q0_, .int z0_), (8, 8, q0_, .int z1_), (9, 7, q1_, .int z2_)]) ∨ (r = 2 ∧ ∃ z0_ : Int32, bd 1201 1201 z0_ ∧ ∃ z1_ : Int32, bd 1 7 z1_ ∧ Fs L kd f [(8, 6, q0_, .int z0_), (8, 8, q0_, .int z1_)]) ∨ (r = 3 ∧ ∃ z0_ : Int32, bd 1 1201 z0_ ∧ ∃ z1_ : Int32, bd 0 0 z1_ ∧ ∃ z2_ : Int32, bd 0 21 z2_ ∧ Fs L kd f [(8, 6, q0_, .int z0_), (8, 8, q0_, .int z1_), (9, 7, q1_, .int z2_)]) ∨ (r = 3 ∧ ∃ z0_ : Int32, bd 1201 1201 z0_ ∧ ∃ z1_ : Int32, bd 1 7 z1_ ∧ Fs L kd f [(8, 6, q0_, .int z0_), (8, 8, q0_, .int z1_)]) ∨ (r = 4 ∧ ∃ z0_ : Int32, bd 1 1201 z0_ ∧ ∃ z1_ : Int32, bd 0 0 z1_ ∧ ∃ z2_ : Int32, bd 0 20 z2_ ∧ Fs L kd f [(8, 6, q0_, .int z0_), (8, 8, q0_, .int z1_), (9, 7, q1_, .int z2_)]) ∨ (r = 4 ∧ ∃ z0_ : Int32, bd 1201 1201 z0_ ∧ ∃ z1_ : Int32, bd 1 7 z1_ ∧ Fs L kd f [(8, 6, q0_, .int z0_), (8, 8, q0_, .int z1_)]) ∨ (r = 5 ∧ ∃ z0_ : Int32, bd 1 1201 z0_ ∧ ∃ z1_ : Int32, bd 0 0 z1_ ∧ ∃ z2_ : Int32, bd 0 19 z2_ ∧ Fs L kd f [(8, 6, q0_, .int z0_), (8, 8, q0_, .int z1_), (9, 7, q1_, .int z2_)]) ∨ (r = 5 ∧ ∃ z0_ : Int32, bd 1201 1201 z0_ ∧ ∃ z1_ : Int32, bd 1 7 z1_ ∧ Fs L kd f [(8, 6, q0_, .int z0_), (8, 8, q0_, .int z1_)]) ∨ (r = 6 ∧ ∃ z0_ : Int32, bd 1 1201 z0_ ∧ ∃ z1_ : Int32, bd 0 0 z1_ ∧ ∃ z2_ : Int32, bd 0 18 z2_ ∧ Fs L kd f [(8, 6, q0_, .int z0_), (8, 8, q0_, .int z1_), (9, 7, q1_, .int z2_)]) ∨ (r = 6 ∧ ∃ z0_ : Int32, bd 1201 1201 z0_ ∧ ∃ z1_ : Int32, bd 1 7 z1_ ∧ Fs L kd f [(8, 6, q0_, .int z0_), (8, 8, q0_, .int z1_)]) ∨ (r = 7 ∧ ∃ z0_ : Int32, bd 1 1201 z0_ ∧ ∃ z1_ : Int32, bd 0 0 z1_ ∧ ∃ z2_ : Int32, bd 0 17 z2_ ∧ Fs L kd f [(8, 6, q0_, .int z0_), (8, 8, q0_, .int z1_), (9, 7, q1_, .int z2_)]) ∨ (r = 7 ∧ ∃ z0_ : Int32, bd 1201 1201 z0_ ∧ ∃ z1_ : Int32, bd 1 7 z1_ ∧ Fs L kd f [(8, 6, q0_, .int z0_), (8, 8, q0_, .int z1_)]) ∨ (r = 8 ∧ ∃ z0_ : Int32, bd 1 1201 z0_ ∧ ∃ z1_ : Int32, bd 0 0 z1_ ∧ ∃ z2_ : Int32, bd 0 16 z2_ ∧ Fs L kd f [(8, 6, q0_, .int z0_), (8, 8, q0_, .int z1_), (9, 7, q1_, .int z2_)]) ∨ (r = 8 ∧ ∃ z0_ : Int32, bd 1201 1201 z0_ ∧ ∃ z1_ : Int32, bd 1 7 z1_ ∧ Fs L kd f [(8, 6, q0_, .int z0_), (8, 8, q0_, .int z1_)]) ∨ (∃ z0_ : Int32, bd 1201 1201 z0_ ∧ ∃ z1_ : Int32, bd 1 7 z1_ ∧ Fs L kd f [(8, 6, q0_, .int z0_), (8, 8, q0_, .int z1_)])) (Q3 (dC, dI) L kd tys [(8, 6), (8, 8), (8, 9)] [] f0 sz) (pA L sz)) 0 0 (pA L sz) := by
  refine Met.ofW (cc := cX2_readRowSize) (maxL := 3) (ret := (some .int)) (by decide) rfl ?_
  intro p e s m args below meth c s₁ B hml hv
  obtain ⟨rfl, hsz, hP, hK, hD0⟩ := hv
  have hx := B.exec
  have hb := B.bytes
  have hr := B.returns
  have hts := atoms_spec (ws := (.code yX2_readRowSize cX2_readRowSize 3 (some .int) :: lw_g)) B.pre
  have hown : s.vm.findClass RX2 = some m.cls := findClass_of_methodNamed B.named
  have hlocks := B.notSynchronized
  subst hsz
  have g : G3 (dC, dI) L kd tys s f0 [(8, 6), (8, 8), (8, 9)] [] f0 s.heap [] [(2, 0, a0_, .ref q0_), (2, 4, a0_, .ref q1_), (8, 8, q0_, .int y0_)] := G3.start hP hD0 hWT hfx
  have hl := lv_entry ([.ref a0_]) (n := 3) (Nat.le_of_ble_eq_true rfl)
  rw [lg_entry_eq]
  generalize (lg_sl ([.ref a0_]) ++ List.replicate (3 - (lg_sl ([.ref a0_])).length) Slot.unset).toArray = ls at hl ⊢
  have hl : lv_has ls 3 [(0, .ref a0_)] := hl
  refine W_q (fun Q hQ => ?_)
  refine lv_aload_n hx hb dX2_readRowSize_0 rfl (lv_at hl 0 rfl) ?_
  refine g_getk (C := RX2) (T := TX2) (N := 16) hx hb hts (mc_ inX2) hown hK g rfl 0 (by decide) rfl (hts _ (List.mem_cons_of_mem _ t_416)) (fun _ h9 => h9) 0 rfl dX2_readRowSize_1 ?_
  refine g_callv (va_runV (As := []) (rest := []) ⟨hx, hb, hml, hown, hts⟩ (r_X8_next l dC dI L kd tys f0 s.heap.size g.2.2.2.1 q0_ mq0_ kq0_) (cwV 0 hts (gV_ t_1131 t_1103 t_1104 t_184 t_1105) rfl rfl rfl (by decide +kernel) ⟨(Nat.le_of_ble_eq_true rfl), (Nat.le_of_ble_eq_true rfl)⟩) (pre3V g hK mq0_ kq0_ (by decide) (q := (RX8, TX8, 10)) rfl) rfl rfl hl.1 rfl (lv_room (Nat.le_of_ble_eq_true rfl)) dX2_readRowSize_4 ⟨(Nat.le_of_ble_eq_true rfl), (Nat.le_of_ble_eq_true rfl)⟩) g hK (by decide) (by decide) (fx' := [(2, 0, a0_, .ref q0_), (2, 4, a0_, .ref q1_), (8, 8, q0_, .int y0_)]) rfl (fun fr_1 H locs hp hMr_1 g => ?_)
  obtain ⟨x_2, h_3, hF_4⟩ := hp
  have g := g.more hF_4
  refine lv_aload_n hx hb dX2_readRowSize_7 rfl (lv_at hl 0 rfl) ?_
  refine g_getk (C := RX2) (T := TX2) (N := 16) hx hb hts (mc_ inX2) hown hK g rfl 0 (by decide) rfl (hts _ (List.mem_cons_of_mem _ t_416)) (fun _ h9 => h9) 1 rfl dX2_readRowSize_8 ?_
  refine g_calli (va_runV (As := []) (rest := []) ⟨hx, hb, hml, hown, hts⟩ (r_X8_place l dC dI L kd tys fr_1 H.size g.2.2.2.1 q0_ mq0_ kq0_) (cwV 0 hts (gV_ t_1110 t_1111 t_1112 t_184 t_1113) rfl rfl rfl (by decide +kernel) ⟨(Nat.le_of_ble_eq_true rfl), (Nat.le_of_ble_eq_true rfl)⟩) (pre3V g hK mq0_ kq0_ (by decide) (q := (RX8, TX8, 10)) rfl) rfl rfl hl.1 rfl (lv_room (Nat.le_of_ble_eq_true rfl)) dX2_readRowSize_11 ⟨(Nat.le_of_ble_eq_true rfl), (Nat.le_of_ble_eq_true rfl)⟩) g hK (by decide) (by decide) (fx' := [(8, 6, q0_, .int x_2), (2, 0, a0_, .ref q0_), (2, 4, a0_, .ref q1_), (8, 8, q0_, .int y0_)]) rfl (fun r_5 fr_5 H locs hp hMr_5 g => ?_)
  refine lv_istore_n (lv' := [(1, .int r_5), (0, .ref a0_)]) hx hb dX2_readRowSize_14 rfl hl (by decide) rfl (fun ls hl => ?_)
  refine lv_aload_n hx hb dX2_readRowSize_15 rfl (lv_at hl 1 rfl) ?_
  refine g_getk (C := RX2) (T := TX2) (N := 16) hx hb hts (mc_ inX2) hown hK g rfl 0 (by decide) rfl (hts _ (List.mem_cons_of_mem _ t_416)) (fun _ h9 => h9) 1 rfl dX2_readRowSize_16 ?_
  refine g_calll (va_runV (As := []) (rest := []) ⟨hx, hb, hml, hown, hts⟩ (r_X8_value l dC dI L kd tys fr_5 H.size g.2.2.2.1 q0_ mq0_ kq0_) (cwV 0 hts (gV_ t_1114 t_1115 t_1116 t_184 t_1117) rfl rfl rfl (by decide +kernel) ⟨(Nat.le_of_ble_eq_true rfl), (Nat.le_of_ble_eq_true rfl)⟩) (pre3V g hK mq0_ kq0_ (by decide) (q := (RX8, TX8, 10)) rfl) rfl rfl hl.1 rfl (lv_room (Nat.le_of_ble_eq_true rfl)) dX2_readRowSize_19 ⟨(Nat.le_of_ble_eq_true rfl), (Nat.le_of_ble_eq_true rfl)⟩) g hK (by decide) (by decide) (fx' := [(8, 6, q0_, .int x_2), (2, 0, a0_, .ref q0_), (2, 4, a0_, .ref q1_), (8, 8, q0_, .int y0_)]) rfl (fun r_6 fr_6 H locs hp hMr_6 g => ?_)
  refine lv_ldc2 (v := 25) hx hb hown (hts _ (List.mem_cons_of_mem _ t_1155)) dX2_readRowSize_22 ?_
  refine va_mmin_long hx hb (hml.trans hl.1.symm) hown (hts _ (List.mem_cons_of_mem _ t_1156)) (hts _ (List.mem_cons_of_mem _ t_1157)) (hts _ (List.mem_cons_of_mem _ t_204)) (hts _ (List.mem_cons_of_mem _ t_1158)) (Nat.le_of_ble_eq_true rfl) (Nat.le_of_ble_eq_true rfl) (Nat.le_of_ble_eq_true rfl) (Nat.le_of_ble_eq_true rfl) dX2_readRowSize_25 ?_
  refine lv_topl (fun y_7 ey_7 => ?_)
  refine lv_l2i hx hb dX2_readRowSize_28 rfl ?_
  refine lv_topi (fun y_8 ey_8 => ?_)
  refine lv_istore_n (lv' := [(2, .int y_8), (1, .int r_5), (0, .ref a0_)]) hx hb dX2_readRowSize_29 rfl hl (by decide) rfl (fun ls hl => ?_)
  refine lv_aload_n hx hb dX2_readRowSize_30 rfl (lv_at hl 2 rfl) ?_
  refine g_getk (C := RX2) (T := TX2) (N := 16) hx hb hts (mc_ inX2) hown hK g rfl 0 (by decide) rfl (hts _ (List.mem_cons_of_mem _ t_416)) (fun _ h9 => h9) 1 rfl dX2_readRowSize_31 ?_
  refine g_calli (va_runV (As := []) (rest := []) ⟨hx, hb, hml, hown, hts⟩ (r_X8_kind l dC dI L kd tys fr_6 H.size g.2.2.2.1 q0_ mq0_ kq0_) (cwV 0 hts (gV_ t_1118 t_1119 t_1120 t_184 t_1121) rfl rfl rfl (by decide +kernel) ⟨(Nat.le_of_ble_eq_true rfl), (Nat.le_of_ble_eq_true rfl)⟩) (pre3V g hK mq0_ kq0_ (by decide) (q := (RX8, TX8, 10)) rfl) rfl rfl hl.1 rfl (lv_room (Nat.le_of_ble_eq_true rfl)) dX2_readRowSize_34 ⟨(Nat.le_of_ble_eq_true rfl), (Nat.le_of_ble_eq_true rfl)⟩) g hK (by decide) (by decide) (fx' := [(8, 6, q0_, .int x_2), (2, 0, a0_, .ref q0_), (2, 4, a0_, .ref q1_), (8, 8, q0_, .int y0_)]) rfl (fun r_9 fr_9 H locs hp hMr_9 g => ?_)
  refine lv_iconst (v := 4) hx hb dX2_readRowSize_37 (by decide) ?_
  have kb_4 : bd 4 4 (4 : Int32) := ⟨by decide, by decide⟩
  refine lv_icmp_eq (tgt := 53) hx hb dX2_readRowSize_38 (by decide) (fun c_10 => ?_) (fun c_10 => ?_)
  · have fc_10 := eq_f c_10
    have b_11 : bd 4 4 r_9 := eqX fc_10 (bdT r_9) kb_4 (by decide)
    refine lv_iload_n hx hb dX2_readRowSize_53 rfl (lv_at hl 0 rfl) ?_
    refine lv_iconst (v := 1) hx hb dX2_readRowSize_54 (by decide) ?_
    have kb_1 : bd 1 1 (1 : Int32) := ⟨by decide, by decide⟩
    refine lv_icmp_lt (tgt := 64) hx hb dX2_readRowSize_55 (by decide) (fun c_12 => ?_) (fun c_12 => ?_)
    · have fc_12 := lt_f c_12
      have b_13 : bd (-2147483648) 0 y_8 := ltL fc_12 (bdT y_8) kb_1 (by decide)
      refine lv_aload_n hx hb dX2_readRowSize_64 rfl (lv_at hl 2 rfl) ?_
      refine g_getk (C := RX2) (T := TX2) (N := 16) hx hb hts (mc_ inX2) hown hK g rfl 0 (by decide) rfl (hts _ (List.mem_cons_of_mem _ t_416)) (fun _ h9 => h9) 1 rfl dX2_readRowSize_65 ?_
      refine lv_iconst (v := 3) hx hb dX2_readRowSize_68 (by decide) ?_
      refine lv_iload_n hx hb dX2_readRowSize_69 rfl (lv_at hl 1 rfl) ?_
      have kb_3 : bd 3 3 (3 : Int32) := ⟨by decide, by decide⟩
      refine g_callv (va_runV (As := [.int 3, .int r_5]) (rest := []) ⟨hx, hb, hml, hown, hts⟩ (r_X8_fail l dC dI L kd tys fr_9 H.size g.2.2.2.1 q0_ mq0_ kq0_ 3 (bd_sub kb_3 (by decide)) r_5 y0_ by0_ (g.fcts [3] rfl)) (cwV 2 hts (gV_ t_1122 t_1107 t_1108 t_184 t_1109) rfl rfl rfl (by decide +kernel) ⟨(Nat.le_of_ble_eq_true rfl), (Nat.le_of_ble_eq_true rfl)⟩) (pre3V g hK mq0_ kq0_ (by decide) (q := (RX8, TX8, 10)) rfl) rfl rfl hl.1 rfl (lv_room (Nat.le_of_ble_eq_true rfl)) dX2_readRowSize_70 ⟨(Nat.le_of_ble_eq_true rfl), (Nat.le_of_ble_eq_true rfl)⟩) g hK (by decide) (by decide) (fx' := [(2, 0, a0_, .ref q0_), (2, 4, a0_, .ref q1_)]) rfl (fun fr_14 H locs hp hMr_14 g => ?_)
      obtain ⟨x_15, h_16, hF_17⟩ := hp
      have g := g.more hF_17
      refine lv_goto (tgt := 99) hx hb dX2_readRowSize_73 (by decide) ?_
      refine lv_aload_n hx hb dX2_readRowSize_99 rfl (lv_at hl 2 rfl) ?_
      refine g_getk (C := RX2) (T := TX2) (N := 16) hx hb hts (mc_ inX2) hown hK g rfl 0 (by decide) rfl (hts _ (List.mem_cons_of_mem _ t_416)) (fun _ h9 => h9) 2 rfl dX2_readRowSize_100 ?_
      have kb_1201 : bd 1201 1201 (1201 : Int32) := ⟨by decide, by decide⟩
      refine g_callv (va_runV (As := []) (rest := []) ⟨hx, hb, hml, hown, hts⟩ (r_X8_next_2 l dC dI L kd tys fr_14 H.size g.2.2.2.1 q0_ mq0_ kq0_ 1201 kb_1201 (g.fcts [0] rfl)) (cwV 0 hts (gV_ t_1131 t_1103 t_1104 t_184 t_1105) rfl rfl rfl (by decide +kernel) ⟨(Nat.le_of_ble_eq_true rfl), (Nat.le_of_ble_eq_true rfl)⟩) (pre3V g hK mq0_ kq0_ (by decide) (q := (RX8, TX8, 10)) rfl) rfl rfl hl.1 rfl (lv_room (Nat.le_of_ble_eq_true rfl)) dX2_readRowSize_103 ⟨(Nat.le_of_ble_eq_true rfl), (Nat.le_of_ble_eq_true rfl)⟩) g hK (by decide) (by decide) (fx' := [(8, 6, q0_, .int 1201), (8, 8, q0_, .int x_15), (2, 0, a0_, .ref q0_), (2, 4, a0_, .ref q1_)]) rfl (fun fr_18 H locs hp hMr_18 g => ?_)
      refine lv_aload_n hx hb dX2_readRowSize_106 rfl (lv_at hl 2 rfl) ?_
      refine g_getk (C := RX2) (T := TX2) (N := 16) hx hb hts (mc_ inX2) hown hK g rfl 0 (by decide) rfl (hts _ (List.mem_cons_of_mem _ t_416)) (fun _ h9 => h9) 2 rfl dX2_readRowSize_107 ?_
      refine lv_bipush (v := 93) hx hb dX2_readRowSize_110 (by decide) ?_
      refine g_callv (va_runV (As := [.int 93]) (rest := []) ⟨hx, hb, hml, hown, hts⟩ (r_X8_take_2 l dC dI L kd tys fr_18 H.size g.2.2.2.1 q0_ mq0_ kq0_ 93 1201 kb_1201 x_15 h_16 (g.fcts [0, 1] rfl)) (cwV 1 hts (gV_ t_1098 t_1099 t_1100 t_184 t_1101) rfl rfl rfl (by decide +kernel) ⟨(Nat.le_of_ble_eq_true rfl), (Nat.le_of_ble_eq_true rfl)⟩) (pre3V g hK mq0_ kq0_ (by decide) (q := (RX8, TX8, 10)) rfl) rfl rfl hl.1 rfl (lv_room (Nat.le_of_ble_eq_true rfl)) dX2_readRowSize_112 ⟨(Nat.le_of_ble_eq_true rfl), (Nat.le_of_ble_eq_true rfl)⟩) g hK (by decide) (by decide) (fx' := [(8, 8, q0_, .int x_15), (2, 0, a0_, .ref q0_), (2, 4, a0_, .ref q1_)]) rfl (fun fr_19 H locs hp hMr_19 g => ?_)
      obtain ⟨x_20, h_21, hF_22⟩ := hp
      have g := g.more hF_22
      refine lv_iload_n hx hb dX2_readRowSize_115 rfl (lv_at hl 0 rfl) ?_
      subst hQ
      exact W.iret (v := y_8) hx hb hr (fun t ht hW => ⟨⟨_, _, rfl, Or.inr (Or.inr (Or.inr (Or.inr (Or.inr (Or.inr (Or.inr (Or.inr (Or.inr (Or.inr (Or.inr (Or.inr (Or.inr (Or.inr (Or.inr (Or.inr (⟨x_20, h_21, x_15, h_16, (g.fcts [0, 1] rfl)⟩)))))))))))))))), q3_of g hK ht hW⟩, g.2.2.1.F ht⟩) g.2.2.1.2.2 dX2_readRowSize_116
    · have fc_12 := nlt_f c_12
      have b_23 : bd 1 2147483647 y_8 := leR fc_12 kb_1 (bdT y_8) (by decide)
      refine lv_iload_n hx hb dX2_readRowSize_58 rfl (lv_at hl 0 rfl) ?_
      refine lv_bipush (v := 8) hx hb dX2_readRowSize_59 (by decide) ?_
      have kb_8 : bd 8 8 (8 : Int32) := ⟨by decide, by decide⟩
      refine lv_icmp_le (tgt := 76) hx hb dX2_readRowSize_61 (by decide) (fun c_24 => ?_) (fun c_24 => ?_)
      · have fc_24 := le_f c_24
        have b_25 : bd 1 8 y_8 := leL fc_24 b_23 kb_8 (by decide)
        rcases sp8_ b_25 with rfl | rfl | rfl | rfl | rfl | rfl | rfl | rfl
        · refine lv_aload_n hx hb dX2_readRowSize_76 rfl (lv_at hl 2 rfl) ?_
          refine g_getk (C := RX2) (T := TX2) (N := 16) hx hb hts (mc_ inX2) hown hK g rfl 4 (by decide) rfl (hts _ (List.mem_cons_of_mem _ t_420)) (fun _ h9 => h9) 2 rfl dX2_readRowSize_77 ?_
          refine g_geti (C := RX9) (T := TX9) (N := 13) hx hb hts (mc_ inX9) hown hK g mq1_ kq1_ (by decide) rfl 7 (by decide) rfl (hts _ (List.mem_cons_of_mem _ t_496)) (fun _ h9 => h9) rfl dX2_readRowSize_80 (fun x_26 bx_26 g => ?_)
          refine lv_iload_n hx hb dX2_readRowSize_83 rfl (lv_at hl 0 rfl) ?_
          refine lv_iadd hx hb dX2_readRowSize_84 ?_
          refine lv_topi (fun y_27 ey_27 => ?_)
          have ty_27 := add_bd ey_27 bx_26 kb_1 (by decide)
          have b_28 : bd 1 25 y_27 := add_rg ty_27 bx_26 kb_1 (by decide)
          refine lv_bipush (v := 24) hx hb dX2_readRowSize_85 (by decide) ?_
          have kb_24 : bd 24 24 (24 : Int32) := ⟨by decide, by decide⟩
          refine lv_icmp_le (tgt := 99) hx hb dX2_readRowSize_87 (by decide) (fun c_29 => ?_) (fun c_29 => ?_)
          · have fc_29 := le_f c_29
            have b_30 : bd 1 24 y_27 := leL fc_29 b_28 kb_24 (by decide)
            have b_31 : bd 0 23 x_26 := add_inv ty_27 b_30 bx_26 kb_1 (by decide)
            refine lv_aload_n hx hb dX2_readRowSize_99 rfl (lv_at hl 2 rfl) ?_
            refine g_getk (C := RX2) (T := TX2) (N := 16) hx hb hts (mc_ inX2) hown hK g rfl 0 (by decide) rfl (hts _ (List.mem_cons_of_mem _ t_416)) (fun _ h9 => h9) 2 rfl dX2_readRowSize_100 ?_
            refine g_callv (va_runV (As := []) (rest := []) ⟨hx, hb, hml, hown, hts⟩ (r_X8_next l dC dI L kd tys fr_9 H.size g.2.2.2.1 q0_ mq0_ kq0_) (cwV 0 hts (gV_ t_1131 t_1103 t_1104 t_184 t_1105) rfl rfl rfl (by decide +kernel) ⟨(Nat.le_of_ble_eq_true rfl), (Nat.le_of_ble_eq_true rfl)⟩) (pre3V g hK mq0_ kq0_ (by decide) (q := (RX8, TX8, 10)) rfl) rfl rfl hl.1 rfl (lv_room (Nat.le_of_ble_eq_true rfl)) dX2_readRowSize_103 ⟨(Nat.le_of_ble_eq_true rfl), (Nat.le_of_ble_eq_true rfl)⟩) g hK (by decide) (by decide) (fx' := [(9, 7, q1_, .int x_26), (2, 0, a0_, .ref q0_), (2, 4, a0_, .ref q1_), (8, 8, q0_, .int y0_)]) rfl (fun fr_32 H locs hp hMr_32 g => ?_)
            obtain ⟨x_33, h_34, hF_35⟩ := hp
            have g := g.more hF_35
            refine lv_aload_n hx hb dX2_readRowSize_106 rfl (lv_at hl 2 rfl) ?_
            refine g_getk (C := RX2) (T := TX2) (N := 16) hx hb hts (mc_ inX2) hown hK g rfl 0 (by decide) rfl (hts _ (List.mem_cons_of_mem _ t_416)) (fun _ h9 => h9) 2 rfl dX2_readRowSize_107 ?_
            refine lv_bipush (v := 93) hx hb dX2_readRowSize_110 (by decide) ?_
            refine g_callv (va_runV (As := [.int 93]) (rest := []) ⟨hx, hb, hml, hown, hts⟩ (r_X8_take l dC dI L kd tys fr_32 H.size g.2.2.2.1 q0_ mq0_ kq0_ 93 y0_ by0_ (g.fcts [4] rfl)) (cwV 1 hts (gV_ t_1098 t_1099 t_1100 t_184 t_1101) rfl rfl rfl (by decide +kernel) ⟨(Nat.le_of_ble_eq_true rfl), (Nat.le_of_ble_eq_true rfl)⟩) (pre3V g hK mq0_ kq0_ (by decide) (q := (RX8, TX8, 10)) rfl) rfl rfl hl.1 rfl (lv_room (Nat.le_of_ble_eq_true rfl)) dX2_readRowSize_112 ⟨(Nat.le_of_ble_eq_true rfl), (Nat.le_of_ble_eq_true rfl)⟩) g hK (by decide) (by decide) (fx' := [(9, 7, q1_, .int x_26), (2, 0, a0_, .ref q0_), (2, 4, a0_, .ref q1_)]) rfl (fun fr_36 H locs hp hMr_36 g => ?_)
            rcases hp with ⟨x_37, h_38, x_39, h_40, hF_41⟩ | ⟨x_42, h_43, hF_44⟩
            · have g := g.more hF_41
              refine lv_iload_n hx hb dX2_readRowSize_115 rfl (lv_at hl 0 rfl) ?_
              subst hQ
              exact W.iret (v := 1) hx hb hr (fun t ht hW => ⟨⟨_, _, rfl, Or.inl ⟨rfl, x_37, h_38, x_39, h_40, x_26, b_31, (g.fcts [0, 1, 2] rfl)⟩, q3_of g hK ht hW⟩, g.2.2.1.F ht⟩) g.2.2.1.2.2 dX2_readRowSize_116
            · have g := g.more hF_44
              refine lv_iload_n hx hb dX2_readRowSize_115 rfl (lv_at hl 0 rfl) ?_
              have kb_1201 : bd 1201 1201 (1201 : Int32) := ⟨by decide, by decide⟩
              subst hQ
              exact W.iret (v := 1) hx hb hr (fun t ht hW => ⟨⟨_, _, rfl, Or.inr (Or.inl ⟨rfl, 1201, kb_1201, x_42, h_43, (g.fcts [0, 1] rfl)⟩), q3_of g hK ht hW⟩, g.2.2.1.F ht⟩) g.2.2.1.2.2 dX2_readRowSize_116
          · have fc_29 := nle_f c_29
            have b_45 : bd 25 25 y_27 := ltR fc_29 kb_24 b_28 (by decide)
            have b_46 : bd 24 24 x_26 := add_inv ty_27 b_45 bx_26 kb_1 (by decide)
            refine lv_aload_n hx hb dX2_readRowSize_90 rfl (lv_at hl 2 rfl) ?_
            refine g_getk (C := RX2) (T := TX2) (N := 16) hx hb hts (mc_ inX2) hown hK g rfl 0 (by decide) rfl (hts _ (List.mem_cons_of_mem _ t_416)) (fun _ h9 => h9) 2 rfl dX2_readRowSize_91 ?_
            refine lv_iconst (v := 4) hx hb dX2_readRowSize_94 (by decide) ?_
            refine lv_iload_n hx hb dX2_readRowSize_95 rfl (lv_at hl 1 rfl) ?_
            refine g_callv (va_runV (As := [.int 4, .int r_5]) (rest := []) ⟨hx, hb, hml, hown, hts⟩ (r_X8_fail l dC dI L kd tys fr_9 H.size g.2.2.2.1 q0_ mq0_ kq0_ 4 (bd_sub kb_4 (by decide)) r_5 y0_ by0_ (g.fcts [4] rfl)) (cwV 2 hts (gV_ t_1122 t_1107 t_1108 t_184 t_1109) rfl rfl rfl (by decide +kernel) ⟨(Nat.le_of_ble_eq_true rfl), (Nat.le_of_ble_eq_true rfl)⟩) (pre3V g hK mq0_ kq0_ (by decide) (q := (RX8, TX8, 10)) rfl) rfl rfl hl.1 rfl (lv_room (Nat.le_of_ble_eq_true rfl)) dX2_readRowSize_96 ⟨(Nat.le_of_ble_eq_true rfl), (Nat.le_of_ble_eq_true rfl)⟩) g hK (by decide) (by decide) (fx' := [(9, 7, q1_, .int x_26), (2, 0, a0_, .ref q0_), (2, 4, a0_, .ref q1_)]) rfl (fun fr_47 H locs hp hMr_47 g => ?_)
            obtain ⟨x_48, h_49, hF_50⟩ := hp
            have g := g.more hF_50
            refine lv_aload_n hx hb dX2_readRowSize_99 rfl (lv_at hl 2 rfl) ?_
            refine g_getk (C := RX2) (T := TX2) (N := 16) hx hb hts (mc_ inX2) hown hK g rfl 0 (by decide) rfl (hts _ (List.mem_cons_of_mem _ t_416)) (fun _ h9 => h9) 3 rfl dX2_readRowSize_100 ?_
            have kb_1201 : bd 1201 1201 (1201 : Int32) := ⟨by decide, by decide⟩
            refine g_callv (va_runV (As := []) (rest := []) ⟨hx, hb, hml, hown, hts⟩ (r_X8_next_2 l dC dI L kd tys fr_47 H.size g.2.2.2.1 q0_ mq0_ kq0_ 1201 kb_1201 (g.fcts [0] rfl)) (cwV 0 hts (gV_ t_1131 t_1103 t_1104 t_184 t_1105) rfl rfl rfl (by decide +kernel) ⟨(Nat.le_of_ble_eq_true rfl), (Nat.le_of_ble_eq_true rfl)⟩) (pre3V g hK mq0_ kq0_ (by decide) (q := (RX8, TX8, 10)) rfl) rfl rfl hl.1 rfl (lv_room (Nat.le_of_ble_eq_true rfl)) dX2_readRowSize_103 ⟨(Nat.le_of_ble_eq_true rfl), (Nat.le_of_ble_eq_true rfl)⟩) g hK (by decide) (by decide) (fx' := [(8, 6, q0_, .int 1201), (8, 8, q0_, .int x_48), (9, 7, q1_, .int x_26), (2, 0, a0_, .ref q0_), (2, 4, a0_, .ref q1_)]) rfl (fun fr_51 H locs hp hMr_51 g => ?_)
            refine lv_aload_n hx hb dX2_readRowSize_106 rfl (lv_at hl 2 rfl) ?_
            refine g_getk (C := RX2) (T := TX2) (N := 16) hx hb hts (mc_ inX2) hown hK g rfl 0 (by decide) rfl (hts _ (List.mem_cons_of_mem _ t_416)) (fun _ h9 => h9) 3 rfl dX2_readRowSize_107 ?_
            refine lv_bipush (v := 93) hx hb dX2_readRowSize_110 (by decide) ?_
            refine g_callv (va_runV (As := [.int 93]) (rest := []) ⟨hx, hb, hml, hown, hts⟩ (r_X8_take_2 l dC dI L kd tys fr_51 H.size g.2.2.2.1 q0_ mq0_ kq0_ 93 1201 kb_1201 x_48 h_49 (g.fcts [0, 1] rfl)) (cwV 1 hts (gV_ t_1098 t_1099 t_1100 t_184 t_1101) rfl rfl rfl (by decide +kernel) ⟨(Nat.le_of_ble_eq_true rfl), (Nat.le_of_ble_eq_true rfl)⟩) (pre3V g hK mq0_ kq0_ (by decide) (q := (RX8, TX8, 10)) rfl) rfl rfl hl.1 rfl (lv_room (Nat.le_of_ble_eq_true rfl)) dX2_readRowSize_112 ⟨(Nat.le_of_ble_eq_true rfl), (Nat.le_of_ble_eq_true rfl)⟩) g hK (by decide) (by decide) (fx' := [(8, 8, q0_, .int x_48), (9, 7, q1_, .int x_26), (2, 0, a0_, .ref q0_), (2, 4, a0_, .ref q1_)]) rfl (fun fr_52 H locs hp hMr_52 g => ?_)
            obtain ⟨x_53, h_54, hF_55⟩ := hp
            have g := g.more hF_55
            refine lv_iload_n hx hb dX2_readRowSize_115 rfl (lv_at hl 0 rfl) ?_
            subst hQ
            exact W.iret (v := 1) hx hb hr (fun t ht hW => ⟨⟨_, _, rfl, Or.inr (Or.inl ⟨rfl, x_53, h_54, x_48, h_49, (g.fcts [0, 1] rfl)⟩), q3_of g hK ht hW⟩, g.2.2.1.F ht⟩) g.2.2.1.2.2 dX2_readRowSize_116
        · refine lv_aload_n hx hb dX2_readRowSize_76 rfl (lv_at hl 2 rfl) ?_
          refine g_getk (C := RX2) (T := TX2) (N := 16) hx hb hts (mc_ inX2) hown hK g rfl 4 (by decide) rfl (hts _ (List.mem_cons_of_mem _ t_420)) (fun _ h9 => h9) 2 rfl dX2_readRowSize_77 ?_
          refine g_geti (C := RX9) (T := TX9) (N := 13) hx hb hts (mc_ inX9) hown hK g mq1_ kq1_ (by decide) rfl 7 (by decide) rfl (hts _ (List.mem_cons_of_mem _ t_496)) (fun _ h9 => h9) rfl dX2_readRowSize_80 (fun x_56 bx_56 g => ?_)
          refine lv_iload_n hx hb dX2_readRowSize_83 rfl (lv_at hl 0 rfl) ?_
          have kb_2 : bd 2 2 (2 : Int32) := ⟨by decide, by decide⟩
          refine lv_iadd hx hb dX2_readRowSize_84 ?_
          refine lv_topi (fun y_57 ey_57 => ?_)
          have ty_57 := add_bd ey_57 bx_56 kb_2 (by decide)
          have b_58 : bd 2 26 y_57 := add_rg ty_57 bx_56 kb_2 (by decide)
          refine lv_bipush (v := 24) hx hb dX2_readRowSize_85 (by decide) ?_
          have kb_24 : bd 24 24 (24 : Int32) := ⟨by decide, by decide⟩
          refine lv_icmp_le (tgt := 99) hx hb dX2_readRowSize_87 (by decide) (fun c_59 => ?_) (fun c_59 => ?_)
          · have fc_59 := le_f c_59
            have b_60 : bd 2 24 y_57 := leL fc_59 b_58 kb_24 (by decide)
            have b_61 : bd 0 22 x_56 := add_inv ty_57 b_60 bx_56 kb_2 (by decide)
            refine lv_aload_n hx hb dX2_readRowSize_99 rfl (lv_at hl 2 rfl) ?_
            refine g_getk (C := RX2) (T := TX2) (N := 16) hx hb hts (mc_ inX2) hown hK g rfl 0 (by decide) rfl (hts _ (List.mem_cons_of_mem _ t_416)) (fun _ h9 => h9) 2 rfl dX2_readRowSize_100 ?_
            refine g_callv (va_runV (As := []) (rest := []) ⟨hx, hb, hml, hown, hts⟩ (r_X8_next l dC dI L kd tys fr_9 H.size g.2.2.2.1 q0_ mq0_ kq0_) (cwV 0 hts (gV_ t_1131 t_1103 t_1104 t_184 t_1105) rfl rfl rfl (by decide +kernel) ⟨(Nat.le_of_ble_eq_true rfl), (Nat.le_of_ble_eq_true rfl)⟩) (pre3V g hK mq0_ kq0_ (by decide) (q := (RX8, TX8, 10)) rfl) rfl rfl hl.1 rfl (lv_room (Nat.le_of_ble_eq_true rfl)) dX2_readRowSize_103 ⟨(Nat.le_of_ble_eq_true rfl), (Nat.le_of_ble_eq_true rfl)⟩) g hK (by decide) (by decide) (fx' := [(9, 7, q1_, .int x_56), (2, 0, a0_, .ref q0_), (2, 4, a0_, .ref q1_), (8, 8, q0_, .int y0_)]) rfl (fun fr_62 H locs hp hMr_62 g => ?_)
            obtain ⟨x_63, h_64, hF_65⟩ := hp
            have g := g.more hF_65
            refine lv_aload_n hx hb dX2_readRowSize_106 rfl (lv_at hl 2 rfl) ?_
            refine g_getk (C := RX2) (T := TX2) (N := 16) hx hb hts (mc_ inX2) hown hK g rfl 0 (by decide) rfl (hts _ (List.mem_cons_of_mem _ t_416)) (fun _ h9 => h9) 2 rfl dX2_readRowSize_107 ?_
            refine lv_bipush (v := 93) hx hb dX2_readRowSize_110 (by decide) ?_
            refine g_callv (va_runV (As := [.int 93]) (rest := []) ⟨hx, hb, hml, hown, hts⟩ (r_X8_take l dC dI L kd tys fr_62 H.size g.2.2.2.1 q0_ mq0_ kq0_ 93 y0_ by0_ (g.fcts [4] rfl)) (cwV 1 hts (gV_ t_1098 t_1099 t_1100 t_184 t_1101) rfl rfl rfl (by decide +kernel) ⟨(Nat.le_of_ble_eq_true rfl), (Nat.le_of_ble_eq_true rfl)⟩) (pre3V g hK mq0_ kq0_ (by decide) (q := (RX8, TX8, 10)) rfl) rfl rfl hl.1 rfl (lv_room (Nat.le_of_ble_eq_true rfl)) dX2_readRowSize_112 ⟨(Nat.le_of_ble_eq_true rfl), (Nat.le_of_ble_eq_true rfl)⟩) g hK (by decide) (by decide) (fx' := [(9, 7, q1_, .int x_56), (2, 0, a0_, .ref q0_), (2, 4, a0_, .ref q1_)]) rfl (fun fr_66 H locs hp hMr_66 g => ?_)
            rcases hp with ⟨x_67, h_68, x_69, h_70, hF_71⟩ | ⟨x_72, h_73, hF_74⟩
            · have g := g.more hF_71
              refine lv_iload_n hx hb dX2_readRowSize_115 rfl (lv_at hl 0 rfl) ?_
              subst hQ
              exact W.iret (v := 2) hx hb hr (fun t ht hW => ⟨⟨_, _, rfl, Or.inr (Or.inr (Or.inl ⟨rfl, x_67, h_68, x_69, h_70, x_56, b_61, (g.fcts [0, 1, 2] rfl)⟩)), q3_of g hK ht hW⟩, g.2.2.1.F ht⟩) g.2.2.1.2.2 dX2_readRowSize_116
            · have g := g.more hF_74
              refine lv_iload_n hx hb dX2_readRowSize_115 rfl (lv_at hl 0 rfl) ?_
              have kb_1201 : bd 1201 1201 (1201 : Int32) := ⟨by decide, by decide⟩
              subst hQ
              exact W.iret (v := 2) hx hb hr (fun t ht hW => ⟨⟨_, _, rfl, Or.inr (Or.inr (Or.inr (Or.inl ⟨rfl, 1201, kb_1201, x_72, h_73, (g.fcts [0, 1] rfl)⟩))), q3_of g hK ht hW⟩, g.2.2.1.F ht⟩) g.2.2.1.2.2 dX2_readRowSize_116
          · have fc_59 := nle_f c_59
            have b_75 : bd 25 26 y_57 := ltR fc_59 kb_24 b_58 (by decide)
            have b_76 : bd 23 24 x_56 := add_inv ty_57 b_75 bx_56 kb_2 (by decide)
            refine lv_aload_n hx hb dX2_readRowSize_90 rfl (lv_at hl 2 rfl) ?_
            refine g_getk (C := RX2) (T := TX2) (N := 16) hx hb hts (mc_ inX2) hown hK g rfl 0 (by decide) rfl (hts _ (List.mem_cons_of_mem _ t_416)) (fun _ h9 => h9) 2 rfl dX2_readRowSize_91 ?_
            refine lv_iconst (v := 4) hx hb dX2_readRowSize_94 (by decide) ?_
            refine lv_iload_n hx hb dX2_readRowSize_95 rfl (lv_at hl 1 rfl) ?_
            refine g_callv (va_runV (As := [.int 4, .int r_5]) (rest := []) ⟨hx, hb, hml, hown, hts⟩ (r_X8_fail l dC dI L kd tys fr_9 H.size g.2.2.2.1 q0_ mq0_ kq0_ 4 (bd_sub kb_4 (by decide)) r_5 y0_ by0_ (g.fcts [4] rfl)) (cwV 2 hts (gV_ t_1122 t_1107 t_1108 t_184 t_1109) rfl rfl rfl (by decide +kernel) ⟨(Nat.le_of_ble_eq_true rfl), (Nat.le_of_ble_eq_true rfl)⟩) (pre3V g hK mq0_ kq0_ (by decide) (q := (RX8, TX8, 10)) rfl) rfl rfl hl.1 rfl (lv_room (Nat.le_of_ble_eq_true rfl)) dX2_readRowSize_96 ⟨(Nat.le_of_ble_eq_true rfl), (Nat.le_of_ble_eq_true rfl)⟩) g hK (by decide) (by decide) (fx' := [(9, 7, q1_, .int x_56), (2, 0, a0_, .ref q0_), (2, 4, a0_, .ref q1_)]) rfl (fun fr_77 H locs hp hMr_77 g => ?_)
            obtain ⟨x_78, h_79, hF_80⟩ := hp
            have g := g.more hF_80
            refine lv_aload_n hx hb dX2_readRowSize_99 rfl (lv_at hl 2 rfl) ?_
            refine g_getk (C := RX2) (T := TX2) (N := 16) hx hb hts (mc_ inX2) hown hK g rfl 0 (by decide) rfl (hts _ (List.mem_cons_of_mem _ t_416)) (fun _ h9 => h9) 3 rfl dX2_readRowSize_100 ?_
            have kb_1201 : bd 1201 1201 (1201 : Int32) := ⟨by decide, by decide⟩
            refine g_callv (va_runV (As := []) (rest := []) ⟨hx, hb, hml, hown, hts⟩ (r_X8_next_2 l dC dI L kd tys fr_77 H.size g.2.2.2.1 q0_ mq0_ kq0_ 1201 kb_1201 (g.fcts [0] rfl)) (cwV 0 hts (gV_ t_1131 t_1103 t_1104 t_184 t_1105) rfl rfl rfl (by decide +kernel) ⟨(Nat.le_of_ble_eq_true rfl), (Nat.le_of_ble_eq_true rfl)⟩) (pre3V g hK mq0_ kq0_ (by decide) (q := (RX8, TX8, 10)) rfl) rfl rfl hl.1 rfl (lv_room (Nat.le_of_ble_eq_true rfl)) dX2_readRowSize_103 ⟨(Nat.le_of_ble_eq_true rfl), (Nat.le_of_ble_eq_true rfl)⟩) g hK (by decide) (by decide) (fx' := [(8, 6, q0_, .int 1201), (8, 8, q0_, .int x_78), (9, 7, q1_, .int x_56), (2, 0, a0_, .ref q0_), (2, 4, a0_, .ref q1_)]) rfl (fun fr_81 H locs hp hMr_81 g => ?_)
            refine lv_aload_n hx hb dX2_readRowSize_106 rfl (lv_at hl 2 rfl) ?_
            refine g_getk (C := RX2) (T := TX2) (N := 16) hx hb hts (mc_ inX2) hown hK g rfl 0 (by decide) rfl (hts _ (List.mem_cons_of_mem _ t_416)) (fun _ h9 => h9) 3 rfl dX2_readRowSize_107 ?_
            refine lv_bipush (v := 93) hx hb dX2_readRowSize_110 (by decide) ?_
            refine g_callv (va_runV (As := [.int 93]) (rest := []) ⟨hx, hb, hml, hown, hts⟩ (r_X8_take_2 l dC dI L kd tys fr_81 H.size g.2.2.2.1 q0_ mq0_ kq0_ 93 1201 kb_1201 x_78 h_79 (g.fcts [0, 1] rfl)) (cwV 1 hts (gV_ t_1098 t_1099 t_1100 t_184 t_1101) rfl rfl rfl (by decide +kernel) ⟨(Nat.le_of_ble_eq_true rfl), (Nat.le_of_ble_eq_true rfl)⟩) (pre3V g hK mq0_ kq0_ (by decide) (q := (RX8, TX8, 10)) rfl) rfl rfl hl.1 rfl (lv_room (Nat.le_of_ble_eq_true rfl)) dX2_readRowSize_112 ⟨(Nat.le_of_ble_eq_true rfl), (Nat.le_of_ble_eq_true rfl)⟩) g hK (by decide) (by decide) (fx' := [(8, 8, q0_, .int x_78), (9, 7, q1_, .int x_56), (2, 0, a0_, .ref q0_), (2, 4, a0_, .ref q1_)]) rfl (fun fr_82 H locs hp hMr_82 g => ?_)
            obtain ⟨x_83, h_84, hF_85⟩ := hp
            have g := g.more hF_85
            refine lv_iload_n hx hb dX2_readRowSize_115 rfl (lv_at hl 0 rfl) ?_
            subst hQ
            exact W.iret (v := 2) hx hb hr (fun t ht hW => ⟨⟨_, _, rfl, Or.inr (Or.inr (Or.inr (Or.inl ⟨rfl, x_83, h_84, x_78, h_79, (g.fcts [0, 1] rfl)⟩))), q3_of g hK ht hW⟩, g.2.2.1.F ht⟩) g.2.2.1.2.2 dX2_readRowSize_116
        · refine lv_aload_n hx hb dX2_readRowSize_76 rfl (lv_at hl 2 rfl) ?_
          refine g_getk (C := RX2) (T := TX2) (N := 16) hx hb hts (mc_ inX2) hown hK g rfl 4 (by decide) rfl (hts _ (List.mem_cons_of_mem _ t_420)) (fun _ h9 => h9) 2 rfl dX2_readRowSize_77 ?_
          refine g_geti (C := RX9) (T := TX9) (N := 13) hx hb hts (mc_ inX9) hown hK g mq1_ kq1_ (by decide) rfl 7 (by decide) rfl (hts _ (List.mem_cons_of_mem _ t_496)) (fun _ h9 => h9) rfl dX2_readRowSize_80 (fun x_86 bx_86 g => ?_)
          refine lv_iload_n hx hb dX2_readRowSize_83 rfl (lv_at hl 0 rfl) ?_
          have kb_3 : bd 3 3 (3 : Int32) := ⟨by decide, by decide⟩
          refine lv_iadd hx hb dX2_readRowSize_84 ?_
          refine lv_topi (fun y_87 ey_87 => ?_)
          have ty_87 := add_bd ey_87 bx_86 kb_3 (by decide)
          have b_88 : bd 3 27 y_87 := add_rg ty_87 bx_86 kb_3 (by decide)
          refine lv_bipush (v := 24) hx hb dX2_readRowSize_85 (by decide) ?_
          have kb_24 : bd 24 24 (24 : Int32) := ⟨by decide, by decide⟩
          refine lv_icmp_le (tgt := 99) hx hb dX2_readRowSize_87 (by decide) (fun c_89 => ?_) (fun c_89 => ?_)
          · have fc_89 := le_f c_89
            have b_90 : bd 3 24 y_87 := leL fc_89 b_88 kb_24 (by decide)
            have b_91 : bd 0 21 x_86 := add_inv ty_87 b_90 bx_86 kb_3 (by decide)
            refine lv_aload_n hx hb dX2_readRowSize_99 rfl (lv_at hl 2 rfl) ?_
            refine g_getk (C := RX2) (T := TX2) (N := 16) hx hb hts (mc_ inX2) hown hK g rfl 0 (by decide) rfl (hts _ (List.mem_cons_of_mem _ t_416)) (fun _ h9 => h9) 2 rfl dX2_readRowSize_100 ?_
            refine g_callv (va_runV (As := []) (rest := []) ⟨hx, hb, hml, hown, hts⟩ (r_X8_next l dC dI L kd tys fr_9 H.size g.2.2.2.1 q0_ mq0_ kq0_) (cwV 0 hts (gV_ t_1131 t_1103 t_1104 t_184 t_1105) rfl rfl rfl (by decide +kernel) ⟨(Nat.le_of_ble_eq_true rfl), (Nat.le_of_ble_eq_true rfl)⟩) (pre3V g hK mq0_ kq0_ (by decide) (q := (RX8, TX8, 10)) rfl) rfl rfl hl.1 rfl (lv_room (Nat.le_of_ble_eq_true rfl)) dX2_readRowSize_103 ⟨(Nat.le_of_ble_eq_true rfl), (Nat.le_of_ble_eq_true rfl)⟩) g hK (by decide) (by decide) (fx' := [(9, 7, q1_, .int x_86), (2, 0, a0_, .ref q0_), (2, 4, a0_, .ref q1_), (8, 8, q0_, .int y0_)]) rfl (fun fr_92 H locs hp hMr_92 g => ?_)
            obtain ⟨x_93, h_94, hF_95⟩ := hp
            have g := g.more hF_95
            refine lv_aload_n hx hb dX2_readRowSize_106 rfl (lv_at hl 2 rfl) ?_
            refine g_getk (C := RX2) (T := TX2) (N := 16) hx hb hts (mc_ inX2) hown hK g rfl 0 (by decide) rfl (hts _ (List.mem_cons_of_mem _ t_416)) (fun _ h9 => h9) 2 rfl dX2_readRowSize_107 ?_
            refine lv_bipush (v := 93) hx hb dX2_readRowSize_110 (by decide) ?_
            refine g_callv (va_runV (As := [.int 93]) (rest := []) ⟨hx, hb, hml, hown, hts⟩ (r_X8_take l dC dI L kd tys fr_92 H.size g.2.2.2.1 q0_ mq0_ kq0_ 93 y0_ by0_ (g.fcts [4] rfl)) (cwV 1 hts (gV_ t_1098 t_1099 t_1100 t_184 t_1101) rfl rfl rfl (by decide +kernel) ⟨(Nat.le_of_ble_eq_true rfl), (Nat.le_of_ble_eq_true rfl)⟩) (pre3V g hK mq0_ kq0_ (by decide) (q := (RX8, TX8, 10)) rfl) rfl rfl hl.1 rfl (lv_room (Nat.le_of_ble_eq_true rfl)) dX2_readRowSize_112 ⟨(Nat.le_of_ble_eq_true rfl), (Nat.le_of_ble_eq_true rfl)⟩) g hK (by decide) (by decide) (fx' := [(9, 7, q1_, .int x_86), (2, 0, a0_, .ref q0_), (2, 4, a0_, .ref q1_)]) rfl (fun fr_96 H locs hp hMr_96 g => ?_)
            rcases hp with ⟨x_97, h_98, x_99, h_100, hF_101⟩ | ⟨x_102, h_103, hF_104⟩
            · have g := g.more hF_101
              refine lv_iload_n hx hb dX2_readRowSize_115 rfl (lv_at hl 0 rfl) ?_
              subst hQ
              exact W.iret (v := 3) hx hb hr (fun t ht hW => ⟨⟨_, _, rfl, Or.inr (Or.inr (Or.inr (Or.inr (Or.inl ⟨rfl, x_97, h_98, x_99, h_100, x_86, b_91, (g.fcts [0, 1, 2] rfl)⟩)))), q3_of g hK ht hW⟩, g.2.2.1.F ht⟩) g.2.2.1.2.2 dX2_readRowSize_116
            · have g := g.more hF_104
              refine lv_iload_n hx hb dX2_readRowSize_115 rfl (lv_at hl 0 rfl) ?_
              have kb_1201 : bd 1201 1201 (1201 : Int32) := ⟨by decide, by decide⟩
              subst hQ
              exact W.iret (v := 3) hx hb hr (fun t ht hW => ⟨⟨_, _, rfl, Or.inr (Or.inr (Or.inr (Or.inr (Or.inr (Or.inl ⟨rfl, 1201, kb_1201, x_102, h_103, (g.fcts [0, 1] rfl)⟩))))), q3_of g hK ht hW⟩, g.2.2.1.F ht⟩) g.2.2.1.2.2 dX2_readRowSize_116
          · have fc_89 := nle_f c_89
            have b_105 : bd 25 27 y_87 := ltR fc_89 kb_24 b_88 (by decide)
            have b_106 : bd 22 24 x_86 := add_inv ty_87 b_105 bx_86 kb_3 (by decide)
            refine lv_aload_n hx hb dX2_readRowSize_90 rfl (lv_at hl 2 rfl) ?_
            refine g_getk (C := RX2) (T := TX2) (N := 16) hx hb hts (mc_ inX2) hown hK g rfl 0 (by decide) rfl (hts _ (List.mem_cons_of_mem _ t_416)) (fun _ h9 => h9) 2 rfl dX2_readRowSize_91 ?_
            refine lv_iconst (v := 4) hx hb dX2_readRowSize_94 (by decide) ?_
            refine lv_iload_n hx hb dX2_readRowSize_95 rfl (lv_at hl 1 rfl) ?_
            refine g_callv (va_runV (As := [.int 4, .int r_5]) (rest := []) ⟨hx, hb, hml, hown, hts⟩ (r_X8_fail l dC dI L kd tys fr_9 H.size g.2.2.2.1 q0_ mq0_ kq0_ 4 (bd_sub kb_4 (by decide)) r_5 y0_ by0_ (g.fcts [4] rfl)) (cwV 2 hts (gV_ t_1122 t_1107 t_1108 t_184 t_1109) rfl rfl rfl (by decide +kernel) ⟨(Nat.le_of_ble_eq_true rfl), (Nat.le_of_ble_eq_true rfl)⟩) (pre3V g hK mq0_ kq0_ (by decide) (q := (RX8, TX8, 10)) rfl) rfl rfl hl.1 rfl (lv_room (Nat.le_of_ble_eq_true rfl)) dX2_readRowSize_96 ⟨(Nat.le_of_ble_eq_true rfl), (Nat.le_of_ble_eq_true rfl)⟩) g hK (by decide) (by decide) (fx' := [(9, 7, q1_, .int x_86), (2, 0, a0_, .ref q0_), (2, 4, a0_, .ref q1_)]) rfl (fun fr_107 H locs hp hMr_107 g => ?_)
            obtain ⟨x_108, h_109, hF_110⟩ := hp
            have g := g.more hF_110
            refine lv_aload_n hx hb dX2_readRowSize_99 rfl (lv_at hl 2 rfl) ?_
            refine g_getk (C := RX2) (T := TX2) (N := 16) hx hb hts (mc_ inX2) hown hK g rfl 0 (by decide) rfl (hts _ (List.mem_cons_of_mem _ t_416)) (fun _ h9 => h9) 3 rfl dX2_readRowSize_100 ?_
            have kb_1201 : bd 1201 1201 (1201 : Int32) := ⟨by decide, by decide⟩
            refine g_callv (va_runV (As := []) (rest := []) ⟨hx, hb, hml, hown, hts⟩ (r_X8_next_2 l dC dI L kd tys fr_107 H.size g.2.2.2.1 q0_ mq0_ kq0_ 1201 kb_1201 (g.fcts [0] rfl)) (cwV 0 hts (gV_ t_1131 t_1103 t_1104 t_184 t_1105) rfl rfl rfl (by decide +kernel) ⟨(Nat.le_of_ble_eq_true rfl), (Nat.le_of_ble_eq_true rfl)⟩) (pre3V g hK mq0_ kq0_ (by decide) (q := (RX8, TX8, 10)) rfl) rfl rfl hl.1 rfl (lv_room (Nat.le_of_ble_eq_true rfl)) dX2_readRowSize_103 ⟨(Nat.le_of_ble_eq_true rfl), (Nat.le_of_ble_eq_true rfl)⟩) g hK (by decide) (by decide) (fx' := [(8, 6, q0_, .int 1201), (8, 8, q0_, .int x_108), (9, 7, q1_, .int x_86), (2, 0, a0_, .ref q0_), (2, 4, a0_, .ref q1_)]) rfl (fun fr_111 H locs hp hMr_111 g => ?_)
            refine lv_aload_n hx hb dX2_readRowSize_106 rfl (lv_at hl 2 rfl) ?_
            refine g_getk (C := RX2) (T := TX2) (N := 16) hx hb hts (mc_ inX2) hown hK g rfl 0 (by decide) rfl (hts _ (List.mem_cons_of_mem _ t_416)) (fun _ h9 => h9) 3 rfl dX2_readRowSize_107 ?_
            refine lv_bipush (v := 93) hx hb dX2_readRowSize_110 (by decide) ?_
            refine g_callv (va_runV (As := [.int 93]) (rest := []) ⟨hx, hb, hml, hown, hts⟩ (r_X8_take_2 l dC dI L kd tys fr_111 H.size g.2.2.2.1 q0_ mq0_ kq0_ 93 1201 kb_1201 x_108 h_109 (g.fcts [0, 1] rfl)) (cwV 1 hts (gV_ t_1098 t_1099 t_1100 t_184 t_1101) rfl rfl rfl (by decide +kernel) ⟨(Nat.le_of_ble_eq_true rfl), (Nat.le_of_ble_eq_true rfl)⟩) (pre3V g hK mq0_ kq0_ (by decide) (q := (RX8, TX8, 10)) rfl) rfl rfl hl.1 rfl (lv_room (Nat.le_of_ble_eq_true rfl)) dX2_readRowSize_112 ⟨(Nat.le_of_ble_eq_true rfl), (Nat.le_of_ble_eq_true rfl)⟩) g hK (by decide) (by decide) (fx' := [(8, 8, q0_, .int x_108), (9, 7, q1_, .int x_86), (2, 0, a0_, .ref q0_), (2, 4, a0_, .ref q1_)]) rfl (fun fr_112 H locs hp hMr_112 g => ?_)
            obtain ⟨x_113, h_114, hF_115⟩ := hp
            have g := g.more hF_115
            refine lv_iload_n hx hb dX2_readRowSize_115 rfl (lv_at hl 0 rfl) ?_
            subst hQ
            exact W.iret (v := 3) hx hb hr (fun t ht hW => ⟨⟨_, _, rfl, Or.inr (Or.inr (Or.inr (Or.inr (Or.inr (Or.inl ⟨rfl, x_113, h_114, x_108, h_109, (g.fcts [0, 1] rfl)⟩))))), q3_of g hK ht hW⟩, g.2.2.1.F ht⟩) g.2.2.1.2.2 dX2_readRowSize_116
        · refine lv_aload_n hx hb dX2_readRowSize_76 rfl (lv_at hl 2 rfl) ?_
          refine g_getk (C := RX2) (T := TX2) (N := 16) hx hb hts (mc_ inX2) hown hK g rfl 4 (by decide) rfl (hts _ (List.mem_cons_of_mem _ t_420)) (fun _ h9 => h9) 2 rfl dX2_readRowSize_77 ?_
          refine g_geti (C := RX9) (T := TX9) (N := 13) hx hb hts (mc_ inX9) hown hK g mq1_ kq1_ (by decide) rfl 7 (by decide) rfl (hts _ (List.mem_cons_of_mem _ t_496)) (fun _ h9 => h9) rfl dX2_readRowSize_80 (fun x_116 bx_116 g => ?_)
          refine lv_iload_n hx hb dX2_readRowSize_83 rfl (lv_at hl 0 rfl) ?_
          refine lv_iadd hx hb dX2_readRowSize_84 ?_
          refine lv_topi (fun y_117 ey_117 => ?_)
          have ty_117 := add_bd ey_117 bx_116 kb_4 (by decide)
          have b_118 : bd 4 28 y_117 := add_rg ty_117 bx_116 kb_4 (by decide)
          refine lv_bipush (v := 24) hx hb dX2_readRowSize_85 (by decide) ?_
          have kb_24 : bd 24 24 (24 : Int32) := ⟨by decide, by decide⟩
          refine lv_icmp_le (tgt := 99) hx hb dX2_readRowSize_87 (by decide) (fun c_119 => ?_) (fun c_119 => ?_)
          · have fc_119 := le_f c_119
            have b_120 : bd 4 24 y_117 := leL fc_119 b_118 kb_24 (by decide)
            have b_121 : bd 0 20 x_116 := add_inv ty_117 b_120 bx_116 kb_4 (by decide)
            refine lv_aload_n hx hb dX2_readRowSize_99 rfl (lv_at hl 2 rfl) ?_
            refine g_getk (C := RX2) (T := TX2) (N := 16) hx hb hts (mc_ inX2) hown hK g rfl 0 (by decide) rfl (hts _ (List.mem_cons_of_mem _ t_416)) (fun _ h9 => h9) 2 rfl dX2_readRowSize_100 ?_
            refine g_callv (va_runV (As := []) (rest := []) ⟨hx, hb, hml, hown, hts⟩ (r_X8_next l dC dI L kd tys fr_9 H.size g.2.2.2.1 q0_ mq0_ kq0_) (cwV 0 hts (gV_ t_1131 t_1103 t_1104 t_184 t_1105) rfl rfl rfl (by decide +kernel) ⟨(Nat.le_of_ble_eq_true rfl), (Nat.le_of_ble_eq_true rfl)⟩) (pre3V g hK mq0_ kq0_ (by decide) (q := (RX8, TX8, 10)) rfl) rfl rfl hl.1 rfl (lv_room (Nat.le_of_ble_eq_true rfl)) dX2_readRowSize_103 ⟨(Nat.le_of_ble_eq_true rfl), (Nat.le_of_ble_eq_true rfl)⟩) g hK (by decide) (by decide) (fx' := [(9, 7, q1_, .int x_116), (2, 0, a0_, .ref q0_), (2, 4, a0_, .ref q1_), (8, 8, q0_, .int y0_)]) rfl (fun fr_122 H locs hp hMr_122 g => ?_)
            obtain ⟨x_123, h_124, hF_125⟩ := hp
            have g := g.more hF_125
            refine lv_aload_n hx hb dX2_readRowSize_106 rfl (lv_at hl 2 rfl) ?_
            refine g_getk (C := RX2) (T := TX2) (N := 16) hx hb hts (mc_ inX2) hown hK g rfl 0 (by decide) rfl (hts _ (List.mem_cons_of_mem _ t_416)) (fun _ h9 => h9) 2 rfl dX2_readRowSize_107 ?_
            refine lv_bipush (v := 93) hx hb dX2_readRowSize_110 (by decide) ?_
            refine g_callv (va_runV (As := [.int 93]) (rest := []) ⟨hx, hb, hml, hown, hts⟩ (r_X8_take l dC dI L kd tys fr_122 H.size g.2.2.2.1 q0_ mq0_ kq0_ 93 y0_ by0_ (g.fcts [4] rfl)) (cwV 1 hts (gV_ t_1098 t_1099 t_1100 t_184 t_1101) rfl rfl rfl (by decide +kernel) ⟨(Nat.le_of_ble_eq_true rfl), (Nat.le_of_ble_eq_true rfl)⟩) (pre3V g hK mq0_ kq0_ (by decide) (q := (RX8, TX8, 10)) rfl) rfl rfl hl.1 rfl (lv_room (Nat.le_of_ble_eq_true rfl)) dX2_readRowSize_112 ⟨(Nat.le_of_ble_eq_true rfl), (Nat.le_of_ble_eq_true rfl)⟩) g hK (by decide) (by decide) (fx' := [(9, 7, q1_, .int x_116), (2, 0, a0_, .ref q0_), (2, 4, a0_, .ref q1_)]) rfl (fun fr_126 H locs hp hMr_126 g => ?_)
            rcases hp with ⟨x_127, h_128, x_129, h_130, hF_131⟩ | ⟨x_132, h_133, hF_134⟩
            · have g := g.more hF_131
              refine lv_iload_n hx hb dX2_readRowSize_115 rfl (lv_at hl 0 rfl) ?_
              subst hQ
              exact W.iret (v := 4) hx hb hr (fun t ht hW => ⟨⟨_, _, rfl, Or.inr (Or.inr (Or.inr (Or.inr (Or.inr (Or.inr (Or.inl ⟨rfl, x_127, h_128, x_129, h_130, x_116, b_121, (g.fcts [0, 1, 2] rfl)⟩)))))), q3_of g hK ht hW⟩, g.2.2.1.F ht⟩) g.2.2.1.2.2 dX2_readRowSize_116
            · have g := g.more hF_134
              refine lv_iload_n hx hb dX2_readRowSize_115 rfl (lv_at hl 0 rfl) ?_
              have kb_1201 : bd 1201 1201 (1201 : Int32) := ⟨by decide, by decide⟩
              subst hQ
              exact W.iret (v := 4) hx hb hr (fun t ht hW => ⟨⟨_, _, rfl, Or.inr (Or.inr (Or.inr (Or.inr (Or.inr (Or.inr (Or.inr (Or.inl ⟨rfl, 1201, kb_1201, x_132, h_133, (g.fcts [0, 1] rfl)⟩))))))), q3_of g hK ht hW⟩, g.2.2.1.F ht⟩) g.2.2.1.2.2 dX2_readRowSize_116
          · have fc_119 := nle_f c_119
            have b_135 : bd 25 28 y_117 := ltR fc_119 kb_24 b_118 (by decide)
            have b_136 : bd 21 24 x_116 := add_inv ty_117 b_135 bx_116 kb_4 (by decide)
            refine lv_aload_n hx hb dX2_readRowSize_90 rfl (lv_at hl 2 rfl) ?_
            refine g_getk (C := RX2) (T := TX2) (N := 16) hx hb hts (mc_ inX2) hown hK g rfl 0 (by decide) rfl (hts _ (List.mem_cons_of_mem _ t_416)) (fun _ h9 => h9) 2 rfl dX2_readRowSize_91 ?_
            refine lv_iconst (v := 4) hx hb dX2_readRowSize_94 (by decide) ?_
            refine lv_iload_n hx hb dX2_readRowSize_95 rfl (lv_at hl 1 rfl) ?_
            refine g_callv (va_runV (As := [.int 4, .int r_5]) (rest := []) ⟨hx, hb, hml, hown, hts⟩ (r_X8_fail l dC dI L kd tys fr_9 H.size g.2.2.2.1 q0_ mq0_ kq0_ 4 (bd_sub kb_4 (by decide)) r_5 y0_ by0_ (g.fcts [4] rfl)) (cwV 2 hts (gV_ t_1122 t_1107 t_1108 t_184 t_1109) rfl rfl rfl (by decide +kernel) ⟨(Nat.le_of_ble_eq_true rfl), (Nat.le_of_ble_eq_true rfl)⟩) (pre3V g hK mq0_ kq0_ (by decide) (q := (RX8, TX8, 10)) rfl) rfl rfl hl.1 rfl (lv_room (Nat.le_of_ble_eq_true rfl)) dX2_readRowSize_96 ⟨(Nat.le_of_ble_eq_true rfl), (Nat.le_of_ble_eq_true rfl)⟩) g hK (by decide) (by decide) (fx' := [(9, 7, q1_, .int x_116), (2, 0, a0_, .ref q0_), (2, 4, a0_, .ref q1_)]) rfl (fun fr_137 H locs hp hMr_137 g => ?_)
            obtain ⟨x_138, h_139, hF_140⟩ := hp
            have g := g.more hF_140
            refine lv_aload_n hx hb dX2_readRowSize_99 rfl (lv_at hl 2 rfl) ?_
            refine g_getk (C := RX2) (T := TX2) (N := 16) hx hb hts (mc_ inX2) hown hK g rfl 0 (by decide) rfl (hts _ (List.mem_cons_of_mem _ t_416)) (fun _ h9 => h9) 3 rfl dX2_readRowSize_100 ?_
            have kb_1201 : bd 1201 1201 (1201 : Int32) := ⟨by decide, by decide⟩
            refine g_callv (va_runV (As := []) (rest := []) ⟨hx, hb, hml, hown, hts⟩ (r_X8_next_2 l dC dI L kd tys fr_137 H.size g.2.2.2.1 q0_ mq0_ kq0_ 1201 kb_1201 (g.fcts [0] rfl)) (cwV 0 hts (gV_ t_1131 t_1103 t_1104 t_184 t_1105) rfl rfl rfl (by decide +kernel) ⟨(Nat.le_of_ble_eq_true rfl), (Nat.le_of_ble_eq_true rfl)⟩) (pre3V g hK mq0_ kq0_ (by decide) (q := (RX8, TX8, 10)) rfl) rfl rfl hl.1 rfl (lv_room (Nat.le_of_ble_eq_true rfl)) dX2_readRowSize_103 ⟨(Nat.le_of_ble_eq_true rfl), (Nat.le_of_ble_eq_true rfl)⟩) g hK (by decide) (by decide) (fx' := [(8, 6, q0_, .int 1201), (8, 8, q0_, .int x_138), (9, 7, q1_, .int x_116), (2, 0, a0_, .ref q0_), (2, 4, a0_, .ref q1_)]) rfl (fun fr_141 H locs hp hMr_141 g => ?_)
            refine lv_aload_n hx hb dX2_readRowSize_106 rfl (lv_at hl 2 rfl) ?_
            refine g_getk (C := RX2) (T := TX2) (N := 16) hx hb hts (mc_ inX2) hown hK g rfl 0 (by decide) rfl (hts _ (List.mem_cons_of_mem _ t_416)) (fun _ h9 => h9) 3 rfl dX2_readRowSize_107 ?_
            refine lv_bipush (v := 93) hx hb dX2_readRowSize_110 (by decide) ?_
            refine g_callv (va_runV (As := [.int 93]) (rest := []) ⟨hx, hb, hml, hown, hts⟩ (r_X8_take_2 l dC dI L kd tys fr_141 H.size g.2.2.2.1 q0_ mq0_ kq0_ 93 1201 kb_1201 x_138 h_139 (g.fcts [0, 1] rfl)) (cwV 1 hts (gV_ t_1098 t_1099 t_1100 t_184 t_1101) rfl rfl rfl (by decide +kernel) ⟨(Nat.le_of_ble_eq_true rfl), (Nat.le_of_ble_eq_true rfl)⟩) (pre3V g hK mq0_ kq0_ (by decide) (q := (RX8, TX8, 10)) rfl) rfl rfl hl.1 rfl (lv_room (Nat.le_of_ble_eq_true rfl)) dX2_readRowSize_112 ⟨(Nat.le_of_ble_eq_true rfl), (Nat.le_of_ble_eq_true rfl)⟩) g hK (by decide) (by decide) (fx' := [(8, 8, q0_, .int x_138), (9, 7, q1_, .int x_116), (2, 0, a0_, .ref q0_), (2, 4, a0_, .ref q1_)]) rfl (fun fr_142 H locs hp hMr_142 g => ?_)
            obtain ⟨x_143, h_144, hF_145⟩ := hp
            have g := g.more hF_145
            refine lv_iload_n hx hb dX2_readRowSize_115 rfl (lv_at hl 0 rfl) ?_
            subst hQ
            exact W.iret (v := 4) hx hb hr (fun t ht hW => ⟨⟨_, _, rfl, Or.inr (Or.inr (Or.inr (Or.inr (Or.inr (Or.inr (Or.inr (Or.inl ⟨rfl, x_143, h_144, x_138, h_139, (g.fcts [0, 1] rfl)⟩))))))), q3_of g hK ht hW⟩, g.2.2.1.F ht⟩) g.2.2.1.2.2 dX2_readRowSize_116
        · refine lv_aload_n hx hb dX2_readRowSize_76 rfl (lv_at hl 2 rfl) ?_
          refine g_getk (C := RX2) (T := TX2) (N := 16) hx hb hts (mc_ inX2) hown hK g rfl 4 (by decide) rfl (hts _ (List.mem_cons_of_mem _ t_420)) (fun _ h9 => h9) 2 rfl dX2_readRowSize_77 ?_
          refine g_geti (C := RX9) (T := TX9) (N := 13) hx hb hts (mc_ inX9) hown hK g mq1_ kq1_ (by decide) rfl 7 (by decide) rfl (hts _ (List.mem_cons_of_mem _ t_496)) (fun _ h9 => h9) rfl dX2_readRowSize_80 (fun x_146 bx_146 g => ?_)
          refine lv_iload_n hx hb dX2_readRowSize_83 rfl (lv_at hl 0 rfl) ?_
          have kb_5 : bd 5 5 (5 : Int32) := ⟨by decide, by decide⟩
          refine lv_iadd hx hb dX2_readRowSize_84 ?_
          refine lv_topi (fun y_147 ey_147 => ?_)
          have ty_147 := add_bd ey_147 bx_146 kb_5 (by decide)
          have b_148 : bd 5 29 y_147 := add_rg ty_147 bx_146 kb_5 (by decide)
          refine lv_bipush (v := 24) hx hb dX2_readRowSize_85 (by decide) ?_
          have kb_24 : bd 24 24 (24 : Int32) := ⟨by decide, by decide⟩
          refine lv_icmp_le (tgt := 99) hx hb dX2_readRowSize_87 (by decide) (fun c_149 => ?_) (fun c_149 => ?_)
          · have fc_149 := le_f c_149
            have b_150 : bd 5 24 y_147 := leL fc_149 b_148 kb_24 (by decide)
            have b_151 : bd 0 19 x_146 := add_inv ty_147 b_150 bx_146 kb_5 (by decide)
            refine lv_aload_n hx hb dX2_readRowSize_99 rfl (lv_at hl 2 rfl) ?_
            refine g_getk (C := RX2) (T := TX2) (N := 16) hx hb hts (mc_ inX2) hown hK g rfl 0 (by decide) rfl (hts _ (List.mem_cons_of_mem _ t_416)) (fun _ h9 => h9) 2 rfl dX2_readRowSize_100 ?_
            refine g_callv (va_runV (As := []) (rest := []) ⟨hx, hb, hml, hown, hts⟩ (r_X8_next l dC dI L kd tys fr_9 H.size g.2.2.2.1 q0_ mq0_ kq0_) (cwV 0 hts (gV_ t_1131 t_1103 t_1104 t_184 t_1105) rfl rfl rfl (by decide +kernel) ⟨(Nat.le_of_ble_eq_true rfl), (Nat.le_of_ble_eq_true rfl)⟩) (pre3V g hK mq0_ kq0_ (by decide) (q := (RX8, TX8, 10)) rfl) rfl rfl hl.1 rfl (lv_room (Nat.le_of_ble_eq_true rfl)) dX2_readRowSize_103 ⟨(Nat.le_of_ble_eq_true rfl), (Nat.le_of_ble_eq_true rfl)⟩) g hK (by decide) (by decide) (fx' := [(9, 7, q1_, .int x_146), (2, 0, a0_, .ref q0_), (2, 4, a0_, .ref q1_), (8, 8, q0_, .int y0_)]) rfl (fun fr_152 H locs hp hMr_152 g => ?_)
            obtain ⟨x_153, h_154, hF_155⟩ := hp
            have g := g.more hF_155
            refine lv_aload_n hx hb dX2_readRowSize_106 rfl (lv_at hl 2 rfl) ?_
            refine g_getk (C := RX2) (T := TX2) (N := 16) hx hb hts (mc_ inX2) hown hK g rfl 0 (by decide) rfl (hts _ (List.mem_cons_of_mem _ t_416)) (fun _ h9 => h9) 2 rfl dX2_readRowSize_107 ?_
            refine lv_bipush (v := 93) hx hb dX2_readRowSize_110 (by decide) ?_
            refine g_callv (va_runV (As := [.int 93]) (rest := []) ⟨hx, hb, hml, hown, hts⟩ (r_X8_take l dC dI L kd tys fr_152 H.size g.2.2.2.1 q0_ mq0_ kq0_ 93 y0_ by0_ (g.fcts [4] rfl)) (cwV 1 hts (gV_ t_1098 t_1099 t_1100 t_184 t_1101) rfl rfl rfl (by decide +kernel) ⟨(Nat.le_of_ble_eq_true rfl), (Nat.le_of_ble_eq_true rfl)⟩) (pre3V g hK mq0_ kq0_ (by decide) (q := (RX8, TX8, 10)) rfl) rfl rfl hl.1 rfl (lv_room (Nat.le_of_ble_eq_true rfl)) dX2_readRowSize_112 ⟨(Nat.le_of_ble_eq_true rfl), (Nat.le_of_ble_eq_true rfl)⟩) g hK (by decide) (by decide) (fx' := [(9, 7, q1_, .int x_146), (2, 0, a0_, .ref q0_), (2, 4, a0_, .ref q1_)]) rfl (fun fr_156 H locs hp hMr_156 g => ?_)
            rcases hp with ⟨x_157, h_158, x_159, h_160, hF_161⟩ | ⟨x_162, h_163, hF_164⟩
            · have g := g.more hF_161
              refine lv_iload_n hx hb dX2_readRowSize_115 rfl (lv_at hl 0 rfl) ?_
              subst hQ
              exact W.iret (v := 5) hx hb hr (fun t ht hW => ⟨⟨_, _, rfl, Or.inr (Or.inr (Or.inr (Or.inr (Or.inr (Or.inr (Or.inr (Or.inr (Or.inl ⟨rfl, x_157, h_158, x_159, h_160, x_146, b_151, (g.fcts [0, 1, 2] rfl)⟩)))))))), q3_of g hK ht hW⟩, g.2.2.1.F ht⟩) g.2.2.1.2.2 dX2_readRowSize_116
            · have g := g.more hF_164
              refine lv_iload_n hx hb dX2_readRowSize_115 rfl (lv_at hl 0 rfl) ?_
              have kb_1201 : bd 1201 1201 (1201 : Int32) := ⟨by decide, by decide⟩
              subst hQ
              exact W.iret (v := 5) hx hb hr (fun t ht hW => ⟨⟨_, _, rfl, Or.inr (Or.inr (Or.inr (Or.inr (Or.inr (Or.inr (Or.inr (Or.inr (Or.inr (Or.inl ⟨rfl, 1201, kb_1201, x_162, h_163, (g.fcts [0, 1] rfl)⟩))))))))), q3_of g hK ht hW⟩, g.2.2.1.F ht⟩) g.2.2.1.2.2 dX2_readRowSize_116
          · have fc_149 := nle_f c_149
            have b_165 : bd 25 29 y_147 := ltR fc_149 kb_24 b_148 (by decide)
            have b_166 : bd 20 24 x_146 := add_inv ty_147 b_165 bx_146 kb_5 (by decide)
            refine lv_aload_n hx hb dX2_readRowSize_90 rfl (lv_at hl 2 rfl) ?_
            refine g_getk (C := RX2) (T := TX2) (N := 16) hx hb hts (mc_ inX2) hown hK g rfl 0 (by decide) rfl (hts _ (List.mem_cons_of_mem _ t_416)) (fun _ h9 => h9) 2 rfl dX2_readRowSize_91 ?_
            refine lv_iconst (v := 4) hx hb dX2_readRowSize_94 (by decide) ?_
            refine lv_iload_n hx hb dX2_readRowSize_95 rfl (lv_at hl 1 rfl) ?_
            refine g_callv (va_runV (As := [.int 4, .int r_5]) (rest := []) ⟨hx, hb, hml, hown, hts⟩ (r_X8_fail l dC dI L kd tys fr_9 H.size g.2.2.2.1 q0_ mq0_ kq0_ 4 (bd_sub kb_4 (by decide)) r_5 y0_ by0_ (g.fcts [4] rfl)) (cwV 2 hts (gV_ t_1122 t_1107 t_1108 t_184 t_1109) rfl rfl rfl (by decide +kernel) ⟨(Nat.le_of_ble_eq_true rfl), (Nat.le_of_ble_eq_true rfl)⟩) (pre3V g hK mq0_ kq0_ (by decide) (q := (RX8, TX8, 10)) rfl) rfl rfl hl.1 rfl (lv_room (Nat.le_of_ble_eq_true rfl)) dX2_readRowSize_96 ⟨(Nat.le_of_ble_eq_true rfl), (Nat.le_of_ble_eq_true rfl)⟩) g hK (by decide) (by decide) (fx' := [(9, 7, q1_, .int x_146), (2, 0, a0_, .ref q0_), (2, 4, a0_, .ref q1_)]) rfl (fun fr_167 H locs hp hMr_167 g => ?_)
            obtain ⟨x_168, h_169, hF_170⟩ := hp
            have g := g.more hF_170
            refine lv_aload_n hx hb dX2_readRowSize_99 rfl (lv_at hl 2 rfl) ?_
            refine g_getk (C := RX2) (T := TX2) (N := 16) hx hb hts (mc_ inX2) hown hK g rfl 0 (by decide) rfl (hts _ (List.mem_cons_of_mem _ t_416)) (fun _ h9 => h9) 3 rfl dX2_readRowSize_100 ?_
            have kb_1201 : bd 1201 1201 (1201 : Int32) := ⟨by decide, by decide⟩
            refine g_callv (va_runV (As := []) (rest := []) ⟨hx, hb, hml, hown, hts⟩ (r_X8_next_2 l dC dI L kd tys fr_167 H.size g.2.2.2.1 q0_ mq0_ kq0_ 1201 kb_1201 (g.fcts [0] rfl)) (cwV 0 hts (gV_ t_1131 t_1103 t_1104 t_184 t_1105) rfl rfl rfl (by decide +kernel) ⟨(Nat.le_of_ble_eq_true rfl), (Nat.le_of_ble_eq_true rfl)⟩) (pre3V g hK mq0_ kq0_ (by decide) (q := (RX8, TX8, 10)) rfl) rfl rfl hl.1 rfl (lv_room (Nat.le_of_ble_eq_true rfl)) dX2_readRowSize_103 ⟨(Nat.le_of_ble_eq_true rfl), (Nat.le_of_ble_eq_true rfl)⟩) g hK (by decide) (by decide) (fx' := [(8, 6, q0_, .int 1201), (8, 8, q0_, .int x_168), (9, 7, q1_, .int x_146), (2, 0, a0_, .ref q0_), (2, 4, a0_, .ref q1_)]) rfl (fun fr_171 H locs hp hMr_171 g => ?_)
            refine lv_aload_n hx hb dX2_readRowSize_106 rfl (lv_at hl 2 rfl) ?_
            refine g_getk (C := RX2) (T := TX2) (N := 16) hx hb hts (mc_ inX2) hown hK g rfl 0 (by decide) rfl (hts _ (List.mem_cons_of_mem _ t_416)) (fun _ h9 => h9) 3 rfl dX2_readRowSize_107 ?_
            refine lv_bipush (v := 93) hx hb dX2_readRowSize_110 (by decide) ?_
            refine g_callv (va_runV (As := [.int 93]) (rest := []) ⟨hx, hb, hml, hown, hts⟩ (r_X8_take_2 l dC dI L kd tys fr_171 H.size g.2.2.2.1 q0_ mq0_ kq0_ 93 1201 kb_1201 x_168 h_169 (g.fcts [0, 1] rfl)) (cwV 1 hts (gV_ t_1098 t_1099 t_1100 t_184 t_1101) rfl rfl rfl (by decide +kernel) ⟨(Nat.le_of_ble_eq_true rfl), (Nat.le_of_ble_eq_true rfl)⟩) (pre3V g hK mq0_ kq0_ (by decide) (q := (RX8, TX8, 10)) rfl) rfl rfl hl.1 rfl (lv_room (Nat.le_of_ble_eq_true rfl)) dX2_readRowSize_112 ⟨(Nat.le_of_ble_eq_true rfl), (Nat.le_of_ble_eq_true rfl)⟩) g hK (by decide) (by decide) (fx' := [(8, 8, q0_, .int x_168), (9, 7, q1_, .int x_146), (2, 0, a0_, .ref q0_), (2, 4, a0_, .ref q1_)]) rfl (fun fr_172 H locs hp hMr_172 g => ?_)
            obtain ⟨x_173, h_174, hF_175⟩ := hp
            have g := g.more hF_175
            refine lv_iload_n hx hb dX2_readRowSize_115 rfl (lv_at hl 0 rfl) ?_
            subst hQ
            exact W.iret (v := 5) hx hb hr (fun t ht hW => ⟨⟨_, _, rfl, Or.inr (Or.inr (Or.inr (Or.inr (Or.inr (Or.inr (Or.inr (Or.inr (Or.inr (Or.inl ⟨rfl, x_173, h_174, x_168, h_169, (g.fcts [0, 1] rfl)⟩))))))))), q3_of g hK ht hW⟩, g.2.2.1.F ht⟩) g.2.2.1.2.2 dX2_readRowSize_116
        · refine lv_aload_n hx hb dX2_readRowSize_76 rfl (lv_at hl 2 rfl) ?_
          refine g_getk (C := RX2) (T := TX2) (N := 16) hx hb hts (mc_ inX2) hown hK g rfl 4 (by decide) rfl (hts _ (List.mem_cons_of_mem _ t_420)) (fun _ h9 => h9) 2 rfl dX2_readRowSize_77 ?_
          refine g_geti (C := RX9) (T := TX9) (N := 13) hx hb hts (mc_ inX9) hown hK g mq1_ kq1_ (by decide) rfl 7 (by decide) rfl (hts _ (List.mem_cons_of_mem _ t_496)) (fun _ h9 => h9) rfl dX2_readRowSize_80 (fun x_176 bx_176 g => ?_)
          refine lv_iload_n hx hb dX2_readRowSize_83 rfl (lv_at hl 0 rfl) ?_
          have kb_6 : bd 6 6 (6 : Int32) := ⟨by decide, by decide⟩
          refine lv_iadd hx hb dX2_readRowSize_84 ?_
          refine lv_topi (fun y_177 ey_177 => ?_)
          have ty_177 := add_bd ey_177 bx_176 kb_6 (by decide)
          have b_178 : bd 6 30 y_177 := add_rg ty_177 bx_176 kb_6 (by decide)
          refine lv_bipush (v := 24) hx hb dX2_readRowSize_85 (by decide) ?_
          have kb_24 : bd 24 24 (24 : Int32) := ⟨by decide, by decide⟩
          refine lv_icmp_le (tgt := 99) hx hb dX2_readRowSize_87 (by decide) (fun c_179 => ?_) (fun c_179 => ?_)
          · have fc_179 := le_f c_179
            have b_180 : bd 6 24 y_177 := leL fc_179 b_178 kb_24 (by decide)
            have b_181 : bd 0 18 x_176 := add_inv ty_177 b_180 bx_176 kb_6 (by decide)
            refine lv_aload_n hx hb dX2_readRowSize_99 rfl (lv_at hl 2 rfl) ?_
            refine g_getk (C := RX2) (T := TX2) (N := 16) hx hb hts (mc_ inX2) hown hK g rfl 0 (by decide) rfl (hts _ (List.mem_cons_of_mem _ t_416)) (fun _ h9 => h9) 2 rfl dX2_readRowSize_100 ?_
            refine g_callv (va_runV (As := []) (rest := []) ⟨hx, hb, hml, hown, hts⟩ (r_X8_next l dC dI L kd tys fr_9 H.size g.2.2.2.1 q0_ mq0_ kq0_) (cwV 0 hts (gV_ t_1131 t_1103 t_1104 t_184 t_1105) rfl rfl rfl (by decide +kernel) ⟨(Nat.le_of_ble_eq_true rfl), (Nat.le_of_ble_eq_true rfl)⟩) (pre3V g hK mq0_ kq0_ (by decide) (q := (RX8, TX8, 10)) rfl) rfl rfl hl.1 rfl (lv_room (Nat.le_of_ble_eq_true rfl)) dX2_readRowSize_103 ⟨(Nat.le_of_ble_eq_true rfl), (Nat.le_of_ble_eq_true rfl)⟩) g hK (by decide) (by decide) (fx' := [(9, 7, q1_, .int x_176), (2, 0, a0_, .ref q0_), (2, 4, a0_, .ref q1_), (8, 8, q0_, .int y0_)]) rfl (fun fr_182 H locs hp hMr_182 g => ?_)
            obtain ⟨x_183, h_184, hF_185⟩ := hp
            have g := g.more hF_185
            refine lv_aload_n hx hb dX2_readRowSize_106 rfl (lv_at hl 2 rfl) ?_
            refine g_getk (C := RX2) (T := TX2) (N := 16) hx hb hts (mc_ inX2) hown hK g rfl 0 (by decide) rfl (hts _ (List.mem_cons_of_mem _ t_416)) (fun _ h9 => h9) 2 rfl dX2_readRowSize_107 ?_
            refine lv_bipush (v := 93) hx hb dX2_readRowSize_110 (by decide) ?_
            refine g_callv (va_runV (As := [.int 93]) (rest := []) ⟨hx, hb, hml, hown, hts⟩ (r_X8_take l dC dI L kd tys fr_182 H.size g.2.2.2.1 q0_ mq0_ kq0_ 93 y0_ by0_ (g.fcts [4] rfl)) (cwV 1 hts (gV_ t_1098 t_1099 t_1100 t_184 t_1101) rfl rfl rfl (by decide +kernel) ⟨(Nat.le_of_ble_eq_true rfl), (Nat.le_of_ble_eq_true rfl)⟩) (pre3V g hK mq0_ kq0_ (by decide) (q := (RX8, TX8, 10)) rfl) rfl rfl hl.1 rfl (lv_room (Nat.le_of_ble_eq_true rfl)) dX2_readRowSize_112 ⟨(Nat.le_of_ble_eq_true rfl), (Nat.le_of_ble_eq_true rfl)⟩) g hK (by decide) (by decide) (fx' := [(9, 7, q1_, .int x_176), (2, 0, a0_, .ref q0_), (2, 4, a0_, .ref q1_)]) rfl (fun fr_186 H locs hp hMr_186 g => ?_)
            rcases hp with ⟨x_187, h_188, x_189, h_190, hF_191⟩ | ⟨x_192, h_193, hF_194⟩
            · have g := g.more hF_191
              refine lv_iload_n hx hb dX2_readRowSize_115 rfl (lv_at hl 0 rfl) ?_
              subst hQ
              exact W.iret (v := 6) hx hb hr (fun t ht hW => ⟨⟨_, _, rfl, Or.inr (Or.inr (Or.inr (Or.inr (Or.inr (Or.inr (Or.inr (Or.inr (Or.inr (Or.inr (Or.inl ⟨rfl, x_187, h_188, x_189, h_190, x_176, b_181, (g.fcts [0, 1, 2] rfl)⟩)))))))))), q3_of g hK ht hW⟩, g.2.2.1.F ht⟩) g.2.2.1.2.2 dX2_readRowSize_116
            · have g := g.more hF_194
              refine lv_iload_n hx hb dX2_readRowSize_115 rfl (lv_at hl 0 rfl) ?_
              have kb_1201 : bd 1201 1201 (1201 : Int32) := ⟨by decide, by decide⟩
              subst hQ
              exact W.iret (v := 6) hx hb hr (fun t ht hW => ⟨⟨_, _, rfl, Or.inr (Or.inr (Or.inr (Or.inr (Or.inr (Or.inr (Or.inr (Or.inr (Or.inr (Or.inr (Or.inr (Or.inl ⟨rfl, 1201, kb_1201, x_192, h_193, (g.fcts [0, 1] rfl)⟩))))))))))), q3_of g hK ht hW⟩, g.2.2.1.F ht⟩) g.2.2.1.2.2 dX2_readRowSize_116
          · have fc_179 := nle_f c_179
            have b_195 : bd 25 30 y_177 := ltR fc_179 kb_24 b_178 (by decide)
            have b_196 : bd 19 24 x_176 := add_inv ty_177 b_195 bx_176 kb_6 (by decide)
            refine lv_aload_n hx hb dX2_readRowSize_90 rfl (lv_at hl 2 rfl) ?_
            refine g_getk (C := RX2) (T := TX2) (N := 16) hx hb hts (mc_ inX2) hown hK g rfl 0 (by decide) rfl (hts _ (List.mem_cons_of_mem _ t_416)) (fun _ h9 => h9) 2 rfl dX2_readRowSize_91 ?_
            refine lv_iconst (v := 4) hx hb dX2_readRowSize_94 (by decide) ?_
            refine lv_iload_n hx hb dX2_readRowSize_95 rfl (lv_at hl 1 rfl) ?_
            refine g_callv (va_runV (As := [.int 4, .int r_5]) (rest := []) ⟨hx, hb, hml, hown, hts⟩ (r_X8_fail l dC dI L kd tys fr_9 H.size g.2.2.2.1 q0_ mq0_ kq0_ 4 (bd_sub kb_4 (by decide)) r_5 y0_ by0_ (g.fcts [4] rfl)) (cwV 2 hts (gV_ t_1122 t_1107 t_1108 t_184 t_1109) rfl rfl rfl (by decide +kernel) ⟨(Nat.le_of_ble_eq_true rfl), (Nat.le_of_ble_eq_true rfl)⟩) (pre3V g hK mq0_ kq0_ (by decide) (q := (RX8, TX8, 10)) rfl) rfl rfl hl.1 rfl (lv_room (Nat.le_of_ble_eq_true rfl)) dX2_readRowSize_96 ⟨(Nat.le_of_ble_eq_true rfl), (Nat.le_of_ble_eq_true rfl)⟩) g hK (by decide) (by decide) (fx' := [(9, 7, q1_, .int x_176), (2, 0, a0_, .ref q0_), (2, 4, a0_, .ref q1_)]) rfl (fun fr_197 H locs hp hMr_197 g => ?_)
            obtain ⟨x_198, h_199, hF_200⟩ := hp
            have g := g.more hF_200
            refine lv_aload_n hx hb dX2_readRowSize_99 rfl (lv_at hl 2 rfl) ?_
            refine g_getk (C := RX2) (T := TX2) (N := 16) hx hb hts (mc_ inX2) hown hK g rfl 0 (by decide) rfl (hts _ (List.mem_cons_of_mem _ t_416)) (fun _ h9 => h9) 3 rfl dX2_readRowSize_100 ?_
            have kb_1201 : bd 1201 1201 (1201 : Int32) := ⟨by decide, by decide⟩
            refine g_callv (va_runV (As := []) (rest := []) ⟨hx, hb, hml, hown, hts⟩ (r_X8_next_2 l dC dI L kd tys fr_197 H.size g.2.2.2.1 q0_ mq0_ kq0_ 1201 kb_1201 (g.fcts [0] rfl)) (cwV 0 hts (gV_ t_1131 t_1103 t_1104 t_184 t_1105) rfl rfl rfl (by decide +kernel) ⟨(Nat.le_of_ble_eq_true rfl), (Nat.le_of_ble_eq_true rfl)⟩) (pre3V g hK mq0_ kq0_ (by decide) (q := (RX8, TX8, 10)) rfl) rfl rfl hl.1 rfl (lv_room (Nat.le_of_ble_eq_true rfl)) dX2_readRowSize_103 ⟨(Nat.le_of_ble_eq_true rfl), (Nat.le_of_ble_eq_true rfl)⟩) g hK (by decide) (by decide) (fx' := [(8, 6, q0_, .int 1201), (8, 8, q0_, .int x_198), (9, 7, q1_, .int x_176), (2, 0, a0_, .ref q0_), (2, 4, a0_, .ref q1_)]) rfl (fun fr_201 H locs hp hMr_201 g => ?_)
            refine lv_aload_n hx hb dX2_readRowSize_106 rfl (lv_at hl 2 rfl) ?_
            refine g_getk (C := RX2) (T := TX2) (N := 16) hx hb hts (mc_ inX2) hown hK g rfl 0 (by decide) rfl (hts _ (List.mem_cons_of_mem _ t_416)) (fun _ h9 => h9) 3 rfl dX2_readRowSize_107 ?_
            refine lv_bipush (v := 93) hx hb dX2_readRowSize_110 (by decide) ?_
            refine g_callv (va_runV (As := [.int 93]) (rest := []) ⟨hx, hb, hml, hown, hts⟩ (r_X8_take_2 l dC dI L kd tys fr_201 H.size g.2.2.2.1 q0_ mq0_ kq0_ 93 1201 kb_1201 x_198 h_199 (g.fcts [0, 1] rfl)) (cwV 1 hts (gV_ t_1098 t_1099 t_1100 t_184 t_1101) rfl rfl rfl (by decide +kernel) ⟨(Nat.le_of_ble_eq_true rfl), (Nat.le_of_ble_eq_true rfl)⟩) (pre3V g hK mq0_ kq0_ (by decide) (q := (RX8, TX8, 10)) rfl) rfl rfl hl.1 rfl (lv_room (Nat.le_of_ble_eq_true rfl)) dX2_readRowSize_112 ⟨(Nat.le_of_ble_eq_true rfl), (Nat.le_of_ble_eq_true rfl)⟩) g hK (by decide) (by decide) (fx' := [(8, 8, q0_, .int x_198), (9, 7, q1_, .int x_176), (2, 0, a0_, .ref q0_), (2, 4, a0_, .ref q1_)]) rfl (fun fr_202 H locs hp hMr_202 g => ?_)
            obtain ⟨x_203, h_204, hF_205⟩ := hp
            have g := g.more hF_205
            refine lv_iload_n hx hb dX2_readRowSize_115 rfl (lv_at hl 0 rfl) ?_
            subst hQ
            exact W.iret (v := 6) hx hb hr (fun t ht hW => ⟨⟨_, _, rfl, Or.inr (Or.inr (Or.inr (Or.inr (Or.inr (Or.inr (Or.inr (Or.inr (Or.inr (Or.inr (Or.inr (Or.inl ⟨rfl, x_203, h_204, x_198, h_199, (g.fcts [0, 1] rfl)⟩))))))))))), q3_of g hK ht hW⟩, g.2.2.1.F ht⟩) g.2.2.1.2.2 dX2_readRowSize_116
        · refine lv_aload_n hx hb dX2_readRowSize_76 rfl (lv_at hl 2 rfl) ?_
          refine g_getk (C := RX2) (T := TX2) (N := 16) hx hb hts (mc_ inX2) hown hK g rfl 4 (by decide) rfl (hts _ (List.mem_cons_of_mem _ t_420)) (fun _ h9 => h9) 2 rfl dX2_readRowSize_77 ?_
          refine g_geti (C := RX9) (T := TX9) (N := 13) hx hb hts (mc_ inX9) hown hK g mq1_ kq1_ (by decide) rfl 7 (by decide) rfl (hts _ (List.mem_cons_of_mem _ t_496)) (fun _ h9 => h9) rfl dX2_readRowSize_80 (fun x_206 bx_206 g => ?_)
          refine lv_iload_n hx hb dX2_readRowSize_83 rfl (lv_at hl 0 rfl) ?_
          have kb_7 : bd 7 7 (7 : Int32) := ⟨by decide, by decide⟩
          refine lv_iadd hx hb dX2_readRowSize_84 ?_
          refine lv_topi (fun y_207 ey_207 => ?_)
          have ty_207 := add_bd ey_207 bx_206 kb_7 (by decide)
          have b_208 : bd 7 31 y_207 := add_rg ty_207 bx_206 kb_7 (by decide)
          refine lv_bipush (v := 24) hx hb dX2_readRowSize_85 (by decide) ?_
          have kb_24 : bd 24 24 (24 : Int32) := ⟨by decide, by decide⟩
          refine lv_icmp_le (tgt := 99) hx hb dX2_readRowSize_87 (by decide) (fun c_209 => ?_) (fun c_209 => ?_)
          · have fc_209 := le_f c_209
            have b_210 : bd 7 24 y_207 := leL fc_209 b_208 kb_24 (by decide)
            have b_211 : bd 0 17 x_206 := add_inv ty_207 b_210 bx_206 kb_7 (by decide)
            refine lv_aload_n hx hb dX2_readRowSize_99 rfl (lv_at hl 2 rfl) ?_
            refine g_getk (C := RX2) (T := TX2) (N := 16) hx hb hts (mc_ inX2) hown hK g rfl 0 (by decide) rfl (hts _ (List.mem_cons_of_mem _ t_416)) (fun _ h9 => h9) 2 rfl dX2_readRowSize_100 ?_
            refine g_callv (va_runV (As := []) (rest := []) ⟨hx, hb, hml, hown, hts⟩ (r_X8_next l dC dI L kd tys fr_9 H.size g.2.2.2.1 q0_ mq0_ kq0_) (cwV 0 hts (gV_ t_1131 t_1103 t_1104 t_184 t_1105) rfl rfl rfl (by decide +kernel) ⟨(Nat.le_of_ble_eq_true rfl), (Nat.le_of_ble_eq_true rfl)⟩) (pre3V g hK mq0_ kq0_ (by decide) (q := (RX8, TX8, 10)) rfl) rfl rfl hl.1 rfl (lv_room (Nat.le_of_ble_eq_true rfl)) dX2_readRowSize_103 ⟨(Nat.le_of_ble_eq_true rfl), (Nat.le_of_ble_eq_true rfl)⟩) g hK (by decide) (by decide) (fx' := [(9, 7, q1_, .int x_206), (2, 0, a0_, .ref q0_), (2, 4, a0_, .ref q1_), (8, 8, q0_, .int y0_)]) rfl (fun fr_212 H locs hp hMr_212 g => ?_)
            obtain ⟨x_213, h_214, hF_215⟩ := hp
            have g := g.more hF_215
            refine lv_aload_n hx hb dX2_readRowSize_106 rfl (lv_at hl 2 rfl) ?_
            refine g_getk (C := RX2) (T := TX2) (N := 16) hx hb hts (mc_ inX2) hown hK g rfl 0 (by decide) rfl (hts _ (List.mem_cons_of_mem _ t_416)) (fun _ h9 => h9) 2 rfl dX2_readRowSize_107 ?_
            refine lv_bipush (v := 93) hx hb dX2_readRowSize_110 (by decide) ?_
            refine g_callv (va_runV (As := [.int 93]) (rest := []) ⟨hx, hb, hml, hown, hts⟩ (r_X8_take l dC dI L kd tys fr_212 H.size g.2.2.2.1 q0_ mq0_ kq0_ 93 y0_ by0_ (g.fcts [4] rfl)) (cwV 1 hts (gV_ t_1098 t_1099 t_1100 t_184 t_1101) rfl rfl rfl (by decide +kernel) ⟨(Nat.le_of_ble_eq_true rfl), (Nat.le_of_ble_eq_true rfl)⟩) (pre3V g hK mq0_ kq0_ (by decide) (q := (RX8, TX8, 10)) rfl) rfl rfl hl.1 rfl (lv_room (Nat.le_of_ble_eq_true rfl)) dX2_readRowSize_112 ⟨(Nat.le_of_ble_eq_true rfl), (Nat.le_of_ble_eq_true rfl)⟩) g hK (by decide) (by decide) (fx' := [(9, 7, q1_, .int x_206), (2, 0, a0_, .ref q0_), (2, 4, a0_, .ref q1_)]) rfl (fun fr_216 H locs hp hMr_216 g => ?_)
            rcases hp with ⟨x_217, h_218, x_219, h_220, hF_221⟩ | ⟨x_222, h_223, hF_224⟩
            · have g := g.more hF_221
              refine lv_iload_n hx hb dX2_readRowSize_115 rfl (lv_at hl 0 rfl) ?_
              subst hQ
              exact W.iret (v := 7) hx hb hr (fun t ht hW => ⟨⟨_, _, rfl, Or.inr (Or.inr (Or.inr (Or.inr (Or.inr (Or.inr (Or.inr (Or.inr (Or.inr (Or.inr (Or.inr (Or.inr (Or.inl ⟨rfl, x_217, h_218, x_219, h_220, x_206, b_211, (g.fcts [0, 1, 2] rfl)⟩)))))))))))), q3_of g hK ht hW⟩, g.2.2.1.F ht⟩) g.2.2.1.2.2 dX2_readRowSize_116
            · have g := g.more hF_224
              refine lv_iload_n hx hb dX2_readRowSize_115 rfl (lv_at hl 0 rfl) ?_
              have kb_1201 : bd 1201 1201 (1201 : Int32) := ⟨by decide, by decide⟩
              subst hQ
              exact W.iret (v := 7) hx hb hr (fun t ht hW => ⟨⟨_, _, rfl, Or.inr (Or.inr (Or.inr (Or.inr (Or.inr (Or.inr (Or.inr (Or.inr (Or.inr (Or.inr (Or.inr (Or.inr (Or.inr (Or.inl ⟨rfl, 1201, kb_1201, x_222, h_223, (g.fcts [0, 1] rfl)⟩))))))))))))), q3_of g hK ht hW⟩, g.2.2.1.F ht⟩) g.2.2.1.2.2 dX2_readRowSize_116
          · have fc_209 := nle_f c_209
            have b_225 : bd 25 31 y_207 := ltR fc_209 kb_24 b_208 (by decide)
            have b_226 : bd 18 24 x_206 := add_inv ty_207 b_225 bx_206 kb_7 (by decide)
            refine lv_aload_n hx hb dX2_readRowSize_90 rfl (lv_at hl 2 rfl) ?_
            refine g_getk (C := RX2) (T := TX2) (N := 16) hx hb hts (mc_ inX2) hown hK g rfl 0 (by decide) rfl (hts _ (List.mem_cons_of_mem _ t_416)) (fun _ h9 => h9) 2 rfl dX2_readRowSize_91 ?_
            refine lv_iconst (v := 4) hx hb dX2_readRowSize_94 (by decide) ?_
            refine lv_iload_n hx hb dX2_readRowSize_95 rfl (lv_at hl 1 rfl) ?_
            refine g_callv (va_runV (As := [.int 4, .int r_5]) (rest := []) ⟨hx, hb, hml, hown, hts⟩ (r_X8_fail l dC dI L kd tys fr_9 H.size g.2.2.2.1 q0_ mq0_ kq0_ 4 (bd_sub kb_4 (by decide)) r_5 y0_ by0_ (g.fcts [4] rfl)) (cwV 2 hts (gV_ t_1122 t_1107 t_1108 t_184 t_1109) rfl rfl rfl (by decide +kernel) ⟨(Nat.le_of_ble_eq_true rfl), (Nat.le_of_ble_eq_true rfl)⟩) (pre3V g hK mq0_ kq0_ (by decide) (q := (RX8, TX8, 10)) rfl) rfl rfl hl.1 rfl (lv_room (Nat.le_of_ble_eq_true rfl)) dX2_readRowSize_96 ⟨(Nat.le_of_ble_eq_true rfl), (Nat.le_of_ble_eq_true rfl)⟩) g hK (by decide) (by decide) (fx' := [(9, 7, q1_, .int x_206), (2, 0, a0_, .ref q0_), (2, 4, a0_, .ref q1_)]) rfl (fun fr_227 H locs hp hMr_227 g => ?_)
            obtain ⟨x_228, h_229, hF_230⟩ := hp
            have g := g.more hF_230
            refine lv_aload_n hx hb dX2_readRowSize_99 rfl (lv_at hl 2 rfl) ?_
            refine g_getk (C := RX2) (T := TX2) (N := 16) hx hb hts (mc_ inX2) hown hK g rfl 0 (by decide) rfl (hts _ (List.mem_cons_of_mem _ t_416)) (fun _ h9 => h9) 3 rfl dX2_readRowSize_100 ?_
            have kb_1201 : bd 1201 1201 (1201 : Int32) := ⟨by decide, by decide⟩
            refine g_callv (va_runV (As := []) (rest := []) ⟨hx, hb, hml, hown, hts⟩ (r_X8_next_2 l dC dI L kd tys fr_227 H.size g.2.2.2.1 q0_ mq0_ kq0_ 1201 kb_1201 (g.fcts [0] rfl)) (cwV 0 hts (gV_ t_1131 t_1103 t_1104 t_184 t_1105) rfl rfl rfl (by decide +kernel) ⟨(Nat.le_of_ble_eq_true rfl), (Nat.le_of_ble_eq_true rfl)⟩) (pre3V g hK mq0_ kq0_ (by decide) (q := (RX8, TX8, 10)) rfl) rfl rfl hl.1 rfl (lv_room (Nat.le_of_ble_eq_true rfl)) dX2_readRowSize_103 ⟨(Nat.le_of_ble_eq_true rfl), (Nat.le_of_ble_eq_true rfl)⟩) g hK (by decide) (by decide) (fx' := [(8, 6, q0_, .int 1201), (8, 8, q0_, .int x_228), (9, 7, q1_, .int x_206), (2, 0, a0_, .ref q0_), (2, 4, a0_, .ref q1_)]) rfl (fun fr_231 H locs hp hMr_231 g => ?_)
            refine lv_aload_n hx hb dX2_readRowSize_106 rfl (lv_at hl 2 rfl) ?_
            refine g_getk (C := RX2) (T := TX2) (N := 16) hx hb hts (mc_ inX2) hown hK g rfl 0 (by decide) rfl (hts _ (List.mem_cons_of_mem _ t_416)) (fun _ h9 => h9) 3 rfl dX2_readRowSize_107 ?_
            refine lv_bipush (v := 93) hx hb dX2_readRowSize_110 (by decide) ?_
            refine g_callv (va_runV (As := [.int 93]) (rest := []) ⟨hx, hb, hml, hown, hts⟩ (r_X8_take_2 l dC dI L kd tys fr_231 H.size g.2.2.2.1 q0_ mq0_ kq0_ 93 1201 kb_1201 x_228 h_229 (g.fcts [0, 1] rfl)) (cwV 1 hts (gV_ t_1098 t_1099 t_1100 t_184 t_1101) rfl rfl rfl (by decide +kernel) ⟨(Nat.le_of_ble_eq_true rfl), (Nat.le_of_ble_eq_true rfl)⟩) (pre3V g hK mq0_ kq0_ (by decide) (q := (RX8, TX8, 10)) rfl) rfl rfl hl.1 rfl (lv_room (Nat.le_of_ble_eq_true rfl)) dX2_readRowSize_112 ⟨(Nat.le_of_ble_eq_true rfl), (Nat.le_of_ble_eq_true rfl)⟩) g hK (by decide) (by decide) (fx' := [(8, 8, q0_, .int x_228), (9, 7, q1_, .int x_206), (2, 0, a0_, .ref q0_), (2, 4, a0_, .ref q1_)]) rfl (fun fr_232 H locs hp hMr_232 g => ?_)
            obtain ⟨x_233, h_234, hF_235⟩ := hp
            have g := g.more hF_235
            refine lv_iload_n hx hb dX2_readRowSize_115 rfl (lv_at hl 0 rfl) ?_
            subst hQ
            exact W.iret (v := 7) hx hb hr (fun t ht hW => ⟨⟨_, _, rfl, Or.inr (Or.inr (Or.inr (Or.inr (Or.inr (Or.inr (Or.inr (Or.inr (Or.inr (Or.inr (Or.inr (Or.inr (Or.inr (Or.inl ⟨rfl, x_233, h_234, x_228, h_229, (g.fcts [0, 1] rfl)⟩))))))))))))), q3_of g hK ht hW⟩, g.2.2.1.F ht⟩) g.2.2.1.2.2 dX2_readRowSize_116
        · refine lv_aload_n hx hb dX2_readRowSize_76 rfl (lv_at hl 2 rfl) ?_
          refine g_getk (C := RX2) (T := TX2) (N := 16) hx hb hts (mc_ inX2) hown hK g rfl 4 (by decide) rfl (hts _ (List.mem_cons_of_mem _ t_420)) (fun _ h9 => h9) 2 rfl dX2_readRowSize_77 ?_
          refine g_geti (C := RX9) (T := TX9) (N := 13) hx hb hts (mc_ inX9) hown hK g mq1_ kq1_ (by decide) rfl 7 (by decide) rfl (hts _ (List.mem_cons_of_mem _ t_496)) (fun _ h9 => h9) rfl dX2_readRowSize_80 (fun x_236 bx_236 g => ?_)
          refine lv_iload_n hx hb dX2_readRowSize_83 rfl (lv_at hl 0 rfl) ?_
          refine lv_iadd hx hb dX2_readRowSize_84 ?_
          refine lv_topi (fun y_237 ey_237 => ?_)
          have ty_237 := add_bd ey_237 bx_236 kb_8 (by decide)
          have b_238 : bd 8 32 y_237 := add_rg ty_237 bx_236 kb_8 (by decide)
          refine lv_bipush (v := 24) hx hb dX2_readRowSize_85 (by decide) ?_
          have kb_24 : bd 24 24 (24 : Int32) := ⟨by decide, by decide⟩
          refine lv_icmp_le (tgt := 99) hx hb dX2_readRowSize_87 (by decide) (fun c_239 => ?_) (fun c_239 => ?_)
          · have fc_239 := le_f c_239
            have b_240 : bd 8 24 y_237 := leL fc_239 b_238 kb_24 (by decide)
            have b_241 : bd 0 16 x_236 := add_inv ty_237 b_240 bx_236 kb_8 (by decide)
            refine lv_aload_n hx hb dX2_readRowSize_99 rfl (lv_at hl 2 rfl) ?_
            refine g_getk (C := RX2) (T := TX2) (N := 16) hx hb hts (mc_ inX2) hown hK g rfl 0 (by decide) rfl (hts _ (List.mem_cons_of_mem _ t_416)) (fun _ h9 => h9) 2 rfl dX2_readRowSize_100 ?_
            refine g_callv (va_runV (As := []) (rest := []) ⟨hx, hb, hml, hown, hts⟩ (r_X8_next l dC dI L kd tys fr_9 H.size g.2.2.2.1 q0_ mq0_ kq0_) (cwV 0 hts (gV_ t_1131 t_1103 t_1104 t_184 t_1105) rfl rfl rfl (by decide +kernel) ⟨(Nat.le_of_ble_eq_true rfl), (Nat.le_of_ble_eq_true rfl)⟩) (pre3V g hK mq0_ kq0_ (by decide) (q := (RX8, TX8, 10)) rfl) rfl rfl hl.1 rfl (lv_room (Nat.le_of_ble_eq_true rfl)) dX2_readRowSize_103 ⟨(Nat.le_of_ble_eq_true rfl), (Nat.le_of_ble_eq_true rfl)⟩) g hK (by decide) (by decide) (fx' := [(9, 7, q1_, .int x_236), (2, 0, a0_, .ref q0_), (2, 4, a0_, .ref q1_), (8, 8, q0_, .int y0_)]) rfl (fun fr_242 H locs hp hMr_242 g => ?_)
            obtain ⟨x_243, h_244, hF_245⟩ := hp
            have g := g.more hF_245
            refine lv_aload_n hx hb dX2_readRowSize_106 rfl (lv_at hl 2 rfl) ?_
            refine g_getk (C := RX2) (T := TX2) (N := 16) hx hb hts (mc_ inX2) hown hK g rfl 0 (by decide) rfl (hts _ (List.mem_cons_of_mem _ t_416)) (fun _ h9 => h9) 2 rfl dX2_readRowSize_107 ?_
            refine lv_bipush (v := 93) hx hb dX2_readRowSize_110 (by decide) ?_
            refine g_callv (va_runV (As := [.int 93]) (rest := []) ⟨hx, hb, hml, hown, hts⟩ (r_X8_take l dC dI L kd tys fr_242 H.size g.2.2.2.1 q0_ mq0_ kq0_ 93 y0_ by0_ (g.fcts [4] rfl)) (cwV 1 hts (gV_ t_1098 t_1099 t_1100 t_184 t_1101) rfl rfl rfl (by decide +kernel) ⟨(Nat.le_of_ble_eq_true rfl), (Nat.le_of_ble_eq_true rfl)⟩) (pre3V g hK mq0_ kq0_ (by decide) (q := (RX8, TX8, 10)) rfl) rfl rfl hl.1 rfl (lv_room (Nat.le_of_ble_eq_true rfl)) dX2_readRowSize_112 ⟨(Nat.le_of_ble_eq_true rfl), (Nat.le_of_ble_eq_true rfl)⟩) g hK (by decide) (by decide) (fx' := [(9, 7, q1_, .int x_236), (2, 0, a0_, .ref q0_), (2, 4, a0_, .ref q1_)]) rfl (fun fr_246 H locs hp hMr_246 g => ?_)
            rcases hp with ⟨x_247, h_248, x_249, h_250, hF_251⟩ | ⟨x_252, h_253, hF_254⟩
            · have g := g.more hF_251
              refine lv_iload_n hx hb dX2_readRowSize_115 rfl (lv_at hl 0 rfl) ?_
              subst hQ
              exact W.iret (v := 8) hx hb hr (fun t ht hW => ⟨⟨_, _, rfl, Or.inr (Or.inr (Or.inr (Or.inr (Or.inr (Or.inr (Or.inr (Or.inr (Or.inr (Or.inr (Or.inr (Or.inr (Or.inr (Or.inr (Or.inl ⟨rfl, x_247, h_248, x_249, h_250, x_236, b_241, (g.fcts [0, 1, 2] rfl)⟩)))))))))))))), q3_of g hK ht hW⟩, g.2.2.1.F ht⟩) g.2.2.1.2.2 dX2_readRowSize_116
            · have g := g.more hF_254
              refine lv_iload_n hx hb dX2_readRowSize_115 rfl (lv_at hl 0 rfl) ?_
              have kb_1201 : bd 1201 1201 (1201 : Int32) := ⟨by decide, by decide⟩
              subst hQ
              exact W.iret (v := 8) hx hb hr (fun t ht hW => ⟨⟨_, _, rfl, Or.inr (Or.inr (Or.inr (Or.inr (Or.inr (Or.inr (Or.inr (Or.inr (Or.inr (Or.inr (Or.inr (Or.inr (Or.inr (Or.inr (Or.inr (Or.inl ⟨rfl, 1201, kb_1201, x_252, h_253, (g.fcts [0, 1] rfl)⟩))))))))))))))), q3_of g hK ht hW⟩, g.2.2.1.F ht⟩) g.2.2.1.2.2 dX2_readRowSize_116
          · have fc_239 := nle_f c_239
            have b_255 : bd 25 32 y_237 := ltR fc_239 kb_24 b_238 (by decide)
            have b_256 : bd 17 24 x_236 := add_inv ty_237 b_255 bx_236 kb_8 (by decide)
            refine lv_aload_n hx hb dX2_readRowSize_90 rfl (lv_at hl 2 rfl) ?_
            refine g_getk (C := RX2) (T := TX2) (N := 16) hx hb hts (mc_ inX2) hown hK g rfl 0 (by decide) rfl (hts _ (List.mem_cons_of_mem _ t_416)) (fun _ h9 => h9) 2 rfl dX2_readRowSize_91 ?_
            refine lv_iconst (v := 4) hx hb dX2_readRowSize_94 (by decide) ?_
            refine lv_iload_n hx hb dX2_readRowSize_95 rfl (lv_at hl 1 rfl) ?_
            refine g_callv (va_runV (As := [.int 4, .int r_5]) (rest := []) ⟨hx, hb, hml, hown, hts⟩ (r_X8_fail l dC dI L kd tys fr_9 H.size g.2.2.2.1 q0_ mq0_ kq0_ 4 (bd_sub kb_4 (by decide)) r_5 y0_ by0_ (g.fcts [4] rfl)) (cwV 2 hts (gV_ t_1122 t_1107 t_1108 t_184 t_1109) rfl rfl rfl (by decide +kernel) ⟨(Nat.le_of_ble_eq_true rfl), (Nat.le_of_ble_eq_true rfl)⟩) (pre3V g hK mq0_ kq0_ (by decide) (q := (RX8, TX8, 10)) rfl) rfl rfl hl.1 rfl (lv_room (Nat.le_of_ble_eq_true rfl)) dX2_readRowSize_96 ⟨(Nat.le_of_ble_eq_true rfl), (Nat.le_of_ble_eq_true rfl)⟩) g hK (by decide) (by decide) (fx' := [(9, 7, q1_, .int x_236), (2, 0, a0_, .ref q0_), (2, 4, a0_, .ref q1_)]) rfl (fun fr_257 H locs hp hMr_257 g => ?_)
            obtain ⟨x_258, h_259, hF_260⟩ := hp
            have g := g.more hF_260
            refine lv_aload_n hx hb dX2_readRowSize_99 rfl (lv_at hl 2 rfl) ?_
            refine g_getk (C := RX2) (T := TX2) (N := 16) hx hb hts (mc_ inX2) hown hK g rfl 0 (by decide) rfl (hts _ (List.mem_cons_of_mem _ t_416)) (fun _ h9 => h9) 3 rfl dX2_readRowSize_100 ?_
            have kb_1201 : bd 1201 1201 (1201 : Int32) := ⟨by decide, by decide⟩
            refine g_callv (va_runV (As := []) (rest := []) ⟨hx, hb, hml, hown, hts⟩ (r_X8_next_2 l dC dI L kd tys fr_257 H.size g.2.2.2.1 q0_ mq0_ kq0_ 1201 kb_1201 (g.fcts [0] rfl)) (cwV 0 hts (gV_ t_1131 t_1103 t_1104 t_184 t_1105) rfl rfl rfl (by decide +kernel) ⟨(Nat.le_of_ble_eq_true rfl), (Nat.le_of_ble_eq_true rfl)⟩) (pre3V g hK mq0_ kq0_ (by decide) (q := (RX8, TX8, 10)) rfl) rfl rfl hl.1 rfl (lv_room (Nat.le_of_ble_eq_true rfl)) dX2_readRowSize_103 ⟨(Nat.le_of_ble_eq_true rfl), (Nat.le_of_ble_eq_true rfl)⟩) g hK (by decide) (by decide) (fx' := [(8, 6, q0_, .int 1201), (8, 8, q0_, .int x_258), (9, 7, q1_, .int x_236), (2, 0, a0_, .ref q0_), (2, 4, a0_, .ref q1_)]) rfl (fun fr_261 H locs hp hMr_261 g => ?_)
            refine lv_aload_n hx hb dX2_readRowSize_106 rfl (lv_at hl 2 rfl) ?_
            refine g_getk (C := RX2) (T := TX2) (N := 16) hx hb hts (mc_ inX2) hown hK g rfl 0 (by decide) rfl (hts _ (List.mem_cons_of_mem _ t_416)) (fun _ h9 => h9) 3 rfl dX2_readRowSize_107 ?_
            refine lv_bipush (v := 93) hx hb dX2_readRowSize_110 (by decide) ?_
            refine g_callv (va_runV (As := [.int 93]) (rest := []) ⟨hx, hb, hml, hown, hts⟩ (r_X8_take_2 l dC dI L kd tys fr_261 H.size g.2.2.2.1 q0_ mq0_ kq0_ 93 1201 kb_1201 x_258 h_259 (g.fcts [0, 1] rfl)) (cwV 1 hts (gV_ t_1098 t_1099 t_1100 t_184 t_1101) rfl rfl rfl (by decide +kernel) ⟨(Nat.le_of_ble_eq_true rfl), (Nat.le_of_ble_eq_true rfl)⟩) (pre3V g hK mq0_ kq0_ (by decide) (q := (RX8, TX8, 10)) rfl) rfl rfl hl.1 rfl (lv_room (Nat.le_of_ble_eq_true rfl)) dX2_readRowSize_112 ⟨(Nat.le_of_ble_eq_true rfl), (Nat.le_of_ble_eq_true rfl)⟩) g hK (by decide) (by decide) (fx' := [(8, 8, q0_, .int x_258), (9, 7, q1_, .int x_236), (2, 0, a0_, .ref q0_), (2, 4, a0_, .ref q1_)]) rfl (fun fr_262 H locs hp hMr_262 g => ?_)
            obtain ⟨x_263, h_264, hF_265⟩ := hp
            have g := g.more hF_265
            refine lv_iload_n hx hb dX2_readRowSize_115 rfl (lv_at hl 0 rfl) ?_
            subst hQ
            exact W.iret (v := 8) hx hb hr (fun t ht hW => ⟨⟨_, _, rfl, Or.inr (Or.inr (Or.inr (Or.inr (Or.inr (Or.inr (Or.inr (Or.inr (Or.inr (Or.inr (Or.inr (Or.inr (Or.inr (Or.inr (Or.inr (Or.inl ⟨rfl, x_263, h_264, x_258, h_259, (g.fcts [0, 1] rfl)⟩))))))))))))))), q3_of g hK ht hW⟩, g.2.2.1.F ht⟩) g.2.2.1.2.2 dX2_readRowSize_116
      · have fc_24 := nle_f c_24
        have b_266 : bd 9 2147483647 y_8 := ltR fc_24 kb_8 b_23 (by decide)
        refine lv_aload_n hx hb dX2_readRowSize_64 rfl (lv_at hl 2 rfl) ?_
        refine g_getk (C := RX2) (T := TX2) (N := 16) hx hb hts (mc_ inX2) hown hK g rfl 0 (by decide) rfl (hts _ (List.mem_cons_of_mem _ t_416)) (fun _ h9 => h9) 1 rfl dX2_readRowSize_65 ?_
        refine lv_iconst (v := 3) hx hb dX2_readRowSize_68 (by decide) ?_
        refine lv_iload_n hx hb dX2_readRowSize_69 rfl (lv_at hl 1 rfl) ?_
        have kb_3 : bd 3 3 (3 : Int32) := ⟨by decide, by decide⟩
        refine g_callv (va_runV (As := [.int 3, .int r_5]) (rest := []) ⟨hx, hb, hml, hown, hts⟩ (r_X8_fail l dC dI L kd tys fr_9 H.size g.2.2.2.1 q0_ mq0_ kq0_ 3 (bd_sub kb_3 (by decide)) r_5 y0_ by0_ (g.fcts [3] rfl)) (cwV 2 hts (gV_ t_1122 t_1107 t_1108 t_184 t_1109) rfl rfl rfl (by decide +kernel) ⟨(Nat.le_of_ble_eq_true rfl), (Nat.le_of_ble_eq_true rfl)⟩) (pre3V g hK mq0_ kq0_ (by decide) (q := (RX8, TX8, 10)) rfl) rfl rfl hl.1 rfl (lv_room (Nat.le_of_ble_eq_true rfl)) dX2_readRowSize_70 ⟨(Nat.le_of_ble_eq_true rfl), (Nat.le_of_ble_eq_true rfl)⟩) g hK (by decide) (by decide) (fx' := [(2, 0, a0_, .ref q0_), (2, 4, a0_, .ref q1_)]) rfl (fun fr_267 H locs hp hMr_267 g => ?_)
        obtain ⟨x_268, h_269, hF_270⟩ := hp
        have g := g.more hF_270
        refine lv_goto (tgt := 99) hx hb dX2_readRowSize_73 (by decide) ?_
        refine lv_aload_n hx hb dX2_readRowSize_99 rfl (lv_at hl 2 rfl) ?_
        refine g_getk (C := RX2) (T := TX2) (N := 16) hx hb hts (mc_ inX2) hown hK g rfl 0 (by decide) rfl (hts _ (List.mem_cons_of_mem _ t_416)) (fun _ h9 => h9) 2 rfl dX2_readRowSize_100 ?_
        have kb_1201 : bd 1201 1201 (1201 : Int32) := ⟨by decide, by decide⟩
        refine g_callv (va_runV (As := []) (rest := []) ⟨hx, hb, hml, hown, hts⟩ (r_X8_next_2 l dC dI L kd tys fr_267 H.size g.2.2.2.1 q0_ mq0_ kq0_ 1201 kb_1201 (g.fcts [0] rfl)) (cwV 0 hts (gV_ t_1131 t_1103 t_1104 t_184 t_1105) rfl rfl rfl (by decide +kernel) ⟨(Nat.le_of_ble_eq_true rfl), (Nat.le_of_ble_eq_true rfl)⟩) (pre3V g hK mq0_ kq0_ (by decide) (q := (RX8, TX8, 10)) rfl) rfl rfl hl.1 rfl (lv_room (Nat.le_of_ble_eq_true rfl)) dX2_readRowSize_103 ⟨(Nat.le_of_ble_eq_true rfl), (Nat.le_of_ble_eq_true rfl)⟩) g hK (by decide) (by decide) (fx' := [(8, 6, q0_, .int 1201), (8, 8, q0_, .int x_268), (2, 0, a0_, .ref q0_), (2, 4, a0_, .ref q1_)]) rfl (fun fr_271 H locs hp hMr_271 g => ?_)
        refine lv_aload_n hx hb dX2_readRowSize_106 rfl (lv_at hl 2 rfl) ?_
        refine g_getk (C := RX2) (T := TX2) (N := 16) hx hb hts (mc_ inX2) hown hK g rfl 0 (by decide) rfl (hts _ (List.mem_cons_of_mem _ t_416)) (fun _ h9 => h9) 2 rfl dX2_readRowSize_107 ?_
        refine lv_bipush (v := 93) hx hb dX2_readRowSize_110 (by decide) ?_
        refine g_callv (va_runV (As := [.int 93]) (rest := []) ⟨hx, hb, hml, hown, hts⟩ (r_X8_take_2 l dC dI L kd tys fr_271 H.size g.2.2.2.1 q0_ mq0_ kq0_ 93 1201 kb_1201 x_268 h_269 (g.fcts [0, 1] rfl)) (cwV 1 hts (gV_ t_1098 t_1099 t_1100 t_184 t_1101) rfl rfl rfl (by decide +kernel) ⟨(Nat.le_of_ble_eq_true rfl), (Nat.le_of_ble_eq_true rfl)⟩) (pre3V g hK mq0_ kq0_ (by decide) (q := (RX8, TX8, 10)) rfl) rfl rfl hl.1 rfl (lv_room (Nat.le_of_ble_eq_true rfl)) dX2_readRowSize_112 ⟨(Nat.le_of_ble_eq_true rfl), (Nat.le_of_ble_eq_true rfl)⟩) g hK (by decide) (by decide) (fx' := [(8, 8, q0_, .int x_268), (2, 0, a0_, .ref q0_), (2, 4, a0_, .ref q1_)]) rfl (fun fr_272 H locs hp hMr_272 g => ?_)
        obtain ⟨x_273, h_274, hF_275⟩ := hp
        have g := g.more hF_275
        refine lv_iload_n hx hb dX2_readRowSize_115 rfl (lv_at hl 0 rfl) ?_
        subst hQ
        exact W.iret (v := y_8) hx hb hr (fun t ht hW => ⟨⟨_, _, rfl, Or.inr (Or.inr (Or.inr (Or.inr (Or.inr (Or.inr (Or.inr (Or.inr (Or.inr (Or.inr (Or.inr (Or.inr (Or.inr (Or.inr (Or.inr (Or.inr (⟨x_273, h_274, x_268, h_269, (g.fcts [0, 1] rfl)⟩)))))))))))))))), q3_of g hK ht hW⟩, g.2.2.1.F ht⟩) g.2.2.1.2.2 dX2_readRowSize_116
  · have fc_10 := neq_f c_10
    refine lv_aload_n hx hb dX2_readRowSize_41 rfl (lv_at hl 2 rfl) ?_
    refine g_getk (C := RX2) (T := TX2) (N := 16) hx hb hts (mc_ inX2) hown hK g rfl 0 (by decide) rfl (hts _ (List.mem_cons_of_mem _ t_416)) (fun _ h9 => h9) 1 rfl dX2_readRowSize_42 ?_
    refine lv_iconst (v := 1) hx hb dX2_readRowSize_45 (by decide) ?_
    refine lv_iload_n hx hb dX2_readRowSize_46 rfl (lv_at hl 1 rfl) ?_
    have kb_1 : bd 1 1 (1 : Int32) := ⟨by decide, by decide⟩
    refine g_callv (va_runV (As := [.int 1, .int r_5]) (rest := []) ⟨hx, hb, hml, hown, hts⟩ (r_X8_fail l dC dI L kd tys fr_9 H.size g.2.2.2.1 q0_ mq0_ kq0_ 1 (bd_sub kb_1 (by decide)) r_5 y0_ by0_ (g.fcts [3] rfl)) (cwV 2 hts (gV_ t_1122 t_1107 t_1108 t_184 t_1109) rfl rfl rfl (by decide +kernel) ⟨(Nat.le_of_ble_eq_true rfl), (Nat.le_of_ble_eq_true rfl)⟩) (pre3V g hK mq0_ kq0_ (by decide) (q := (RX8, TX8, 10)) rfl) rfl rfl hl.1 rfl (lv_room (Nat.le_of_ble_eq_true rfl)) dX2_readRowSize_47 ⟨(Nat.le_of_ble_eq_true rfl), (Nat.le_of_ble_eq_true rfl)⟩) g hK (by decide) (by decide) (fx' := [(2, 0, a0_, .ref q0_), (2, 4, a0_, .ref q1_)]) rfl (fun fr_276 H locs hp hMr_276 g => ?_)
    obtain ⟨x_277, h_278, hF_279⟩ := hp
    have g := g.more hF_279
    refine lv_goto (tgt := 99) hx hb dX2_readRowSize_50 (by decide) ?_
    refine lv_aload_n hx hb dX2_readRowSize_99 rfl (lv_at hl 2 rfl) ?_
    refine g_getk (C := RX2) (T := TX2) (N := 16) hx hb hts (mc_ inX2) hown hK g rfl 0 (by decide) rfl (hts _ (List.mem_cons_of_mem _ t_416)) (fun _ h9 => h9) 2 rfl dX2_readRowSize_100 ?_
    have kb_1201 : bd 1201 1201 (1201 : Int32) := ⟨by decide, by decide⟩
    refine g_callv (va_runV (As := []) (rest := []) ⟨hx, hb, hml, hown, hts⟩ (r_X8_next_2 l dC dI L kd tys fr_276 H.size g.2.2.2.1 q0_ mq0_ kq0_ 1201 kb_1201 (g.fcts [0] rfl)) (cwV 0 hts (gV_ t_1131 t_1103 t_1104 t_184 t_1105) rfl rfl rfl (by decide +kernel) ⟨(Nat.le_of_ble_eq_true rfl), (Nat.le_of_ble_eq_true rfl)⟩) (pre3V g hK mq0_ kq0_ (by decide) (q := (RX8, TX8, 10)) rfl) rfl rfl hl.1 rfl (lv_room (Nat.le_of_ble_eq_true rfl)) dX2_readRowSize_103 ⟨(Nat.le_of_ble_eq_true rfl), (Nat.le_of_ble_eq_true rfl)⟩) g hK (by decide) (by decide) (fx' := [(8, 6, q0_, .int 1201), (8, 8, q0_, .int x_277), (2, 0, a0_, .ref q0_), (2, 4, a0_, .ref q1_)]) rfl (fun fr_280 H locs hp hMr_280 g => ?_)
    refine lv_aload_n hx hb dX2_readRowSize_106 rfl (lv_at hl 2 rfl) ?_
    refine g_getk (C := RX2) (T := TX2) (N := 16) hx hb hts (mc_ inX2) hown hK g rfl 0 (by decide) rfl (hts _ (List.mem_cons_of_mem _ t_416)) (fun _ h9 => h9) 2 rfl dX2_readRowSize_107 ?_
    refine lv_bipush (v := 93) hx hb dX2_readRowSize_110 (by decide) ?_
    refine g_callv (va_runV (As := [.int 93]) (rest := []) ⟨hx, hb, hml, hown, hts⟩ (r_X8_take_2 l dC dI L kd tys fr_280 H.size g.2.2.2.1 q0_ mq0_ kq0_ 93 1201 kb_1201 x_277 h_278 (g.fcts [0, 1] rfl)) (cwV 1 hts (gV_ t_1098 t_1099 t_1100 t_184 t_1101) rfl rfl rfl (by decide +kernel) ⟨(Nat.le_of_ble_eq_true rfl), (Nat.le_of_ble_eq_true rfl)⟩) (pre3V g hK mq0_ kq0_ (by decide) (q := (RX8, TX8, 10)) rfl) rfl rfl hl.1 rfl (lv_room (Nat.le_of_ble_eq_true rfl)) dX2_readRowSize_112 ⟨(Nat.le_of_ble_eq_true rfl), (Nat.le_of_ble_eq_true rfl)⟩) g hK (by decide) (by decide) (fx' := [(8, 8, q0_, .int x_277), (2, 0, a0_, .ref q0_), (2, 4, a0_, .ref q1_)]) rfl (fun fr_281 H locs hp hMr_281 g => ?_)
    obtain ⟨x_282, h_283, hF_284⟩ := hp
    have g := g.more hF_284
    refine lv_iload_n hx hb dX2_readRowSize_115 rfl (lv_at hl 0 rfl) ?_
    subst hQ
    exact W.iret (v := y_8) hx hb hr (fun t ht hW => ⟨⟨_, _, rfl, Or.inr (Or.inr (Or.inr (Or.inr (Or.inr (Or.inr (Or.inr (Or.inr (Or.inr (Or.inr (Or.inr (Or.inr (Or.inr (Or.inr (Or.inr (Or.inr (⟨x_282, h_283, x_277, h_278, (g.fcts [0, 1] rfl)⟩)))))))))))))))), q3_of g hK ht hW⟩, g.2.2.1.F ht⟩) g.2.2.1.2.2 dX2_readRowSize_116
set_option maxHeartbeats 4000000 in
set_option maxRecDepth 100000 in
theorem r_X9_addField_3 (l : Launch) (dC : Nat → ClassId) (dI : Nat → Nat → Nat) (L : List Nat) (kd : Nat → Nat) (tys : List (ClassId × FieldType)) (f0 : Nat → va_E) (sz : Nat) (hWT : WT L kd tys f0) (a0_ : Nat) (ma0_ : a0_ ∈ L) (ka0_ : kd a0_ = 9) (x1_ : Int64) (x2_ : Int32) (bx2_ : bd 1 1 x2_) (x3_ : Int32) (bx3_ : bd 0 0 x3_) (y0_ : Int32) (by0_ : bd 0 23 y0_) (y1_ : Int32) (by1_ : bd 0 9 y1_) (hfx : Fs L kd f0 [(9, 7, a0_, .int y0_), (9, 2, a0_, .int y1_)]) : Met l yX9_addField (.code yX9_addField cX9_addField 5 none :: lw_g) ({ frames := 1, cells := 0, slots := 0, locals := 15 }) (va_Pc [.ref a0_, .long x1_, .int x2_, .int x3_] (P3 (dC, dI) L tys f0 sz)) (va_Qv (fun (f : Nat → va_E) => (∃ z0_ : Int32, bd 1 10 z0_ ∧ ∃ z1_ : Int32, bd 1 24 z1_ ∧ Fs L kd f [(9, 2, a0_, .int z0_), (9, 7, a0_, .int z1_)])) (Q3 (dC, dI) L kd tys [(9, 2), (9, 7)] [152, 153, 154, 155] f0 sz) (pA L sz)) 0 0 (pA L sz) := by
  refine Met.ofW (cc := cX9_addField) (maxL := 5) (ret := none) (by decide) rfl ?_
  intro p e s m args below meth c s₁ B hml hv
  obtain ⟨rfl, hsz, hP, hK, hD0⟩ := hv
  have hx := B.exec
  have hb := B.bytes
  have hr := B.returns
  have hts := atoms_spec (ws := (.code yX9_addField cX9_addField 5 none :: lw_g)) B.pre
  have hown : s.vm.findClass RX9 = some m.cls := findClass_of_methodNamed B.named
  have hlocks := B.notSynchronized
  subst hsz
  have g : G3 (dC, dI) L kd tys s f0 [(9, 2), (9, 7)] [152, 153, 154, 155] f0 s.heap [] [(9, 7, a0_, .int y0_), (9, 2, a0_, .int y1_)] := G3.start hP hD0 hWT hfx
  have hl := lv_entry ([.ref a0_, .long x1_, .int x2_, .int x3_]) (n := 5) (Nat.le_of_ble_eq_true rfl)
  rw [lg_entry_eq]
  generalize (lg_sl ([.ref a0_, .long x1_, .int x2_, .int x3_]) ++ List.replicate (5 - (lg_sl ([.ref a0_, .long x1_, .int x2_, .int x3_])).length) Slot.unset).toArray = ls at hl ⊢
  have hl : lv_has ls 5 [(0, .ref a0_), (1, .long x1_), (3, .int x2_), (4, .int x3_)] := hl
  refine W_q (fun Q hQ => ?_)
  refine lv_aload_n hx hb dX9_addField_0 rfl (lv_at hl 0 rfl) ?_
  refine g_getk (C := RX9) (T := TX9) (N := 13) hx hb hts (mc_ inX9) hown hK g rfl 2 (by decide) rfl (hts _ (List.mem_cons_of_mem _ t_485)) (fun _ h9 => h9) 1 rfl dX9_addField_1 ?_
  refine lv_bipush (v := 10) hx hb dX9_addField_4 (by decide) ?_
  have kb_10 : bd 10 10 (10 : Int32) := ⟨by decide, by decide⟩
  refine lv_icmp_ge (tgt := 77) hx hb dX9_addField_6 (by decide) (fun c_1 => ?_) (fun c_1 => ?_)
  · have fc_1 := le_f c_1
    have b_2 : bd 10 9 (10 : Int32) := leL fc_1 kb_10 by1_ (by decide)
    exact bd_no (eqX rfl b_2 kb_10 (lo := 10) (hi := 9) (by decide)) (by decide)
  · have fc_1 := nle_f c_1
    refine lv_aload_n hx hb dX9_addField_9 rfl (lv_at hl 0 rfl) ?_
    refine g_getr (K := 152) (C := RX9) (T := TX9) (N := 13) hx hb hts (mc_ inX9) hown hK g ma0_ ka0_ (by decide) rfl 3 (by decide) rfl (hts _ (List.mem_cons_of_mem _ t_488)) (fun _ h9 => h9) rfl dX9_addField_10 (fun a_3 ma_3 ka_3 g => ?_)
    refine lv_aload_n hx hb dX9_addField_13 rfl (lv_at hl 0 rfl) ?_
    refine g_getk (C := RX9) (T := TX9) (N := 13) hx hb hts (mc_ inX9) hown hK g rfl 2 (by decide) rfl (hts _ (List.mem_cons_of_mem _ t_485)) (fun _ h9 => h9) 2 rfl dX9_addField_14 ?_
    refine lv_lload_n hx hb dX9_addField_17 rfl (lv_at hl 1 rfl) ?_
    refine g_last hx hb hK g ma_3 ka_3 (by decide) rfl (in_bd by1_ (by decide)) (by decide) dX9_addField_18 (fun f H locs hM_4 g => ?_)
    refine lv_aload_n hx hb dX9_addField_19 rfl (lv_at hl 0 rfl) ?_
    refine g_getr (K := 153) (C := RX9) (T := TX9) (N := 13) hx hb hts (mc_ inX9) hown hK g ma0_ ka0_ (by decide) rfl 4 (by decide) rfl (hts _ (List.mem_cons_of_mem _ t_489)) (fun _ h9 => h9) rfl dX9_addField_20 (fun a_5 ma_5 ka_5 g => ?_)
    refine lv_aload_n hx hb dX9_addField_23 rfl (lv_at hl 0 rfl) ?_
    refine g_getk (C := RX9) (T := TX9) (N := 13) hx hb hts (mc_ inX9) hown hK g rfl 2 (by decide) rfl (hts _ (List.mem_cons_of_mem _ t_485)) (fun _ h9 => h9) 3 rfl dX9_addField_24 ?_
    refine lv_aload_n hx hb dX9_addField_27 rfl (lv_at hl 0 rfl) ?_
    refine g_getk (C := RX9) (T := TX9) (N := 13) hx hb hts (mc_ inX9) hown hK g rfl 7 (by decide) rfl (hts _ (List.mem_cons_of_mem _ t_493)) (fun _ h9 => h9) 2 rfl dX9_addField_28 ?_
    refine g_iast hx hb hK g ma_5 ka_5 (by decide) rfl (in_bd by1_ (by decide)) (bd_sub by0_ (by decide)) (by decide) dX9_addField_31 (fun f H locs hM_6 g => ?_)
    refine lv_aload_n hx hb dX9_addField_32 rfl (lv_at hl 0 rfl) ?_
    refine g_getr (K := 154) (C := RX9) (T := TX9) (N := 13) hx hb hts (mc_ inX9) hown hK g ma0_ ka0_ (by decide) rfl 5 (by decide) rfl (hts _ (List.mem_cons_of_mem _ t_490)) (fun _ h9 => h9) rfl dX9_addField_33 (fun a_7 ma_7 ka_7 g => ?_)
    refine lv_aload_n hx hb dX9_addField_36 rfl (lv_at hl 0 rfl) ?_
    refine g_getk (C := RX9) (T := TX9) (N := 13) hx hb hts (mc_ inX9) hown hK g rfl 2 (by decide) rfl (hts _ (List.mem_cons_of_mem _ t_485)) (fun _ h9 => h9) 4 rfl dX9_addField_37 ?_
    refine lv_iload_n hx hb dX9_addField_40 rfl (lv_at hl 2 rfl) ?_
    refine g_iast hx hb hK g ma_7 ka_7 (by decide) rfl (in_bd by1_ (by decide)) (bd_sub bx2_ (by decide)) (by decide) dX9_addField_41 (fun f H locs hM_8 g => ?_)
    refine lv_aload_n hx hb dX9_addField_42 rfl (lv_at hl 0 rfl) ?_
    refine g_getr (K := 155) (C := RX9) (T := TX9) (N := 13) hx hb hts (mc_ inX9) hown hK g ma0_ ka0_ (by decide) rfl 6 (by decide) rfl (hts _ (List.mem_cons_of_mem _ t_492)) (fun _ h9 => h9) rfl dX9_addField_43 (fun a_9 ma_9 ka_9 g => ?_)
    refine lv_aload_n hx hb dX9_addField_46 rfl (lv_at hl 0 rfl) ?_
    refine g_getk (C := RX9) (T := TX9) (N := 13) hx hb hts (mc_ inX9) hown hK g rfl 2 (by decide) rfl (hts _ (List.mem_cons_of_mem _ t_485)) (fun _ h9 => h9) 5 rfl dX9_addField_47 ?_
    refine lv_iload hx hb dX9_addField_50 (lv_at hl 3 rfl) ?_
    refine g_iast hx hb hK g ma_9 ka_9 (by decide) rfl (in_bd by1_ (by decide)) (bd_sub bx3_ (by decide)) (by decide) dX9_addField_52 (fun f H locs hM_10 g => ?_)
    refine lv_aload_n hx hb dX9_addField_53 rfl (lv_at hl 0 rfl) ?_
    refine lv_dup hx hb dX9_addField_54 rfl ?_
    refine g_getk (C := RX9) (T := TX9) (N := 13) hx hb hts (mc_ inX9) hown hK g rfl 7 (by decide) rfl (hts _ (List.mem_cons_of_mem _ t_493)) (fun _ h9 => h9) 4 rfl dX9_addField_55 ?_
    refine lv_iload_n hx hb dX9_addField_58 rfl (lv_at hl 2 rfl) ?_
    refine lv_iconst (v := 1) hx hb dX9_addField_59 (by decide) ?_
    have kb_1 : bd 1 1 (1 : Int32) := ⟨by decide, by decide⟩
    refine va_mmax hx hb (hml.trans hl.1.symm) hown (hts _ (List.mem_cons_of_mem _ t_1168)) (hts _ (List.mem_cons_of_mem _ t_1041)) (hts _ (List.mem_cons_of_mem _ t_204)) (hts _ (List.mem_cons_of_mem _ t_1042)) (Nat.le_of_ble_eq_true rfl) (Nat.le_of_ble_eq_true rfl) (Nat.le_of_ble_eq_true rfl) (Nat.le_of_ble_eq_true rfl) dX9_addField_60 ?_
    refine lv_topi (fun y_11 ey_11 => ?_)
    have ty_11 : y_11.toInt = max x2_.toInt (1 : Int32).toInt := by rw [ey_11]; exact mmax_ok _ _
    have b_12 : bd 1 1 y_11 := max_rg ty_11 bx2_ kb_1 (by decide)
    refine lv_iadd hx hb dX9_addField_63 ?_
    refine lv_topi (fun y_13 ey_13 => ?_)
    have ty_13 := add_bd ey_13 by0_ b_12 (by decide)
    have b_14 : bd 1 24 y_13 := add_rg ty_13 by0_ b_12 (by decide)
    refine g_put (C := RX9) (T := TX9) (N := 13) hx hb hts (mc_ inX9) tyX9 tyX9_ok nmX9 hown hK g ma0_ ka0_ (by decide) rfl 7 (by decide) (hts _ (List.mem_cons_of_mem _ t_493)) (fun _ h9 => h9) rfl rfl (okV_i (bd_sub b_14 (by decide))) rfl rfl (by decide) (Or.inr (Or.inl (by decide))) (fx' := [(9, 6, a0_, .ref a_9), (9, 5, a0_, .ref a_7), (9, 4, a0_, .ref a_5), (9, 3, a0_, .ref a_3), (9, 2, a0_, .int y1_)]) rfl dX9_addField_64 (fun f H locs hM_15 g => ?_)
    refine lv_aload_n hx hb dX9_addField_67 rfl (lv_at hl 0 rfl) ?_
    refine lv_dup hx hb dX9_addField_68 rfl ?_
    refine g_getk (C := RX9) (T := TX9) (N := 13) hx hb hts (mc_ inX9) hown hK g rfl 2 (by decide) rfl (hts _ (List.mem_cons_of_mem _ t_485)) (fun _ h9 => h9) 5 rfl dX9_addField_69 ?_
    refine lv_iconst (v := 1) hx hb dX9_addField_72 (by decide) ?_
    refine lv_iadd hx hb dX9_addField_73 ?_
    refine lv_topi (fun y_16 ey_16 => ?_)
    have ty_16 := add_bd ey_16 by1_ kb_1 (by decide)
    have b_17 : bd 1 10 y_16 := add_rg ty_16 by1_ kb_1 (by decide)
    refine g_put (C := RX9) (T := TX9) (N := 13) hx hb hts (mc_ inX9) tyX9 tyX9_ok nmX9 hown hK g ma0_ ka0_ (by decide) rfl 2 (by decide) (hts _ (List.mem_cons_of_mem _ t_485)) (fun _ h9 => h9) rfl rfl (okV_i (bd_sub b_17 (by decide))) rfl rfl (by decide) (Or.inr (Or.inl (by decide))) (fx' := [(9, 7, a0_, .int y_13), (9, 6, a0_, .ref a_9), (9, 5, a0_, .ref a_7), (9, 4, a0_, .ref a_5), (9, 3, a0_, .ref a_3)]) rfl dX9_addField_74 (fun f H locs hM_18 g => ?_)
    subst hQ
    exact W.vret hx hb hr (fun t ht hW => ⟨⟨_, rfl, ⟨y_16, b_17, y_13, b_14, (g.fcts [0, 1] rfl)⟩, q3_of g hK ht hW⟩, g.2.2.1.F ht⟩) g.2.2.1.2.2 dX9_addField_77
set_option maxHeartbeats 4000000 in
set_option maxRecDepth 100000 in
theorem r_X9_addField_4 (l : Launch) (dC : Nat → ClassId) (dI : Nat → Nat → Nat) (L : List Nat) (kd : Nat → Nat) (tys : List (ClassId × FieldType)) (f0 : Nat → va_E) (sz : Nat) (hWT : WT L kd tys f0) (a0_ : Nat) (ma0_ : a0_ ∈ L) (ka0_ : kd a0_ = 9) (x1_ : Int64) (x2_ : Int32) (bx2_ : bd 1 1 x2_) (x3_ : Int32) (y0_ : Int32) (by0_ : bd 0 23 y0_) (y1_ : Int32) (by1_ : bd 0 9 y1_) (hfx : Fs L kd f0 [(9, 7, a0_, .int y0_), (9, 2, a0_, .int y1_)]) : Met l yX9_addField (.code yX9_addField cX9_addField 5 none :: lw_g) ({ frames := 1, cells := 0, slots := 0, locals := 15 }) (va_Pc [.ref a0_, .long x1_, .int x2_, .int x3_] (P3 (dC, dI) L tys f0 sz)) (va_Qv (fun (f : Nat → va_E) => (∃ z0_ : Int32, bd 1 10 z0_ ∧ ∃ z1_ : Int32, bd 1 24 z1_ ∧ Fs L kd f [(9, 2, a0_, .int z0_), (9, 7, a0_, .int z1_)])) (Q3 (dC, dI) L kd tys [(9, 2), (9, 7)] [152, 153, 154, 155] f0 sz) (pA L sz)) 0 0 (pA L sz) := by
  refine Met.ofW (cc := cX9_addField) (maxL := 5) (ret := none) (by decide) rfl ?_
  intro p e s m args below meth c s₁ B hml hv
  obtain ⟨rfl, hsz, hP, hK, hD0⟩ := hv
  have hx := B.exec
  have hb := B.bytes
  have hr := B.returns
  have hts := atoms_spec (ws := (.code yX9_addField cX9_addField 5 none :: lw_g)) B.pre
  have hown : s.vm.findClass RX9 = some m.cls := findClass_of_methodNamed B.named
  have hlocks := B.notSynchronized
  subst hsz
  have g : G3 (dC, dI) L kd tys s f0 [(9, 2), (9, 7)] [152, 153, 154, 155] f0 s.heap [] [(9, 7, a0_, .int y0_), (9, 2, a0_, .int y1_)] := G3.start hP hD0 hWT hfx
  have hl := lv_entry ([.ref a0_, .long x1_, .int x2_, .int x3_]) (n := 5) (Nat.le_of_ble_eq_true rfl)
  rw [lg_entry_eq]
  generalize (lg_sl ([.ref a0_, .long x1_, .int x2_, .int x3_]) ++ List.replicate (5 - (lg_sl ([.ref a0_, .long x1_, .int x2_, .int x3_])).length) Slot.unset).toArray = ls at hl ⊢
  have hl : lv_has ls 5 [(0, .ref a0_), (1, .long x1_), (3, .int x2_), (4, .int x3_)] := hl
  refine W_q (fun Q hQ => ?_)
  refine lv_aload_n hx hb dX9_addField_0 rfl (lv_at hl 0 rfl) ?_
  refine g_getk (C := RX9) (T := TX9) (N := 13) hx hb hts (mc_ inX9) hown hK g rfl 2 (by decide) rfl (hts _ (List.mem_cons_of_mem _ t_485)) (fun _ h9 => h9) 1 rfl dX9_addField_1 ?_
  refine lv_bipush (v := 10) hx hb dX9_addField_4 (by decide) ?_
  have kb_10 : bd 10 10 (10 : Int32) := ⟨by decide, by decide⟩
  refine lv_icmp_ge (tgt := 77) hx hb dX9_addField_6 (by decide) (fun c_1 => ?_) (fun c_1 => ?_)
  · have fc_1 := le_f c_1
    have b_2 : bd 10 9 (10 : Int32) := leL fc_1 kb_10 by1_ (by decide)
    exact bd_no (eqX rfl b_2 kb_10 (lo := 10) (hi := 9) (by decide)) (by decide)
  · have fc_1 := nle_f c_1
    refine lv_aload_n hx hb dX9_addField_9 rfl (lv_at hl 0 rfl) ?_
    refine g_getr (K := 152) (C := RX9) (T := TX9) (N := 13) hx hb hts (mc_ inX9) hown hK g ma0_ ka0_ (by decide) rfl 3 (by decide) rfl (hts _ (List.mem_cons_of_mem _ t_488)) (fun _ h9 => h9) rfl dX9_addField_10 (fun a_3 ma_3 ka_3 g => ?_)
    refine lv_aload_n hx hb dX9_addField_13 rfl (lv_at hl 0 rfl) ?_
    refine g_getk (C := RX9) (T := TX9) (N := 13) hx hb hts (mc_ inX9) hown hK g rfl 2 (by decide) rfl (hts _ (List.mem_cons_of_mem _ t_485)) (fun _ h9 => h9) 2 rfl dX9_addField_14 ?_
    refine lv_lload_n hx hb dX9_addField_17 rfl (lv_at hl 1 rfl) ?_
    refine g_last hx hb hK g ma_3 ka_3 (by decide) rfl (in_bd by1_ (by decide)) (by decide) dX9_addField_18 (fun f H locs hM_4 g => ?_)
    refine lv_aload_n hx hb dX9_addField_19 rfl (lv_at hl 0 rfl) ?_
    refine g_getr (K := 153) (C := RX9) (T := TX9) (N := 13) hx hb hts (mc_ inX9) hown hK g ma0_ ka0_ (by decide) rfl 4 (by decide) rfl (hts _ (List.mem_cons_of_mem _ t_489)) (fun _ h9 => h9) rfl dX9_addField_20 (fun a_5 ma_5 ka_5 g => ?_)
    refine lv_aload_n hx hb dX9_addField_23 rfl (lv_at hl 0 rfl) ?_
    refine g_getk (C := RX9) (T := TX9) (N := 13) hx hb hts (mc_ inX9) hown hK g rfl 2 (by decide) rfl (hts _ (List.mem_cons_of_mem _ t_485)) (fun _ h9 => h9) 3 rfl dX9_addField_24 ?_
    refine lv_aload_n hx hb dX9_addField_27 rfl (lv_at hl 0 rfl) ?_
    refine g_getk (C := RX9) (T := TX9) (N := 13) hx hb hts (mc_ inX9) hown hK g rfl 7 (by decide) rfl (hts _ (List.mem_cons_of_mem _ t_493)) (fun _ h9 => h9) 2 rfl dX9_addField_28 ?_
    refine g_iast hx hb hK g ma_5 ka_5 (by decide) rfl (in_bd by1_ (by decide)) (bd_sub by0_ (by decide)) (by decide) dX9_addField_31 (fun f H locs hM_6 g => ?_)
    refine lv_aload_n hx hb dX9_addField_32 rfl (lv_at hl 0 rfl) ?_
    refine g_getr (K := 154) (C := RX9) (T := TX9) (N := 13) hx hb hts (mc_ inX9) hown hK g ma0_ ka0_ (by decide) rfl 5 (by decide) rfl (hts _ (List.mem_cons_of_mem _ t_490)) (fun _ h9 => h9) rfl dX9_addField_33 (fun a_7 ma_7 ka_7 g => ?_)
    refine lv_aload_n hx hb dX9_addField_36 rfl (lv_at hl 0 rfl) ?_
    refine g_getk (C := RX9) (T := TX9) (N := 13) hx hb hts (mc_ inX9) hown hK g rfl 2 (by decide) rfl (hts _ (List.mem_cons_of_mem _ t_485)) (fun _ h9 => h9) 4 rfl dX9_addField_37 ?_
    refine lv_iload_n hx hb dX9_addField_40 rfl (lv_at hl 2 rfl) ?_
    refine g_iast hx hb hK g ma_7 ka_7 (by decide) rfl (in_bd by1_ (by decide)) (bd_sub bx2_ (by decide)) (by decide) dX9_addField_41 (fun f H locs hM_8 g => ?_)
    refine lv_aload_n hx hb dX9_addField_42 rfl (lv_at hl 0 rfl) ?_
    refine g_getr (K := 155) (C := RX9) (T := TX9) (N := 13) hx hb hts (mc_ inX9) hown hK g ma0_ ka0_ (by decide) rfl 6 (by decide) rfl (hts _ (List.mem_cons_of_mem _ t_492)) (fun _ h9 => h9) rfl dX9_addField_43 (fun a_9 ma_9 ka_9 g => ?_)
    refine lv_aload_n hx hb dX9_addField_46 rfl (lv_at hl 0 rfl) ?_
    refine g_getk (C := RX9) (T := TX9) (N := 13) hx hb hts (mc_ inX9) hown hK g rfl 2 (by decide) rfl (hts _ (List.mem_cons_of_mem _ t_485)) (fun _ h9 => h9) 5 rfl dX9_addField_47 ?_
    refine lv_iload hx hb dX9_addField_50 (lv_at hl 3 rfl) ?_
    refine g_iast hx hb hK g ma_9 ka_9 (by decide) rfl (in_bd by1_ (by decide)) (bdT x3_) (by decide) dX9_addField_52 (fun f H locs hM_10 g => ?_)
    refine lv_aload_n hx hb dX9_addField_53 rfl (lv_at hl 0 rfl) ?_
    refine lv_dup hx hb dX9_addField_54 rfl ?_
    refine g_getk (C := RX9) (T := TX9) (N := 13) hx hb hts (mc_ inX9) hown hK g rfl 7 (by decide) rfl (hts _ (List.mem_cons_of_mem _ t_493)) (fun _ h9 => h9) 4 rfl dX9_addField_55 ?_
    refine lv_iload_n hx hb dX9_addField_58 rfl (lv_at hl 2 rfl) ?_
    refine lv_iconst (v := 1) hx hb dX9_addField_59 (by decide) ?_
    have kb_1 : bd 1 1 (1 : Int32) := ⟨by decide, by decide⟩
    refine va_mmax hx hb (hml.trans hl.1.symm) hown (hts _ (List.mem_cons_of_mem _ t_1168)) (hts _ (List.mem_cons_of_mem _ t_1041)) (hts _ (List.mem_cons_of_mem _ t_204)) (hts _ (List.mem_cons_of_mem _ t_1042)) (Nat.le_of_ble_eq_true rfl) (Nat.le_of_ble_eq_true rfl) (Nat.le_of_ble_eq_true rfl) (Nat.le_of_ble_eq_true rfl) dX9_addField_60 ?_
    refine lv_topi (fun y_11 ey_11 => ?_)
    have ty_11 : y_11.toInt = max x2_.toInt (1 : Int32).toInt := by rw [ey_11]; exact mmax_ok _ _
    have b_12 : bd 1 1 y_11 := max_rg ty_11 bx2_ kb_1 (by decide)
    refine lv_iadd hx hb dX9_addField_63 ?_
    refine lv_topi (fun y_13 ey_13 => ?_)
    have ty_13 := add_bd ey_13 by0_ b_12 (by decide)
    have b_14 : bd 1 24 y_13 := add_rg ty_13 by0_ b_12 (by decide)
    refine g_put (C := RX9) (T := TX9) (N := 13) hx hb hts (mc_ inX9) tyX9 tyX9_ok nmX9 hown hK g ma0_ ka0_ (by decide) rfl 7 (by decide) (hts _ (List.mem_cons_of_mem _ t_493)) (fun _ h9 => h9) rfl rfl (okV_i (bd_sub b_14 (by decide))) rfl rfl (by decide) (Or.inr (Or.inl (by decide))) (fx' := [(9, 6, a0_, .ref a_9), (9, 5, a0_, .ref a_7), (9, 4, a0_, .ref a_5), (9, 3, a0_, .ref a_3), (9, 2, a0_, .int y1_)]) rfl dX9_addField_64 (fun f H locs hM_15 g => ?_)
    refine lv_aload_n hx hb dX9_addField_67 rfl (lv_at hl 0 rfl) ?_
    refine lv_dup hx hb dX9_addField_68 rfl ?_
    refine g_getk (C := RX9) (T := TX9) (N := 13) hx hb hts (mc_ inX9) hown hK g rfl 2 (by decide) rfl (hts _ (List.mem_cons_of_mem _ t_485)) (fun _ h9 => h9) 5 rfl dX9_addField_69 ?_
    refine lv_iconst (v := 1) hx hb dX9_addField_72 (by decide) ?_
    refine lv_iadd hx hb dX9_addField_73 ?_
    refine lv_topi (fun y_16 ey_16 => ?_)
    have ty_16 := add_bd ey_16 by1_ kb_1 (by decide)
    have b_17 : bd 1 10 y_16 := add_rg ty_16 by1_ kb_1 (by decide)
    refine g_put (C := RX9) (T := TX9) (N := 13) hx hb hts (mc_ inX9) tyX9 tyX9_ok nmX9 hown hK g ma0_ ka0_ (by decide) rfl 2 (by decide) (hts _ (List.mem_cons_of_mem _ t_485)) (fun _ h9 => h9) rfl rfl (okV_i (bd_sub b_17 (by decide))) rfl rfl (by decide) (Or.inr (Or.inl (by decide))) (fx' := [(9, 7, a0_, .int y_13), (9, 6, a0_, .ref a_9), (9, 5, a0_, .ref a_7), (9, 4, a0_, .ref a_5), (9, 3, a0_, .ref a_3)]) rfl dX9_addField_74 (fun f H locs hM_18 g => ?_)
    subst hQ
    exact W.vret hx hb hr (fun t ht hW => ⟨⟨_, rfl, ⟨y_16, b_17, y_13, b_14, (g.fcts [0, 1] rfl)⟩, q3_of g hK ht hW⟩, g.2.2.1.F ht⟩) g.2.2.1.2.2 dX9_addField_77
set_option maxHeartbeats 4000000 in
set_option maxRecDepth 100000 in
theorem r_X9_addField_5 (l : Launch) (dC : Nat → ClassId) (dI : Nat → Nat → Nat) (L : List Nat) (kd : Nat → Nat) (tys : List (ClassId × FieldType)) (f0 : Nat → va_E) (sz : Nat) (hWT : WT L kd tys f0) (a0_ : Nat) (ma0_ : a0_ ∈ L) (ka0_ : kd a0_ = 9) (x1_ : Int64) (x2_ : Int32) (bx2_ : bd 2 2 x2_) (x3_ : Int32) (bx3_ : bd 0 0 x3_) (y0_ : Int32) (by0_ : bd 0 22 y0_) (y1_ : Int32) (by1_ : bd 0 9 y1_) (hfx : Fs L kd f0 [(9, 7, a0_, .int y0_), (9, 2, a0_, .int y1_)]) : Met l yX9_addField (.code yX9_addField cX9_addField 5 none :: lw_g) ({ frames := 1, cells := 0, slots := 0, locals := 15 }) (va_Pc [.ref a0_, .long x1_, .int x2_, .int x3_] (P3 (dC, dI) L tys f0 sz)) (va_Qv (fun (f : Nat → va_E) => (∃ z0_ : Int32, bd 1 10 z0_ ∧ ∃ z1_ : Int32, bd 2 24 z1_ ∧ Fs L kd f [(9, 2, a0_, .int z0_), (9, 7, a0_, .int z1_)])) (Q3 (dC, dI) L kd tys [(9, 2), (9, 7)] [152, 153, 154, 155] f0 sz) (pA L sz)) 0 0 (pA L sz) := by
  refine Met.ofW (cc := cX9_addField) (maxL := 5) (ret := none) (by decide) rfl ?_
  intro p e s m args below meth c s₁ B hml hv
  obtain ⟨rfl, hsz, hP, hK, hD0⟩ := hv
  have hx := B.exec
  have hb := B.bytes
  have hr := B.returns
  have hts := atoms_spec (ws := (.code yX9_addField cX9_addField 5 none :: lw_g)) B.pre
  have hown : s.vm.findClass RX9 = some m.cls := findClass_of_methodNamed B.named
  have hlocks := B.notSynchronized
  subst hsz
  have g : G3 (dC, dI) L kd tys s f0 [(9, 2), (9, 7)] [152, 153, 154, 155] f0 s.heap [] [(9, 7, a0_, .int y0_), (9, 2, a0_, .int y1_)] := G3.start hP hD0 hWT hfx
  have hl := lv_entry ([.ref a0_, .long x1_, .int x2_, .int x3_]) (n := 5) (Nat.le_of_ble_eq_true rfl)
  rw [lg_entry_eq]
  generalize (lg_sl ([.ref a0_, .long x1_, .int x2_, .int x3_]) ++ List.replicate (5 - (lg_sl ([.ref a0_, .long x1_, .int x2_, .int x3_])).length) Slot.unset).toArray = ls at hl ⊢
  have hl : lv_has ls 5 [(0, .ref a0_), (1, .long x1_), (3, .int x2_), (4, .int x3_)] := hl
  refine W_q (fun Q hQ => ?_)
  refine lv_aload_n hx hb dX9_addField_0 rfl (lv_at hl 0 rfl) ?_
  refine g_getk (C := RX9) (T := TX9) (N := 13) hx hb hts (mc_ inX9) hown hK g rfl 2 (by decide) rfl (hts _ (List.mem_cons_of_mem _ t_485)) (fun _ h9 => h9) 1 rfl dX9_addField_1 ?_
  refine lv_bipush (v := 10) hx hb dX9_addField_4 (by decide) ?_
  have kb_10 : bd 10 10 (10 : Int32) := ⟨by decide, by decide⟩
  refine lv_icmp_ge (tgt := 77) hx hb dX9_addField_6 (by decide) (fun c_1 => ?_) (fun c_1 => ?_)
  · have fc_1 := le_f c_1
    have b_2 : bd 10 9 (10 : Int32) := leL fc_1 kb_10 by1_ (by decide)
    exact bd_no (eqX rfl b_2 kb_10 (lo := 10) (hi := 9) (by decide)) (by decide)
  · have fc_1 := nle_f c_1
    refine lv_aload_n hx hb dX9_addField_9 rfl (lv_at hl 0 rfl) ?_
    refine g_getr (K := 152) (C := RX9) (T := TX9) (N := 13) hx hb hts (mc_ inX9) hown hK g ma0_ ka0_ (by decide) rfl 3 (by decide) rfl (hts _ (List.mem_cons_of_mem _ t_488)) (fun _ h9 => h9) rfl dX9_addField_10 (fun a_3 ma_3 ka_3 g => ?_)
    refine lv_aload_n hx hb dX9_addField_13 rfl (lv_at hl 0 rfl) ?_
    refine g_getk (C := RX9) (T := TX9) (N := 13) hx hb hts (mc_ inX9) hown hK g rfl 2 (by decide) rfl (hts _ (List.mem_cons_of_mem _ t_485)) (fun _ h9 => h9) 2 rfl dX9_addField_14 ?_
    refine lv_lload_n hx hb dX9_addField_17 rfl (lv_at hl 1 rfl) ?_
    refine g_last hx hb hK g ma_3 ka_3 (by decide) rfl (in_bd by1_ (by decide)) (by decide) dX9_addField_18 (fun f H locs hM_4 g => ?_)
    refine lv_aload_n hx hb dX9_addField_19 rfl (lv_at hl 0 rfl) ?_
    refine g_getr (K := 153) (C := RX9) (T := TX9) (N := 13) hx hb hts (mc_ inX9) hown hK g ma0_ ka0_ (by decide) rfl 4 (by decide) rfl (hts _ (List.mem_cons_of_mem _ t_489)) (fun _ h9 => h9) rfl dX9_addField_20 (fun a_5 ma_5 ka_5 g => ?_)
    refine lv_aload_n hx hb dX9_addField_23 rfl (lv_at hl 0 rfl) ?_
    refine g_getk (C := RX9) (T := TX9) (N := 13) hx hb hts (mc_ inX9) hown hK g rfl 2 (by decide) rfl (hts _ (List.mem_cons_of_mem _ t_485)) (fun _ h9 => h9) 3 rfl dX9_addField_24 ?_
    refine lv_aload_n hx hb dX9_addField_27 rfl (lv_at hl 0 rfl) ?_
    refine g_getk (C := RX9) (T := TX9) (N := 13) hx hb hts (mc_ inX9) hown hK g rfl 7 (by decide) rfl (hts _ (List.mem_cons_of_mem _ t_493)) (fun _ h9 => h9) 2 rfl dX9_addField_28 ?_
    refine g_iast hx hb hK g ma_5 ka_5 (by decide) rfl (in_bd by1_ (by decide)) (bd_sub by0_ (by decide)) (by decide) dX9_addField_31 (fun f H locs hM_6 g => ?_)
    refine lv_aload_n hx hb dX9_addField_32 rfl (lv_at hl 0 rfl) ?_
    refine g_getr (K := 154) (C := RX9) (T := TX9) (N := 13) hx hb hts (mc_ inX9) hown hK g ma0_ ka0_ (by decide) rfl 5 (by decide) rfl (hts _ (List.mem_cons_of_mem _ t_490)) (fun _ h9 => h9) rfl dX9_addField_33 (fun a_7 ma_7 ka_7 g => ?_)
    refine lv_aload_n hx hb dX9_addField_36 rfl (lv_at hl 0 rfl) ?_
    refine g_getk (C := RX9) (T := TX9) (N := 13) hx hb hts (mc_ inX9) hown hK g rfl 2 (by decide) rfl (hts _ (List.mem_cons_of_mem _ t_485)) (fun _ h9 => h9) 4 rfl dX9_addField_37 ?_
    refine lv_iload_n hx hb dX9_addField_40 rfl (lv_at hl 2 rfl) ?_
    refine g_iast hx hb hK g ma_7 ka_7 (by decide) rfl (in_bd by1_ (by decide)) (bd_sub bx2_ (by decide)) (by decide) dX9_addField_41 (fun f H locs hM_8 g => ?_)
    refine lv_aload_n hx hb dX9_addField_42 rfl (lv_at hl 0 rfl) ?_
    refine g_getr (K := 155) (C := RX9) (T := TX9) (N := 13) hx hb hts (mc_ inX9) hown hK g ma0_ ka0_ (by decide) rfl 6 (by decide) rfl (hts _ (List.mem_cons_of_mem _ t_492)) (fun _ h9 => h9) rfl dX9_addField_43 (fun a_9 ma_9 ka_9 g => ?_)
    refine lv_aload_n hx hb dX9_addField_46 rfl (lv_at hl 0 rfl) ?_
    refine g_getk (C := RX9) (T := TX9) (N := 13) hx hb hts (mc_ inX9) hown hK g rfl 2 (by decide) rfl (hts _ (List.mem_cons_of_mem _ t_485)) (fun _ h9 => h9) 5 rfl dX9_addField_47 ?_
    refine lv_iload hx hb dX9_addField_50 (lv_at hl 3 rfl) ?_
    refine g_iast hx hb hK g ma_9 ka_9 (by decide) rfl (in_bd by1_ (by decide)) (bd_sub bx3_ (by decide)) (by decide) dX9_addField_52 (fun f H locs hM_10 g => ?_)
    refine lv_aload_n hx hb dX9_addField_53 rfl (lv_at hl 0 rfl) ?_
    refine lv_dup hx hb dX9_addField_54 rfl ?_
    refine g_getk (C := RX9) (T := TX9) (N := 13) hx hb hts (mc_ inX9) hown hK g rfl 7 (by decide) rfl (hts _ (List.mem_cons_of_mem _ t_493)) (fun _ h9 => h9) 4 rfl dX9_addField_55 ?_
    refine lv_iload_n hx hb dX9_addField_58 rfl (lv_at hl 2 rfl) ?_
    refine lv_iconst (v := 1) hx hb dX9_addField_59 (by decide) ?_
    have kb_1 : bd 1 1 (1 : Int32) := ⟨by decide, by decide⟩
    refine va_mmax hx hb (hml.trans hl.1.symm) hown (hts _ (List.mem_cons_of_mem _ t_1168)) (hts _ (List.mem_cons_of_mem _ t_1041)) (hts _ (List.mem_cons_of_mem _ t_204)) (hts _ (List.mem_cons_of_mem _ t_1042)) (Nat.le_of_ble_eq_true rfl) (Nat.le_of_ble_eq_true rfl) (Nat.le_of_ble_eq_true rfl) (Nat.le_of_ble_eq_true rfl) dX9_addField_60 ?_
    refine lv_topi (fun y_11 ey_11 => ?_)
    have ty_11 : y_11.toInt = max x2_.toInt (1 : Int32).toInt := by rw [ey_11]; exact mmax_ok _ _
    have b_12 : bd 2 2 y_11 := max_rg ty_11 bx2_ kb_1 (by decide)
    refine lv_iadd hx hb dX9_addField_63 ?_
    refine lv_topi (fun y_13 ey_13 => ?_)
    have ty_13 := add_bd ey_13 by0_ b_12 (by decide)
    have b_14 : bd 2 24 y_13 := add_rg ty_13 by0_ b_12 (by decide)
    refine g_put (C := RX9) (T := TX9) (N := 13) hx hb hts (mc_ inX9) tyX9 tyX9_ok nmX9 hown hK g ma0_ ka0_ (by decide) rfl 7 (by decide) (hts _ (List.mem_cons_of_mem _ t_493)) (fun _ h9 => h9) rfl rfl (okV_i (bd_sub b_14 (by decide))) rfl rfl (by decide) (Or.inr (Or.inl (by decide))) (fx' := [(9, 6, a0_, .ref a_9), (9, 5, a0_, .ref a_7), (9, 4, a0_, .ref a_5), (9, 3, a0_, .ref a_3), (9, 2, a0_, .int y1_)]) rfl dX9_addField_64 (fun f H locs hM_15 g => ?_)
    refine lv_aload_n hx hb dX9_addField_67 rfl (lv_at hl 0 rfl) ?_
    refine lv_dup hx hb dX9_addField_68 rfl ?_
    refine g_getk (C := RX9) (T := TX9) (N := 13) hx hb hts (mc_ inX9) hown hK g rfl 2 (by decide) rfl (hts _ (List.mem_cons_of_mem _ t_485)) (fun _ h9 => h9) 5 rfl dX9_addField_69 ?_
    refine lv_iconst (v := 1) hx hb dX9_addField_72 (by decide) ?_
    refine lv_iadd hx hb dX9_addField_73 ?_
    refine lv_topi (fun y_16 ey_16 => ?_)
    have ty_16 := add_bd ey_16 by1_ kb_1 (by decide)
    have b_17 : bd 1 10 y_16 := add_rg ty_16 by1_ kb_1 (by decide)
    refine g_put (C := RX9) (T := TX9) (N := 13) hx hb hts (mc_ inX9) tyX9 tyX9_ok nmX9 hown hK g ma0_ ka0_ (by decide) rfl 2 (by decide) (hts _ (List.mem_cons_of_mem _ t_485)) (fun _ h9 => h9) rfl rfl (okV_i (bd_sub b_17 (by decide))) rfl rfl (by decide) (Or.inr (Or.inl (by decide))) (fx' := [(9, 7, a0_, .int y_13), (9, 6, a0_, .ref a_9), (9, 5, a0_, .ref a_7), (9, 4, a0_, .ref a_5), (9, 3, a0_, .ref a_3)]) rfl dX9_addField_74 (fun f H locs hM_18 g => ?_)
    subst hQ
    exact W.vret hx hb hr (fun t ht hW => ⟨⟨_, rfl, ⟨y_16, b_17, y_13, b_14, (g.fcts [0, 1] rfl)⟩, q3_of g hK ht hW⟩, g.2.2.1.F ht⟩) g.2.2.1.2.2 dX9_addField_77
