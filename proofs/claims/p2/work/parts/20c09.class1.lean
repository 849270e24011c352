set_option maxHeartbeats 4000000 in
set_option maxRecDepth 100000 in
theorem r_X2_readNumber (l : Launch) (dC : Nat → ClassId) (dI : Nat → Nat → Nat) (L : List Nat) (kd : Nat → Nat) (tys : List (ClassId × FieldType)) (f0 : Nat → va_E) (sz : Nat) (hWT : WT L kd tys f0) (a0_ : Nat) (ma0_ : a0_ ∈ L) (ka0_ : kd a0_ = 2) (x1_ : Int32) (q0_ : Nat) (mq0_ : q0_ ∈ L) (kq0_ : kd q0_ = 8) (hfx : Fs L kd f0 [(2, 0, a0_, .ref q0_)]) : Met l yX2_readNumber (.code yX2_readNumber cX2_readNumber 4 (some .int) :: lw_g) ({ frames := 1, cells := 0, slots := 0, locals := 23 }) (va_Pc [.ref a0_, .int x1_] (P3 (dC, dI) L tys f0 sz)) (va_Qi (fun (r : Int32) (f : Nat → va_E) => (∃ z0_ : Int32, bd 1 1201 z0_ ∧ Fs L kd f [(8, 6, q0_, .int z0_)])) (Q3 (dC, dI) L kd tys [(8, 6), (8, 8), (8, 9)] [] f0 sz) (pA L sz)) 0 0 (pA L sz) := by
  refine Met.ofW (cc := cX2_readNumber) (maxL := 4) (ret := (some .int)) (by decide) rfl ?_
  intro p e s m args below meth c s₁ B hml hv
  obtain ⟨rfl, hsz, hP, hK, hD0⟩ := hv
  have hx := B.exec
  have hb := B.bytes
  have hr := B.returns
  have hts := atoms_spec (ws := (.code yX2_readNumber cX2_readNumber 4 (some .int) :: lw_g)) B.pre
  have hown : s.vm.findClass RX2 = some m.cls := findClass_of_methodNamed B.named
  have hlocks := B.notSynchronized
  subst hsz
  have g : G3 (dC, dI) L kd tys s f0 [(8, 6), (8, 8), (8, 9)] [] f0 s.heap [] [(2, 0, a0_, .ref q0_)] := G3.start hP hD0 hWT hfx
  have hl := lv_entry ([.ref a0_, .int x1_]) (n := 4) (Nat.le_of_ble_eq_true rfl)
  rw [lg_entry_eq]
  generalize (lg_sl ([.ref a0_, .int x1_]) ++ List.replicate (4 - (lg_sl ([.ref a0_, .int x1_])).length) Slot.unset).toArray = ls at hl ⊢
  have hl : lv_has ls 4 [(0, .ref a0_), (1, .int x1_)] := hl
  refine W_q (fun Q hQ => ?_)
  refine lv_aload_n hx hb dX2_readNumber_0 rfl (lv_at hl 0 rfl) ?_
  refine g_getk (C := RX2) (T := TX2) (N := 16) hx hb hts (mc_ inX2) hown hK g rfl 0 (by decide) rfl (hts _ (List.mem_cons_of_mem _ t_416)) (fun _ h9 => h9) 0 rfl dX2_readNumber_1 ?_
  refine g_calli (va_runV (As := []) (rest := []) ⟨hx, hb, hml, hown, hts⟩ (r_X8_kind l dC dI L kd tys f0 s.heap.size g.2.2.2.1 q0_ mq0_ kq0_) (cwV 0 hts (gV_ t_1118 t_1119 t_1120 t_184 t_1121) rfl rfl rfl (by decide +kernel) ⟨(Nat.le_of_ble_eq_true rfl), (Nat.le_of_ble_eq_true rfl)⟩) (pre3V g hK mq0_ kq0_ (by decide) (q := (RX8, TX8, 10)) rfl) rfl rfl hl.1 rfl (lv_room (Nat.le_of_ble_eq_true rfl)) dX2_readNumber_4 ⟨(Nat.le_of_ble_eq_true rfl), (Nat.le_of_ble_eq_true rfl)⟩) g hK (by decide) (by decide) (fx' := [(2, 0, a0_, .ref q0_)]) rfl (fun r_1 fr_1 H locs hp hMr_1 g => ?_)
  refine lv_bipush (v := 45) hx hb dX2_readNumber_7 (by decide) ?_
  have kb_45 : bd 45 45 (45 : Int32) := ⟨by decide, by decide⟩
  refine lv_icmp_ne (tgt := 16) hx hb dX2_readNumber_9 (by decide) (fun c_2 => ?_) (fun c_2 => ?_)
  · have fc_2 := neq_f c_2
    refine lv_iconst (v := 0) hx hb dX2_readNumber_16 (by decide) ?_
    refine lv_istore_n (lv' := [(2, .int 0), (0, .ref a0_), (1, .int x1_)]) hx hb dX2_readNumber_17 rfl hl (by decide) rfl (fun ls hl => ?_)
    refine lv_iload_n hx hb dX2_readNumber_18 rfl (lv_at hl 0 rfl) ?_
    refine lv_if_eq (tgt := 29) hx hb dX2_readNumber_19 (by decide) (fun c_ => ?_) (fun c_ => absurd (by decide) c_)
    refine lv_iload_n hx hb dX2_readNumber_29 rfl (lv_at hl 0 rfl) ?_
    refine lv_if_eq (tgt := 45) hx hb dX2_readNumber_30 (by decide) (fun c_ => ?_) (fun c_ => absurd (by decide) c_)
    refine lv_aload_n hx hb dX2_readNumber_45 rfl (lv_at hl 1 rfl) ?_
    refine g_getk (C := RX2) (T := TX2) (N := 16) hx hb hts (mc_ inX2) hown hK g rfl 0 (by decide) rfl (hts _ (List.mem_cons_of_mem _ t_416)) (fun _ h9 => h9) 0 rfl dX2_readNumber_46 ?_
    refine g_calll (va_runV (As := []) (rest := []) ⟨hx, hb, hml, hown, hts⟩ (r_X8_value l dC dI L kd tys fr_1 H.size g.2.2.2.1 q0_ mq0_ kq0_) (cwV 0 hts (gV_ t_1114 t_1115 t_1116 t_184 t_1117) rfl rfl rfl (by decide +kernel) ⟨(Nat.le_of_ble_eq_true rfl), (Nat.le_of_ble_eq_true rfl)⟩) (pre3V g hK mq0_ kq0_ (by decide) (q := (RX8, TX8, 10)) rfl) rfl rfl hl.1 rfl (lv_room (Nat.le_of_ble_eq_true rfl)) dX2_readNumber_49 ⟨(Nat.le_of_ble_eq_true rfl), (Nat.le_of_ble_eq_true rfl)⟩) g hK (by decide) (by decide) (fx' := [(2, 0, a0_, .ref q0_)]) rfl (fun r_3 fr_3 H locs hp hMr_3 g => ?_)
    refine lv_l2i hx hb dX2_readNumber_52 rfl ?_
    refine lv_topi (fun y_4 ey_4 => ?_)
    refine lv_istore_n (lv' := [(3, .int y_4), (2, .int 0), (0, .ref a0_), (1, .int x1_)]) hx hb dX2_readNumber_53 rfl hl (by decide) rfl (fun ls hl => ?_)
    refine lv_aload_n hx hb dX2_readNumber_54 rfl (lv_at hl 2 rfl) ?_
    refine g_getk (C := RX2) (T := TX2) (N := 16) hx hb hts (mc_ inX2) hown hK g rfl 0 (by decide) rfl (hts _ (List.mem_cons_of_mem _ t_416)) (fun _ h9 => h9) 0 rfl dX2_readNumber_55 ?_
    refine g_calli (va_runV (As := []) (rest := []) ⟨hx, hb, hml, hown, hts⟩ (r_X8_kind l dC dI L kd tys fr_3 H.size g.2.2.2.1 q0_ mq0_ kq0_) (cwV 0 hts (gV_ t_1118 t_1119 t_1120 t_184 t_1121) rfl rfl rfl (by decide +kernel) ⟨(Nat.le_of_ble_eq_true rfl), (Nat.le_of_ble_eq_true rfl)⟩) (pre3V g hK mq0_ kq0_ (by decide) (q := (RX8, TX8, 10)) rfl) rfl rfl hl.1 rfl (lv_room (Nat.le_of_ble_eq_true rfl)) dX2_readNumber_58 ⟨(Nat.le_of_ble_eq_true rfl), (Nat.le_of_ble_eq_true rfl)⟩) g hK (by decide) (by decide) (fx' := [(2, 0, a0_, .ref q0_)]) rfl (fun r_5 fr_5 H locs hp hMr_5 g => ?_)
    refine lv_iconst (v := 4) hx hb dX2_readNumber_61 (by decide) ?_
    have kb_4 : bd 4 4 (4 : Int32) := ⟨by decide, by decide⟩
    refine lv_icmp_eq (tgt := 83) hx hb dX2_readNumber_62 (by decide) (fun c_6 => ?_) (fun c_6 => ?_)
    · have fc_6 := eq_f c_6
      have b_7 : bd 4 4 r_5 := eqX fc_6 (bdT r_5) kb_4 (by decide)
      refine lv_iload_n hx hb dX2_readNumber_83 rfl (lv_at hl 0 rfl) ?_
      refine lv_iload_n hx hb dX2_readNumber_84 rfl (lv_at hl 3 rfl) ?_
      refine lv_icmp_ge (tgt := 103) hx hb dX2_readNumber_85 (by decide) (fun c_8 => ?_) (fun c_8 => ?_)
      · have fc_8 := le_f c_8
        refine lv_aload_n hx hb dX2_readNumber_103 rfl (lv_at hl 2 rfl) ?_
        refine g_getk (C := RX2) (T := TX2) (N := 16) hx hb hts (mc_ inX2) hown hK g rfl 0 (by decide) rfl (hts _ (List.mem_cons_of_mem _ t_416)) (fun _ h9 => h9) 0 rfl dX2_readNumber_104 ?_
        refine g_callv (va_runV (As := []) (rest := []) ⟨hx, hb, hml, hown, hts⟩ (r_X8_next l dC dI L kd tys fr_5 H.size g.2.2.2.1 q0_ mq0_ kq0_) (cwV 0 hts (gV_ t_1131 t_1103 t_1104 t_184 t_1105) rfl rfl rfl (by decide +kernel) ⟨(Nat.le_of_ble_eq_true rfl), (Nat.le_of_ble_eq_true rfl)⟩) (pre3V g hK mq0_ kq0_ (by decide) (q := (RX8, TX8, 10)) rfl) rfl rfl hl.1 rfl (lv_room (Nat.le_of_ble_eq_true rfl)) dX2_readNumber_107 ⟨(Nat.le_of_ble_eq_true rfl), (Nat.le_of_ble_eq_true rfl)⟩) g hK (by decide) (by decide) (fx' := [(2, 0, a0_, .ref q0_)]) rfl (fun fr_9 H locs hp hMr_9 g => ?_)
        obtain ⟨x_10, h_11, hF_12⟩ := hp
        have g := g.more hF_12
        refine lv_iload_n hx hb dX2_readNumber_110 rfl (lv_at hl 0 rfl) ?_
        subst hQ
        exact W.iret (v := y_4) hx hb hr (fun t ht hW => ⟨⟨_, _, rfl, ⟨x_10, h_11, (g.fcts [0] rfl)⟩, q3_of g hK ht hW⟩, g.2.2.1.F ht⟩) g.2.2.1.2.2 dX2_readNumber_111
      · have fc_8 := nle_f c_8
        have b_13 : bd (-2147483648) 2147483646 y_4 := ltL fc_8 (bdT y_4) (bdT x1_) (by decide)
        have b_14 : bd (-2147483647) 2147483647 x1_ := ltR fc_8 (bdT y_4) (bdT x1_) (by decide)
        refine lv_aload_n hx hb dX2_readNumber_88 rfl (lv_at hl 2 rfl) ?_
        refine g_getk (C := RX2) (T := TX2) (N := 16) hx hb hts (mc_ inX2) hown hK g rfl 0 (by decide) rfl (hts _ (List.mem_cons_of_mem _ t_416)) (fun _ h9 => h9) 0 rfl dX2_readNumber_89 ?_
        refine lv_iconst (v := 3) hx hb dX2_readNumber_92 (by decide) ?_
        refine lv_aload_n hx hb dX2_readNumber_93 rfl (lv_at hl 2 rfl) ?_
        refine g_getk (C := RX2) (T := TX2) (N := 16) hx hb hts (mc_ inX2) hown hK g rfl 0 (by decide) rfl (hts _ (List.mem_cons_of_mem _ t_416)) (fun _ h9 => h9) 0 rfl dX2_readNumber_94 ?_
        refine g_calli (va_runV (As := []) (rest := [.int 3, .ref q0_]) ⟨hx, hb, hml, hown, hts⟩ (r_X8_place l dC dI L kd tys fr_5 H.size g.2.2.2.1 q0_ mq0_ kq0_) (cwV 0 hts (gV_ t_1110 t_1111 t_1112 t_184 t_1113) rfl rfl rfl (by decide +kernel) ⟨(Nat.le_of_ble_eq_true rfl), (Nat.le_of_ble_eq_true rfl)⟩) (pre3V g hK mq0_ kq0_ (by decide) (q := (RX8, TX8, 10)) rfl) rfl rfl hl.1 rfl (lv_room (Nat.le_of_ble_eq_true rfl)) dX2_readNumber_97 ⟨(Nat.le_of_ble_eq_true rfl), (Nat.le_of_ble_eq_true rfl)⟩) g hK (by decide) (by decide) (fx' := [(2, 0, a0_, .ref q0_)]) rfl (fun r_15 fr_15 H locs hp hMr_15 g => ?_)
        have kb_3 : bd 3 3 (3 : Int32) := ⟨by decide, by decide⟩
        refine g_callv (va_runV (As := [.int 3, .int r_15]) (rest := []) ⟨hx, hb, hml, hown, hts⟩ (r_X8_fail_13 l dC dI L kd tys fr_15 H.size g.2.2.2.1 q0_ mq0_ kq0_ 3 kb_3 r_15) (cwV 2 hts (gV_ t_1122 t_1107 t_1108 t_184 t_1109) rfl rfl rfl (by decide +kernel) ⟨(Nat.le_of_ble_eq_true rfl), (Nat.le_of_ble_eq_true rfl)⟩) (pre3V g hK mq0_ kq0_ (by decide) (q := (RX8, TX8, 10)) rfl) rfl rfl hl.1 rfl (lv_room (Nat.le_of_ble_eq_true rfl)) dX2_readNumber_100 ⟨(Nat.le_of_ble_eq_true rfl), (Nat.le_of_ble_eq_true rfl)⟩) g hK (by decide) (by decide) (fx' := [(2, 0, a0_, .ref q0_)]) rfl (fun fr_16 H locs hp hMr_16 g => ?_)
        obtain ⟨x_17, h_18, hF_19⟩ := hp
        have g := g.more hF_19
        refine lv_aload_n hx hb dX2_readNumber_103 rfl (lv_at hl 2 rfl) ?_
        refine g_getk (C := RX2) (T := TX2) (N := 16) hx hb hts (mc_ inX2) hown hK g rfl 0 (by decide) rfl (hts _ (List.mem_cons_of_mem _ t_416)) (fun _ h9 => h9) 2 rfl dX2_readNumber_104 ?_
        refine g_callv (va_runV (As := []) (rest := []) ⟨hx, hb, hml, hown, hts⟩ (r_X8_next l dC dI L kd tys fr_16 H.size g.2.2.2.1 q0_ mq0_ kq0_) (cwV 0 hts (gV_ t_1131 t_1103 t_1104 t_184 t_1105) rfl rfl rfl (by decide +kernel) ⟨(Nat.le_of_ble_eq_true rfl), (Nat.le_of_ble_eq_true rfl)⟩) (pre3V g hK mq0_ kq0_ (by decide) (q := (RX8, TX8, 10)) rfl) rfl rfl hl.1 rfl (lv_room (Nat.le_of_ble_eq_true rfl)) dX2_readNumber_107 ⟨(Nat.le_of_ble_eq_true rfl), (Nat.le_of_ble_eq_true rfl)⟩) g hK (by decide) (by decide) (fx' := [(8, 8, q0_, .int x_17), (2, 0, a0_, .ref q0_)]) rfl (fun fr_20 H locs hp hMr_20 g => ?_)
        obtain ⟨x_21, h_22, hF_23⟩ := hp
        have g := g.more hF_23
        refine lv_iload_n hx hb dX2_readNumber_110 rfl (lv_at hl 0 rfl) ?_
        subst hQ
        exact W.iret (v := y_4) hx hb hr (fun t ht hW => ⟨⟨_, _, rfl, ⟨x_21, h_22, (g.fcts [0] rfl)⟩, q3_of g hK ht hW⟩, g.2.2.1.F ht⟩) g.2.2.1.2.2 dX2_readNumber_111
    · have fc_6 := neq_f c_6
      refine lv_aload_n hx hb dX2_readNumber_65 rfl (lv_at hl 2 rfl) ?_
      refine g_getk (C := RX2) (T := TX2) (N := 16) hx hb hts (mc_ inX2) hown hK g rfl 0 (by decide) rfl (hts _ (List.mem_cons_of_mem _ t_416)) (fun _ h9 => h9) 0 rfl dX2_readNumber_66 ?_
      refine lv_iconst (v := 1) hx hb dX2_readNumber_69 (by decide) ?_
      refine lv_aload_n hx hb dX2_readNumber_70 rfl (lv_at hl 2 rfl) ?_
      refine g_getk (C := RX2) (T := TX2) (N := 16) hx hb hts (mc_ inX2) hown hK g rfl 0 (by decide) rfl (hts _ (List.mem_cons_of_mem _ t_416)) (fun _ h9 => h9) 0 rfl dX2_readNumber_71 ?_
      refine g_calli (va_runV (As := []) (rest := [.int 1, .ref q0_]) ⟨hx, hb, hml, hown, hts⟩ (r_X8_place l dC dI L kd tys fr_5 H.size g.2.2.2.1 q0_ mq0_ kq0_) (cwV 0 hts (gV_ t_1110 t_1111 t_1112 t_184 t_1113) rfl rfl rfl (by decide +kernel) ⟨(Nat.le_of_ble_eq_true rfl), (Nat.le_of_ble_eq_true rfl)⟩) (pre3V g hK mq0_ kq0_ (by decide) (q := (RX8, TX8, 10)) rfl) rfl rfl hl.1 rfl (lv_room (Nat.le_of_ble_eq_true rfl)) dX2_readNumber_74 ⟨(Nat.le_of_ble_eq_true rfl), (Nat.le_of_ble_eq_true rfl)⟩) g hK (by decide) (by decide) (fx' := [(2, 0, a0_, .ref q0_)]) rfl (fun r_24 fr_24 H locs hp hMr_24 g => ?_)
      have kb_1 : bd 1 1 (1 : Int32) := ⟨by decide, by decide⟩
      refine g_callv (va_runV (As := [.int 1, .int r_24]) (rest := []) ⟨hx, hb, hml, hown, hts⟩ (r_X8_fail_6 l dC dI L kd tys fr_24 H.size g.2.2.2.1 q0_ mq0_ kq0_ 1 kb_1 r_24) (cwV 2 hts (gV_ t_1122 t_1107 t_1108 t_184 t_1109) rfl rfl rfl (by decide +kernel) ⟨(Nat.le_of_ble_eq_true rfl), (Nat.le_of_ble_eq_true rfl)⟩) (pre3V g hK mq0_ kq0_ (by decide) (q := (RX8, TX8, 10)) rfl) rfl rfl hl.1 rfl (lv_room (Nat.le_of_ble_eq_true rfl)) dX2_readNumber_77 ⟨(Nat.le_of_ble_eq_true rfl), (Nat.le_of_ble_eq_true rfl)⟩) g hK (by decide) (by decide) (fx' := [(2, 0, a0_, .ref q0_)]) rfl (fun fr_25 H locs hp hMr_25 g => ?_)
      obtain ⟨x_26, h_27, hF_28⟩ := hp
      have g := g.more hF_28
      refine lv_goto (tgt := 103) hx hb dX2_readNumber_80 (by decide) ?_
      refine lv_aload_n hx hb dX2_readNumber_103 rfl (lv_at hl 2 rfl) ?_
      refine g_getk (C := RX2) (T := TX2) (N := 16) hx hb hts (mc_ inX2) hown hK g rfl 0 (by decide) rfl (hts _ (List.mem_cons_of_mem _ t_416)) (fun _ h9 => h9) 2 rfl dX2_readNumber_104 ?_
      refine g_callv (va_runV (As := []) (rest := []) ⟨hx, hb, hml, hown, hts⟩ (r_X8_next l dC dI L kd tys fr_25 H.size g.2.2.2.1 q0_ mq0_ kq0_) (cwV 0 hts (gV_ t_1131 t_1103 t_1104 t_184 t_1105) rfl rfl rfl (by decide +kernel) ⟨(Nat.le_of_ble_eq_true rfl), (Nat.le_of_ble_eq_true rfl)⟩) (pre3V g hK mq0_ kq0_ (by decide) (q := (RX8, TX8, 10)) rfl) rfl rfl hl.1 rfl (lv_room (Nat.le_of_ble_eq_true rfl)) dX2_readNumber_107 ⟨(Nat.le_of_ble_eq_true rfl), (Nat.le_of_ble_eq_true rfl)⟩) g hK (by decide) (by decide) (fx' := [(8, 8, q0_, .int x_26), (2, 0, a0_, .ref q0_)]) rfl (fun fr_29 H locs hp hMr_29 g => ?_)
      obtain ⟨x_30, h_31, hF_32⟩ := hp
      have g := g.more hF_32
      refine lv_iload_n hx hb dX2_readNumber_110 rfl (lv_at hl 0 rfl) ?_
      subst hQ
      exact W.iret (v := y_4) hx hb hr (fun t ht hW => ⟨⟨_, _, rfl, ⟨x_30, h_31, (g.fcts [0] rfl)⟩, q3_of g hK ht hW⟩, g.2.2.1.F ht⟩) g.2.2.1.2.2 dX2_readNumber_111
  · have fc_2 := eq_f c_2
    have b_33 : bd 45 45 r_1 := eqX fc_2 (bdT r_1) kb_45 (by decide)
    refine lv_iconst (v := 1) hx hb dX2_readNumber_12 (by decide) ?_
    refine lv_goto (tgt := 17) hx hb dX2_readNumber_13 (by decide) ?_
    refine lv_istore_n (lv' := [(2, .int 1), (0, .ref a0_), (1, .int x1_)]) hx hb dX2_readNumber_17 rfl hl (by decide) rfl (fun ls hl => ?_)
    refine lv_iload_n hx hb dX2_readNumber_18 rfl (lv_at hl 0 rfl) ?_
    refine lv_if_eq (tgt := 29) hx hb dX2_readNumber_19 (by decide) (fun c_ => absurd c_ (by decide)) (fun c_ => ?_)
    refine lv_aload_n hx hb dX2_readNumber_22 rfl (lv_at hl 1 rfl) ?_
    refine g_getk (C := RX2) (T := TX2) (N := 16) hx hb hts (mc_ inX2) hown hK g rfl 0 (by decide) rfl (hts _ (List.mem_cons_of_mem _ t_416)) (fun _ h9 => h9) 0 rfl dX2_readNumber_23 ?_
    refine g_callv (va_runV (As := []) (rest := []) ⟨hx, hb, hml, hown, hts⟩ (r_X8_next l dC dI L kd tys fr_1 H.size g.2.2.2.1 q0_ mq0_ kq0_) (cwV 0 hts (gV_ t_1131 t_1103 t_1104 t_184 t_1105) rfl rfl rfl (by decide +kernel) ⟨(Nat.le_of_ble_eq_true rfl), (Nat.le_of_ble_eq_true rfl)⟩) (pre3V g hK mq0_ kq0_ (by decide) (q := (RX8, TX8, 10)) rfl) rfl rfl hl.1 rfl (lv_room (Nat.le_of_ble_eq_true rfl)) dX2_readNumber_26 ⟨(Nat.le_of_ble_eq_true rfl), (Nat.le_of_ble_eq_true rfl)⟩) g hK (by decide) (by decide) (fx' := [(2, 0, a0_, .ref q0_)]) rfl (fun fr_34 H locs hp hMr_34 g => ?_)
    obtain ⟨x_35, h_36, hF_37⟩ := hp
    have g := g.more hF_37
    refine lv_iload_n hx hb dX2_readNumber_29 rfl (lv_at hl 0 rfl) ?_
    refine lv_if_eq (tgt := 45) hx hb dX2_readNumber_30 (by decide) (fun c_ => absurd c_ (by decide)) (fun c_ => ?_)
    refine lv_aload_n hx hb dX2_readNumber_33 rfl (lv_at hl 1 rfl) ?_
    refine g_getk (C := RX2) (T := TX2) (N := 16) hx hb hts (mc_ inX2) hown hK g rfl 0 (by decide) rfl (hts _ (List.mem_cons_of_mem _ t_416)) (fun _ h9 => h9) 1 rfl dX2_readNumber_34 ?_
    refine g_calll (va_runV (As := []) (rest := []) ⟨hx, hb, hml, hown, hts⟩ (r_X8_value l dC dI L kd tys fr_34 H.size g.2.2.2.1 q0_ mq0_ kq0_) (cwV 0 hts (gV_ t_1114 t_1115 t_1116 t_184 t_1117) rfl rfl rfl (by decide +kernel) ⟨(Nat.le_of_ble_eq_true rfl), (Nat.le_of_ble_eq_true rfl)⟩) (pre3V g hK mq0_ kq0_ (by decide) (q := (RX8, TX8, 10)) rfl) rfl rfl hl.1 rfl (lv_room (Nat.le_of_ble_eq_true rfl)) dX2_readNumber_37 ⟨(Nat.le_of_ble_eq_true rfl), (Nat.le_of_ble_eq_true rfl)⟩) g hK (by decide) (by decide) (fx' := [(8, 6, q0_, .int x_35), (2, 0, a0_, .ref q0_)]) rfl (fun r_38 fr_38 H locs hp hMr_38 g => ?_)
    refine lv_lneg hx hb dX2_readNumber_40 ?_
    refine lv_topl (fun y_39 ey_39 => ?_)
    refine lv_l2i hx hb dX2_readNumber_41 rfl ?_
    refine lv_topi (fun y_40 ey_40 => ?_)
    refine lv_goto (tgt := 53) hx hb dX2_readNumber_42 (by decide) ?_
    refine lv_istore_n (lv' := [(3, .int y_40), (2, .int 1), (0, .ref a0_), (1, .int x1_)]) hx hb dX2_readNumber_53 rfl hl (by decide) rfl (fun ls hl => ?_)
    refine lv_aload_n hx hb dX2_readNumber_54 rfl (lv_at hl 2 rfl) ?_
    refine g_getk (C := RX2) (T := TX2) (N := 16) hx hb hts (mc_ inX2) hown hK g rfl 0 (by decide) rfl (hts _ (List.mem_cons_of_mem _ t_416)) (fun _ h9 => h9) 1 rfl dX2_readNumber_55 ?_
    refine g_calli (va_runV (As := []) (rest := []) ⟨hx, hb, hml, hown, hts⟩ (r_X8_kind l dC dI L kd tys fr_38 H.size g.2.2.2.1 q0_ mq0_ kq0_) (cwV 0 hts (gV_ t_1118 t_1119 t_1120 t_184 t_1121) rfl rfl rfl (by decide +kernel) ⟨(Nat.le_of_ble_eq_true rfl), (Nat.le_of_ble_eq_true rfl)⟩) (pre3V g hK mq0_ kq0_ (by decide) (q := (RX8, TX8, 10)) rfl) rfl rfl hl.1 rfl (lv_room (Nat.le_of_ble_eq_true rfl)) dX2_readNumber_58 ⟨(Nat.le_of_ble_eq_true rfl), (Nat.le_of_ble_eq_true rfl)⟩) g hK (by decide) (by decide) (fx' := [(8, 6, q0_, .int x_35), (2, 0, a0_, .ref q0_)]) rfl (fun r_41 fr_41 H locs hp hMr_41 g => ?_)
    refine lv_iconst (v := 4) hx hb dX2_readNumber_61 (by decide) ?_
    have kb_4 : bd 4 4 (4 : Int32) := ⟨by decide, by decide⟩
    refine lv_icmp_eq (tgt := 83) hx hb dX2_readNumber_62 (by decide) (fun c_42 => ?_) (fun c_42 => ?_)
    · have fc_42 := eq_f c_42
      have b_43 : bd 4 4 r_41 := eqX fc_42 (bdT r_41) kb_4 (by decide)
      refine lv_iload_n hx hb dX2_readNumber_83 rfl (lv_at hl 0 rfl) ?_
      refine lv_iload_n hx hb dX2_readNumber_84 rfl (lv_at hl 3 rfl) ?_
      refine lv_icmp_ge (tgt := 103) hx hb dX2_readNumber_85 (by decide) (fun c_44 => ?_) (fun c_44 => ?_)
      · have fc_44 := le_f c_44
        refine lv_aload_n hx hb dX2_readNumber_103 rfl (lv_at hl 2 rfl) ?_
        refine g_getk (C := RX2) (T := TX2) (N := 16) hx hb hts (mc_ inX2) hown hK g rfl 0 (by decide) rfl (hts _ (List.mem_cons_of_mem _ t_416)) (fun _ h9 => h9) 1 rfl dX2_readNumber_104 ?_
        refine g_callv (va_runV (As := []) (rest := []) ⟨hx, hb, hml, hown, hts⟩ (r_X8_next l dC dI L kd tys fr_41 H.size g.2.2.2.1 q0_ mq0_ kq0_) (cwV 0 hts (gV_ t_1131 t_1103 t_1104 t_184 t_1105) rfl rfl rfl (by decide +kernel) ⟨(Nat.le_of_ble_eq_true rfl), (Nat.le_of_ble_eq_true rfl)⟩) (pre3V g hK mq0_ kq0_ (by decide) (q := (RX8, TX8, 10)) rfl) rfl rfl hl.1 rfl (lv_room (Nat.le_of_ble_eq_true rfl)) dX2_readNumber_107 ⟨(Nat.le_of_ble_eq_true rfl), (Nat.le_of_ble_eq_true rfl)⟩) g hK (by decide) (by decide) (fx' := [(2, 0, a0_, .ref q0_)]) rfl (fun fr_45 H locs hp hMr_45 g => ?_)
        obtain ⟨x_46, h_47, hF_48⟩ := hp
        have g := g.more hF_48
        refine lv_iload_n hx hb dX2_readNumber_110 rfl (lv_at hl 0 rfl) ?_
        subst hQ
        exact W.iret (v := y_40) hx hb hr (fun t ht hW => ⟨⟨_, _, rfl, ⟨x_46, h_47, (g.fcts [0] rfl)⟩, q3_of g hK ht hW⟩, g.2.2.1.F ht⟩) g.2.2.1.2.2 dX2_readNumber_111
      · have fc_44 := nle_f c_44
        have b_49 : bd (-2147483648) 2147483646 y_40 := ltL fc_44 (bdT y_40) (bdT x1_) (by decide)
        have b_50 : bd (-2147483647) 2147483647 x1_ := ltR fc_44 (bdT y_40) (bdT x1_) (by decide)
        refine lv_aload_n hx hb dX2_readNumber_88 rfl (lv_at hl 2 rfl) ?_
        refine g_getk (C := RX2) (T := TX2) (N := 16) hx hb hts (mc_ inX2) hown hK g rfl 0 (by decide) rfl (hts _ (List.mem_cons_of_mem _ t_416)) (fun _ h9 => h9) 1 rfl dX2_readNumber_89 ?_
        refine lv_iconst (v := 3) hx hb dX2_readNumber_92 (by decide) ?_
        refine lv_aload_n hx hb dX2_readNumber_93 rfl (lv_at hl 2 rfl) ?_
        refine g_getk (C := RX2) (T := TX2) (N := 16) hx hb hts (mc_ inX2) hown hK g rfl 0 (by decide) rfl (hts _ (List.mem_cons_of_mem _ t_416)) (fun _ h9 => h9) 1 rfl dX2_readNumber_94 ?_
        refine g_calli (va_runV (As := []) (rest := [.int 3, .ref q0_]) ⟨hx, hb, hml, hown, hts⟩ (r_X8_place l dC dI L kd tys fr_41 H.size g.2.2.2.1 q0_ mq0_ kq0_) (cwV 0 hts (gV_ t_1110 t_1111 t_1112 t_184 t_1113) rfl rfl rfl (by decide +kernel) ⟨(Nat.le_of_ble_eq_true rfl), (Nat.le_of_ble_eq_true rfl)⟩) (pre3V g hK mq0_ kq0_ (by decide) (q := (RX8, TX8, 10)) rfl) rfl rfl hl.1 rfl (lv_room (Nat.le_of_ble_eq_true rfl)) dX2_readNumber_97 ⟨(Nat.le_of_ble_eq_true rfl), (Nat.le_of_ble_eq_true rfl)⟩) g hK (by decide) (by decide) (fx' := [(8, 6, q0_, .int x_35), (2, 0, a0_, .ref q0_)]) rfl (fun r_51 fr_51 H locs hp hMr_51 g => ?_)
        have kb_3 : bd 3 3 (3 : Int32) := ⟨by decide, by decide⟩
        refine g_callv (va_runV (As := [.int 3, .int r_51]) (rest := []) ⟨hx, hb, hml, hown, hts⟩ (r_X8_fail_12 l dC dI L kd tys fr_51 H.size g.2.2.2.1 q0_ mq0_ kq0_ 3 kb_3 r_51 x_35 h_36 (g.fcts [0] rfl)) (cwV 2 hts (gV_ t_1122 t_1107 t_1108 t_184 t_1109) rfl rfl rfl (by decide +kernel) ⟨(Nat.le_of_ble_eq_true rfl), (Nat.le_of_ble_eq_true rfl)⟩) (pre3V g hK mq0_ kq0_ (by decide) (q := (RX8, TX8, 10)) rfl) rfl rfl hl.1 rfl (lv_room (Nat.le_of_ble_eq_true rfl)) dX2_readNumber_100 ⟨(Nat.le_of_ble_eq_true rfl), (Nat.le_of_ble_eq_true rfl)⟩) g hK (by decide) (by decide) (fx' := [(2, 0, a0_, .ref q0_)]) rfl (fun fr_52 H locs hp hMr_52 g => ?_)
        obtain ⟨x_53, h_54, hF_55⟩ := hp
        have g := g.more hF_55
        refine lv_aload_n hx hb dX2_readNumber_103 rfl (lv_at hl 2 rfl) ?_
        refine g_getk (C := RX2) (T := TX2) (N := 16) hx hb hts (mc_ inX2) hown hK g rfl 0 (by decide) rfl (hts _ (List.mem_cons_of_mem _ t_416)) (fun _ h9 => h9) 2 rfl dX2_readNumber_104 ?_
        refine g_callv (va_runV (As := []) (rest := []) ⟨hx, hb, hml, hown, hts⟩ (r_X8_next l dC dI L kd tys fr_52 H.size g.2.2.2.1 q0_ mq0_ kq0_) (cwV 0 hts (gV_ t_1131 t_1103 t_1104 t_184 t_1105) rfl rfl rfl (by decide +kernel) ⟨(Nat.le_of_ble_eq_true rfl), (Nat.le_of_ble_eq_true rfl)⟩) (pre3V g hK mq0_ kq0_ (by decide) (q := (RX8, TX8, 10)) rfl) rfl rfl hl.1 rfl (lv_room (Nat.le_of_ble_eq_true rfl)) dX2_readNumber_107 ⟨(Nat.le_of_ble_eq_true rfl), (Nat.le_of_ble_eq_true rfl)⟩) g hK (by decide) (by decide) (fx' := [(8, 8, q0_, .int x_53), (2, 0, a0_, .ref q0_)]) rfl (fun fr_56 H locs hp hMr_56 g => ?_)
        obtain ⟨x_57, h_58, hF_59⟩ := hp
        have g := g.more hF_59
        refine lv_iload_n hx hb dX2_readNumber_110 rfl (lv_at hl 0 rfl) ?_
        subst hQ
        exact W.iret (v := y_40) hx hb hr (fun t ht hW => ⟨⟨_, _, rfl, ⟨x_57, h_58, (g.fcts [0] rfl)⟩, q3_of g hK ht hW⟩, g.2.2.1.F ht⟩) g.2.2.1.2.2 dX2_readNumber_111
    · have fc_42 := neq_f c_42
      refine lv_aload_n hx hb dX2_readNumber_65 rfl (lv_at hl 2 rfl) ?_
      refine g_getk (C := RX2) (T := TX2) (N := 16) hx hb hts (mc_ inX2) hown hK g rfl 0 (by decide) rfl (hts _ (List.mem_cons_of_mem _ t_416)) (fun _ h9 => h9) 1 rfl dX2_readNumber_66 ?_
      refine lv_iconst (v := 1) hx hb dX2_readNumber_69 (by decide) ?_
      refine lv_aload_n hx hb dX2_readNumber_70 rfl (lv_at hl 2 rfl) ?_
      refine g_getk (C := RX2) (T := TX2) (N := 16) hx hb hts (mc_ inX2) hown hK g rfl 0 (by decide) rfl (hts _ (List.mem_cons_of_mem _ t_416)) (fun _ h9 => h9) 1 rfl dX2_readNumber_71 ?_
      refine g_calli (va_runV (As := []) (rest := [.int 1, .ref q0_]) ⟨hx, hb, hml, hown, hts⟩ (r_X8_place l dC dI L kd tys fr_41 H.size g.2.2.2.1 q0_ mq0_ kq0_) (cwV 0 hts (gV_ t_1110 t_1111 t_1112 t_184 t_1113) rfl rfl rfl (by decide +kernel) ⟨(Nat.le_of_ble_eq_true rfl), (Nat.le_of_ble_eq_true rfl)⟩) (pre3V g hK mq0_ kq0_ (by decide) (q := (RX8, TX8, 10)) rfl) rfl rfl hl.1 rfl (lv_room (Nat.le_of_ble_eq_true rfl)) dX2_readNumber_74 ⟨(Nat.le_of_ble_eq_true rfl), (Nat.le_of_ble_eq_true rfl)⟩) g hK (by decide) (by decide) (fx' := [(8, 6, q0_, .int x_35), (2, 0, a0_, .ref q0_)]) rfl (fun r_60 fr_60 H locs hp hMr_60 g => ?_)
      have kb_1 : bd 1 1 (1 : Int32) := ⟨by decide, by decide⟩
      refine g_callv (va_runV (As := [.int 1, .int r_60]) (rest := []) ⟨hx, hb, hml, hown, hts⟩ (r_X8_fail_7 l dC dI L kd tys fr_60 H.size g.2.2.2.1 q0_ mq0_ kq0_ 1 kb_1 r_60 x_35 h_36 (g.fcts [0] rfl)) (cwV 2 hts (gV_ t_1122 t_1107 t_1108 t_184 t_1109) rfl rfl rfl (by decide +kernel) ⟨(Nat.le_of_ble_eq_true rfl), (Nat.le_of_ble_eq_true rfl)⟩) (pre3V g hK mq0_ kq0_ (by decide) (q := (RX8, TX8, 10)) rfl) rfl rfl hl.1 rfl (lv_room (Nat.le_of_ble_eq_true rfl)) dX2_readNumber_77 ⟨(Nat.le_of_ble_eq_true rfl), (Nat.le_of_ble_eq_true rfl)⟩) g hK (by decide) (by decide) (fx' := [(2, 0, a0_, .ref q0_)]) rfl (fun fr_61 H locs hp hMr_61 g => ?_)
      obtain ⟨x_62, h_63, hF_64⟩ := hp
      have g := g.more hF_64
      refine lv_goto (tgt := 103) hx hb dX2_readNumber_80 (by decide) ?_
      refine lv_aload_n hx hb dX2_readNumber_103 rfl (lv_at hl 2 rfl) ?_
      refine g_getk (C := RX2) (T := TX2) (N := 16) hx hb hts (mc_ inX2) hown hK g rfl 0 (by decide) rfl (hts _ (List.mem_cons_of_mem _ t_416)) (fun _ h9 => h9) 2 rfl dX2_readNumber_104 ?_
      refine g_callv (va_runV (As := []) (rest := []) ⟨hx, hb, hml, hown, hts⟩ (r_X8_next l dC dI L kd tys fr_61 H.size g.2.2.2.1 q0_ mq0_ kq0_) (cwV 0 hts (gV_ t_1131 t_1103 t_1104 t_184 t_1105) rfl rfl rfl (by decide +kernel) ⟨(Nat.le_of_ble_eq_true rfl), (Nat.le_of_ble_eq_true rfl)⟩) (pre3V g hK mq0_ kq0_ (by decide) (q := (RX8, TX8, 10)) rfl) rfl rfl hl.1 rfl (lv_room (Nat.le_of_ble_eq_true rfl)) dX2_readNumber_107 ⟨(Nat.le_of_ble_eq_true rfl), (Nat.le_of_ble_eq_true rfl)⟩) g hK (by decide) (by decide) (fx' := [(8, 8, q0_, .int x_62), (2, 0, a0_, .ref q0_)]) rfl (fun fr_65 H locs hp hMr_65 g => ?_)
      obtain ⟨x_66, h_67, hF_68⟩ := hp
      have g := g.more hF_68
      refine lv_iload_n hx hb dX2_readNumber_110 rfl (lv_at hl 0 rfl) ?_
      subst hQ
      exact W.iret (v := y_40) hx hb hr (fun t ht hW => ⟨⟨_, _, rfl, ⟨x_66, h_67, (g.fcts [0] rfl)⟩, q3_of g hK ht hW⟩, g.2.2.1.F ht⟩) g.2.2.1.2.2 dX2_readNumber_111
set_option maxHeartbeats 4000000 in
set_option maxRecDepth 100000 in
theorem r_X2_beginTelling (l : Launch) (dC : Nat → ClassId) (dI : Nat → Nat → Nat) (L : List Nat) (kd : Nat → Nat) (tys : List (ClassId × FieldType)) (f0 : Nat → va_E) (sz : Nat) (hWT : WT L kd tys f0) (a0_ : Nat) (ma0_ : a0_ ∈ L) (ka0_ : kd a0_ = 2) (x1_ : Int64) (x2_ : Int32) (x3_ : Int32) (bx3_ : bd 0 11 x3_) (q0_ : Nat) (mq0_ : q0_ ∈ L) (kq0_ : kd q0_ = 7) (q1_ : Nat) (mq1_ : q1_ ∈ L) (kq1_ : kd q1_ = 9) (hfx : Fs L kd f0 [(2, 3, a0_, .ref q0_), (2, 4, a0_, .ref q1_)]) : Met l yX2_beginTelling (.code yX2_beginTelling cX2_beginTelling 7 none :: lw_g) ({ frames := 1, cells := 0, slots := 0, locals := 14 }) (va_Pc [.ref a0_, .long x1_, .int x2_, .int x3_] (P3 (dC, dI) L tys f0 sz)) (va_Qv (fun (f : Nat → va_E) => (∃ z1_ : Int32, bd 1 12 z1_ ∧ ∃ z2_ : Nat, (z2_ ∈ L ∧ kd z2_ = 6) ∧ ∃ z3_ : Int32, bd 1 96 z3_ ∧ Fs L kd f [(2, 6, a0_, .int 0), (9, 8, q1_, .int z1_), (2, 5, a0_, .ref z2_), (7, 3, q0_, .int z3_)])) (Q3 (dC, dI) L kd tys [(2, 5), (2, 6), (6, 0), (6, 1), (6, 2), (6, 3), (6, 6), (6, 7), (6, 8), (6, 9), (6, 10), (6, 11), (6, 12), (7, 3), (9, 8)] [156] f0 sz) (pA L sz)) 0 0 (pA L sz) := by
  refine Met.ofW (cc := cX2_beginTelling) (maxL := 7) (ret := none) (by decide) rfl ?_
  intro p e s m args below meth c s₁ B hml hv
  obtain ⟨rfl, hsz, hP, hK, hD0⟩ := hv
  have hx := B.exec
  have hb := B.bytes
  have hr := B.returns
  have hts := atoms_spec (ws := (.code yX2_beginTelling cX2_beginTelling 7 none :: lw_g)) B.pre
  have hown : s.vm.findClass RX2 = some m.cls := findClass_of_methodNamed B.named
  have hlocks := B.notSynchronized
  subst hsz
  have g : G3 (dC, dI) L kd tys s f0 [(2, 5), (2, 6), (6, 0), (6, 1), (6, 2), (6, 3), (6, 6), (6, 7), (6, 8), (6, 9), (6, 10), (6, 11), (6, 12), (7, 3), (9, 8)] [156] f0 s.heap [] [(2, 3, a0_, .ref q0_), (2, 4, a0_, .ref q1_)] := G3.start hP hD0 hWT hfx
  have hl := lv_entry ([.ref a0_, .long x1_, .int x2_, .int x3_]) (n := 7) (Nat.le_of_ble_eq_true rfl)
  rw [lg_entry_eq]
  generalize (lg_sl ([.ref a0_, .long x1_, .int x2_, .int x3_]) ++ List.replicate (7 - (lg_sl ([.ref a0_, .long x1_, .int x2_, .int x3_])).length) Slot.unset).toArray = ls at hl ⊢
  have hl : lv_has ls 7 [(0, .ref a0_), (1, .long x1_), (3, .int x2_), (4, .int x3_)] := hl
  refine W_q (fun Q hQ => ?_)
  refine lv_aload_n hx hb dX2_beginTelling_0 rfl (lv_at hl 0 rfl) ?_
  refine g_getk (C := RX2) (T := TX2) (N := 16) hx hb hts (mc_ inX2) hown hK g rfl 3 (by decide) rfl (hts _ (List.mem_cons_of_mem _ t_419)) (fun _ h9 => h9) 0 rfl dX2_beginTelling_1 ?_
  refine g_geti (C := RX7) (T := TX7) (N := 19) hx hb hts (mc_ inX7) hown hK g mq0_ kq0_ (by decide) rfl 3 (by decide) rfl (hts _ (List.mem_cons_of_mem _ t_638)) (fun _ h9 => h9) rfl dX2_beginTelling_4 (fun x_1 bx_1 g => ?_)
  refine lv_bipush (v := 95) hx hb dX2_beginTelling_7 (by decide) ?_
  have kb_95 : bd 95 95 (95 : Int32) := ⟨by decide, by decide⟩
  refine va_mmin hx hb (hml.trans hl.1.symm) hown (hts _ (List.mem_cons_of_mem _ t_1311)) (hts _ (List.mem_cons_of_mem _ t_998)) (hts _ (List.mem_cons_of_mem _ t_204)) (hts _ (List.mem_cons_of_mem _ t_999)) (Nat.le_of_ble_eq_true rfl) (Nat.le_of_ble_eq_true rfl) (Nat.le_of_ble_eq_true rfl) (Nat.le_of_ble_eq_true rfl) dX2_beginTelling_9 ?_
  refine lv_topi (fun y_2 ey_2 => ?_)
  have ty_2 : y_2.toInt = min x_1.toInt (95 : Int32).toInt := by rw [ey_2]; exact mmin_ok _ _
  have b_3 : bd 0 95 y_2 := min_rg ty_2 bx_1 kb_95 (by decide)
  refine lv_istore (lv' := [(5, .int y_2), (0, .ref a0_), (1, .long x1_), (3, .int x2_), (4, .int x3_)]) hx hb dX2_beginTelling_12 hl (by decide) rfl (fun ls hl => ?_)
  refine lv_aload_n hx hb dX2_beginTelling_14 rfl (lv_at hl 1 rfl) ?_
  refine g_getk (C := RX2) (T := TX2) (N := 16) hx hb hts (mc_ inX2) hown hK g rfl 3 (by decide) rfl (hts _ (List.mem_cons_of_mem _ t_419)) (fun _ h9 => h9) 1 rfl dX2_beginTelling_15 ?_
  refine lv_iload hx hb dX2_beginTelling_18 (lv_at hl 0 rfl) ?_
  refine lv_iconst (v := 1) hx hb dX2_beginTelling_20 (by decide) ?_
  have kb_1 : bd 1 1 (1 : Int32) := ⟨by decide, by decide⟩
  refine lv_iadd hx hb dX2_beginTelling_21 ?_
  refine lv_topi (fun y_4 ey_4 => ?_)
  have ty_4 := add_bd ey_4 b_3 kb_1 (by decide)
  have b_5 : bd 1 96 y_4 := add_rg ty_4 b_3 kb_1 (by decide)
  refine g_put (C := RX7) (T := TX7) (N := 19) hx hb hts (mc_ inX7) tyX7 tyX7_ok nmX7 hown hK g mq0_ kq0_ (by decide) rfl 3 (by decide) (hts _ (List.mem_cons_of_mem _ t_638)) (fun _ h9 => h9) rfl rfl (okV_i (bd_sub b_5 (by decide))) rfl rfl (by decide) (Or.inr (Or.inl (by decide))) (fx' := [(2, 3, a0_, .ref q0_), (2, 4, a0_, .ref q1_)]) rfl dX2_beginTelling_22 (fun f H locs hM_6 g => ?_)
  refine lv_iload hx hb dX2_beginTelling_25 (lv_at hl 4 rfl) ?_
  refine lv_iconst (v := (-1)) hx hb dX2_beginTelling_27 (by decide) ?_
  have kb_m1 : bd (-1) (-1) ((-1) : Int32) := ⟨by decide, by decide⟩
  refine lv_icmp_ne (tgt := 41) hx hb dX2_beginTelling_28 (by decide) (fun c_7 => ?_) (fun c_7 => ?_)
  · have fc_7 := neq_f c_7
    refine lv_iload hx hb dX2_beginTelling_41 (lv_at hl 4 rfl) ?_
    refine lv_istore (lv' := [(6, .int x3_), (5, .int y_2), (0, .ref a0_), (1, .long x1_), (3, .int x2_), (4, .int x3_)]) hx hb dX2_beginTelling_43 hl (by decide) rfl (fun ls hl => ?_)
    refine lv_aload_n hx hb dX2_beginTelling_45 rfl (lv_at hl 2 rfl) ?_
    refine lv_aload_n hx hb dX2_beginTelling_46 rfl (lv_at hl 2 rfl) ?_
    refine g_getk (C := RX2) (T := TX2) (N := 16) hx hb hts (mc_ inX2) hown hK g rfl 3 (by decide) rfl (hts _ (List.mem_cons_of_mem _ t_419)) (fun _ h9 => h9) 1 rfl dX2_beginTelling_47 ?_
    refine g_getr (K := 137) (C := RX7) (T := TX7) (N := 19) hx hb hts (mc_ inX7) hown hK g mq0_ kq0_ (by decide) rfl 2 (by decide) rfl (hts _ (List.mem_cons_of_mem _ t_630)) (fun _ h9 => h9) rfl dX2_beginTelling_50 (fun a_8 ma_8 ka_8 g => ?_)
    refine lv_iload hx hb dX2_beginTelling_53 (lv_at hl 1 rfl) ?_
    refine g_aald hx hb hK g ma_8 ka_8 (by decide) rfl (by decide) (in_bd b_3 (by decide)) dX2_beginTelling_55 (fun a_9 ma_9 ua_9 wa_9 => ?_)
    have ka_9 : kd a_9 = 6 := by omega
    refine g_put (C := RX2) (T := TX2) (N := 16) hx hb hts (mc_ inX2) tyX2 tyX2_ok nmX2 hown hK g ma0_ ka0_ (by decide) rfl 5 (by decide) (hts _ (List.mem_cons_of_mem _ t_421)) (fun _ h9 => h9) rfl rfl (okV_n ma_9 ka_9 (by decide)) rfl rfl (by decide) (Or.inr (Or.inl (by decide))) (fx' := [(7, 2, q0_, .ref a_8), (7, 3, q0_, .int y_4), (2, 3, a0_, .ref q0_), (2, 4, a0_, .ref q1_)]) rfl dX2_beginTelling_56 (fun f H locs hM_10 g => ?_)
    refine lv_aload_n hx hb dX2_beginTelling_59 rfl (lv_at hl 2 rfl) ?_
    refine g_getk (C := RX2) (T := TX2) (N := 16) hx hb hts (mc_ inX2) hown hK g rfl 5 (by decide) rfl (hts _ (List.mem_cons_of_mem _ t_421)) (fun _ h9 => h9) 0 rfl dX2_beginTelling_60 ?_
    refine lv_lload_n hx hb dX2_beginTelling_63 rfl (lv_at hl 3 rfl) ?_
    refine g_put (C := RX6) (T := TX6) (N := 13) hx hb hts (mc_ inX6) tyX6 tyX6_ok nmX6 hown hK g ma_9 ka_9 (by decide) rfl 0 (by decide) (hts _ (List.mem_cons_of_mem _ t_556)) (fun _ h9 => h9) rfl rfl okV_l rfl rfl (by decide) (Or.inr (Or.inl (by decide))) (fx' := [(2, 5, a0_, .ref a_9), (7, 2, q0_, .ref a_8), (7, 3, q0_, .int y_4), (2, 3, a0_, .ref q0_), (2, 4, a0_, .ref q1_)]) rfl dX2_beginTelling_64 (fun f H locs hM_11 g => ?_)
    refine lv_aload_n hx hb dX2_beginTelling_67 rfl (lv_at hl 2 rfl) ?_
    refine g_getk (C := RX2) (T := TX2) (N := 16) hx hb hts (mc_ inX2) hown hK g rfl 5 (by decide) rfl (hts _ (List.mem_cons_of_mem _ t_421)) (fun _ h9 => h9) 1 rfl dX2_beginTelling_68 ?_
    refine lv_iload_n hx hb dX2_beginTelling_71 rfl (lv_at hl 4 rfl) ?_
    refine g_put (C := RX6) (T := TX6) (N := 13) hx hb hts (mc_ inX6) tyX6 tyX6_ok nmX6 hown hK g ma_9 ka_9 (by decide) rfl 1 (by decide) (hts _ (List.mem_cons_of_mem _ t_559)) (fun _ h9 => h9) rfl rfl (okV_i (bdT x2_)) rfl rfl (by decide) (Or.inr (Or.inl (by decide))) (fx' := [(6, 0, a_9, .long x1_), (2, 5, a0_, .ref a_9), (7, 2, q0_, .ref a_8), (7, 3, q0_, .int y_4), (2, 3, a0_, .ref q0_), (2, 4, a0_, .ref q1_)]) rfl dX2_beginTelling_72 (fun f H locs hM_12 g => ?_)
    refine lv_aload_n hx hb dX2_beginTelling_75 rfl (lv_at hl 2 rfl) ?_
    refine g_getk (C := RX2) (T := TX2) (N := 16) hx hb hts (mc_ inX2) hown hK g rfl 5 (by decide) rfl (hts _ (List.mem_cons_of_mem _ t_421)) (fun _ h9 => h9) 2 rfl dX2_beginTelling_76 ?_
    refine lv_aload_n hx hb dX2_beginTelling_79 rfl (lv_at hl 2 rfl) ?_
    refine g_getr (K := 5) (C := RX2) (T := TX2) (N := 16) hx hb hts (mc_ inX2) hown hK g ma0_ ka0_ (by decide) rfl 1 (by decide) rfl (hts _ (List.mem_cons_of_mem _ t_417)) (fun _ h9 => h9) rfl dX2_beginTelling_80 (fun a_13 ma_13 ka_13 g => ?_)
    refine g_geti (C := RX5) (T := TX5) (N := 9) hx hb hts (mc_ inX5) hown hK g ma_13 ka_13 (by decide) rfl 2 (by decide) rfl (hts _ (List.mem_cons_of_mem _ t_333)) (fun _ h9 => h9) rfl dX2_beginTelling_83 (fun x_14 bx_14 g => ?_)
    refine g_put (C := RX6) (T := TX6) (N := 13) hx hb hts (mc_ inX6) tyX6 tyX6_ok nmX6 hown hK g ma_9 ka_9 (by decide) rfl 2 (by decide) (hts _ (List.mem_cons_of_mem _ t_561)) (fun _ h9 => h9) rfl rfl (okV_i (bdT x_14)) rfl rfl (by decide) (Or.inr (Or.inl (by decide))) (fx' := [(5, 2, a_13, .int x_14), (2, 1, a0_, .ref a_13), (6, 1, a_9, .int x2_), (6, 0, a_9, .long x1_), (2, 5, a0_, .ref a_9), (7, 2, q0_, .ref a_8), (7, 3, q0_, .int y_4), (2, 3, a0_, .ref q0_), (2, 4, a0_, .ref q1_)]) rfl dX2_beginTelling_86 (fun f H locs hM_15 g => ?_)
    refine lv_aload_n hx hb dX2_beginTelling_89 rfl (lv_at hl 2 rfl) ?_
    refine g_getk (C := RX2) (T := TX2) (N := 16) hx hb hts (mc_ inX2) hown hK g rfl 5 (by decide) rfl (hts _ (List.mem_cons_of_mem _ t_421)) (fun _ h9 => h9) 5 rfl dX2_beginTelling_90 ?_
    refine lv_iconst (v := 0) hx hb dX2_beginTelling_93 (by decide) ?_
    have kb_0 : bd 0 0 (0 : Int32) := ⟨by decide, by decide⟩
    refine g_put (C := RX6) (T := TX6) (N := 13) hx hb hts (mc_ inX6) tyX6 tyX6_ok nmX6 hown hK g ma_9 ka_9 (by decide) rfl 3 (by decide) (hts _ (List.mem_cons_of_mem _ t_568)) (fun _ h9 => h9) rfl rfl (okV_i (bd_sub kb_0 (by decide))) rfl rfl (by decide) (Or.inr (Or.inl (by decide))) (fx' := [(6, 2, a_9, .int x_14), (5, 2, a_13, .int x_14), (2, 1, a0_, .ref a_13), (6, 1, a_9, .int x2_), (6, 0, a_9, .long x1_), (2, 5, a0_, .ref a_9), (7, 2, q0_, .ref a_8), (7, 3, q0_, .int y_4), (2, 3, a0_, .ref q0_), (2, 4, a0_, .ref q1_)]) rfl dX2_beginTelling_94 (fun f H locs hM_16 g => ?_)
    refine lv_aload_n hx hb dX2_beginTelling_97 rfl (lv_at hl 2 rfl) ?_
    refine g_getk (C := RX2) (T := TX2) (N := 16) hx hb hts (mc_ inX2) hown hK g rfl 5 (by decide) rfl (hts _ (List.mem_cons_of_mem _ t_421)) (fun _ h9 => h9) 6 rfl dX2_beginTelling_98 ?_
    refine lv_iconst (v := 0) hx hb dX2_beginTelling_101 (by decide) ?_
    refine g_put (C := RX6) (T := TX6) (N := 13) hx hb hts (mc_ inX6) tyX6 tyX6_ok nmX6 hown hK g ma_9 ka_9 (by decide) rfl 6 (by decide) (hts _ (List.mem_cons_of_mem _ t_578)) (fun _ h9 => h9) rfl rfl (okV_i (bd_sub kb_0 (by decide))) rfl rfl (by decide) (Or.inr (Or.inl (by decide))) (fx' := [(6, 3, a_9, .int 0), (6, 2, a_9, .int x_14), (5, 2, a_13, .int x_14), (2, 1, a0_, .ref a_13), (6, 1, a_9, .int x2_), (6, 0, a_9, .long x1_), (2, 5, a0_, .ref a_9), (7, 2, q0_, .ref a_8), (7, 3, q0_, .int y_4), (2, 3, a0_, .ref q0_), (2, 4, a0_, .ref q1_)]) rfl dX2_beginTelling_102 (fun f H locs hM_17 g => ?_)
    refine lv_aload_n hx hb dX2_beginTelling_105 rfl (lv_at hl 2 rfl) ?_
    refine g_getk (C := RX2) (T := TX2) (N := 16) hx hb hts (mc_ inX2) hown hK g rfl 5 (by decide) rfl (hts _ (List.mem_cons_of_mem _ t_421)) (fun _ h9 => h9) 7 rfl dX2_beginTelling_106 ?_
    refine lv_iload hx hb dX2_beginTelling_109 (lv_at hl 5 rfl) ?_
    refine lv_iconst (v := (-1)) hx hb dX2_beginTelling_111 (by decide) ?_
    refine lv_icmp_ne (tgt := 119) hx hb dX2_beginTelling_112 (by decide) (fun c_18 => ?_) (fun c_18 => ?_)
    · have fc_18 := neq_f c_18
      refine lv_aload_n hx hb dX2_beginTelling_119 rfl (lv_at hl 2 rfl) ?_
      refine g_getk (C := RX2) (T := TX2) (N := 16) hx hb hts (mc_ inX2) hown hK g rfl 4 (by decide) rfl (hts _ (List.mem_cons_of_mem _ t_420)) (fun _ h9 => h9) 11 rfl dX2_beginTelling_120 ?_
      refine g_getr (K := 156) (C := RX9) (T := TX9) (N := 13) hx hb hts (mc_ inX9) hown hK g mq1_ kq1_ (by decide) rfl 9 (by decide) rfl (hts _ (List.mem_cons_of_mem _ t_510)) (fun _ h9 => h9) rfl dX2_beginTelling_123 (fun a_19 ma_19 ka_19 g => ?_)
      refine lv_iload hx hb dX2_beginTelling_126 (lv_at hl 0 rfl) ?_
      refine g_iald hx hb hK g ma_19 ka_19 (by decide) rfl (in_bd bx3_ (by decide)) dX2_beginTelling_128 (fun x_20 bx_20 cx_20 => ?_)
      refine g_put (C := RX6) (T := TX6) (N := 13) hx hb hts (mc_ inX6) tyX6 tyX6_ok nmX6 hown hK g ma_9 ka_9 (by decide) rfl 7 (by decide) (hts _ (List.mem_cons_of_mem _ t_580)) (fun _ h9 => h9) rfl rfl (okV_i (bd_sub bx_20 (by decide))) rfl rfl (by decide) (Or.inr (Or.inl (by decide))) (fx' := [(9, 9, q1_, .ref a_19), (6, 6, a_9, .int 0), (6, 3, a_9, .int 0), (6, 2, a_9, .int x_14), (5, 2, a_13, .int x_14), (2, 1, a0_, .ref a_13), (6, 1, a_9, .int x2_), (6, 0, a_9, .long x1_), (2, 5, a0_, .ref a_9), (7, 2, q0_, .ref a_8), (7, 3, q0_, .int y_4), (2, 3, a0_, .ref q0_), (2, 4, a0_, .ref q1_)]) rfl dX2_beginTelling_129 (fun f H locs hM_21 g => ?_)
      refine lv_aload_n hx hb dX2_beginTelling_132 rfl (lv_at hl 2 rfl) ?_
      refine g_getk (C := RX2) (T := TX2) (N := 16) hx hb hts (mc_ inX2) hown hK g rfl 5 (by decide) rfl (hts _ (List.mem_cons_of_mem _ t_421)) (fun _ h9 => h9) 9 rfl dX2_beginTelling_133 ?_
      refine lv_iconst (v := 0) hx hb dX2_beginTelling_136 (by decide) ?_
      refine g_put (C := RX6) (T := TX6) (N := 13) hx hb hts (mc_ inX6) tyX6 tyX6_ok nmX6 hown hK g ma_9 ka_9 (by decide) rfl 8 (by decide) (hts _ (List.mem_cons_of_mem _ t_583)) (fun _ h9 => h9) rfl rfl (okV_i (bd_sub kb_0 (by decide))) rfl rfl (by decide) (Or.inr (Or.inl (by decide))) (fx' := [(6, 7, a_9, .int x_20), (9, 9, q1_, .ref a_19), (6, 6, a_9, .int 0), (6, 3, a_9, .int 0), (6, 2, a_9, .int x_14), (5, 2, a_13, .int x_14), (2, 1, a0_, .ref a_13), (6, 1, a_9, .int x2_), (6, 0, a_9, .long x1_), (2, 5, a0_, .ref a_9), (7, 2, q0_, .ref a_8), (7, 3, q0_, .int y_4), (2, 3, a0_, .ref q0_), (2, 4, a0_, .ref q1_)]) rfl dX2_beginTelling_137 (fun f H locs hM_22 g => ?_)
      refine lv_aload_n hx hb dX2_beginTelling_140 rfl (lv_at hl 2 rfl) ?_
      refine g_getk (C := RX2) (T := TX2) (N := 16) hx hb hts (mc_ inX2) hown hK g rfl 5 (by decide) rfl (hts _ (List.mem_cons_of_mem _ t_421)) (fun _ h9 => h9) 10 rfl dX2_beginTelling_141 ?_
      refine lv_aload_n hx hb dX2_beginTelling_144 rfl (lv_at hl 2 rfl) ?_
      refine g_getk (C := RX2) (T := TX2) (N := 16) hx hb hts (mc_ inX2) hown hK g rfl 3 (by decide) rfl (hts _ (List.mem_cons_of_mem _ t_419)) (fun _ h9 => h9) 13 rfl dX2_beginTelling_145 ?_
      refine g_geti (C := RX7) (T := TX7) (N := 19) hx hb hts (mc_ inX7) hown hK g mq0_ kq0_ (by decide) rfl 15 (by decide) rfl (hts _ (List.mem_cons_of_mem _ t_675)) (fun _ h9 => h9) rfl dX2_beginTelling_148 (fun x_23 bx_23 g => ?_)
      refine g_put (C := RX6) (T := TX6) (N := 13) hx hb hts (mc_ inX6) tyX6 tyX6_ok nmX6 hown hK g ma_9 ka_9 (by decide) rfl 9 (by decide) (hts _ (List.mem_cons_of_mem _ t_585)) (fun _ h9 => h9) rfl rfl (okV_i bx_23) rfl rfl (by decide) (Or.inr (Or.inl (by decide))) (fx' := [(7, 15, q0_, .int x_23), (6, 8, a_9, .int 0), (6, 7, a_9, .int x_20), (9, 9, q1_, .ref a_19), (6, 6, a_9, .int 0), (6, 3, a_9, .int 0), (6, 2, a_9, .int x_14), (5, 2, a_13, .int x_14), (2, 1, a0_, .ref a_13), (6, 1, a_9, .int x2_), (6, 0, a_9, .long x1_), (2, 5, a0_, .ref a_9), (7, 2, q0_, .ref a_8), (7, 3, q0_, .int y_4), (2, 3, a0_, .ref q0_), (2, 4, a0_, .ref q1_)]) rfl dX2_beginTelling_151 (fun f H locs hM_24 g => ?_)
      refine lv_aload_n hx hb dX2_beginTelling_154 rfl (lv_at hl 2 rfl) ?_
      refine g_getk (C := RX2) (T := TX2) (N := 16) hx hb hts (mc_ inX2) hown hK g rfl 5 (by decide) rfl (hts _ (List.mem_cons_of_mem _ t_421)) (fun _ h9 => h9) 12 rfl dX2_beginTelling_155 ?_
      refine lv_iconst (v := 0) hx hb dX2_beginTelling_158 (by decide) ?_
      refine g_put (C := RX6) (T := TX6) (N := 13) hx hb hts (mc_ inX6) tyX6 tyX6_ok nmX6 hown hK g ma_9 ka_9 (by decide) rfl 10 (by decide) (hts _ (List.mem_cons_of_mem _ t_588)) (fun _ h9 => h9) rfl rfl (okV_i (bd_sub kb_0 (by decide))) rfl rfl (by decide) (Or.inr (Or.inl (by decide))) (fx' := [(6, 9, a_9, .int x_23), (7, 15, q0_, .int x_23), (6, 8, a_9, .int 0), (6, 7, a_9, .int x_20), (9, 9, q1_, .ref a_19), (6, 6, a_9, .int 0), (6, 3, a_9, .int 0), (6, 2, a_9, .int x_14), (5, 2, a_13, .int x_14), (2, 1, a0_, .ref a_13), (6, 1, a_9, .int x2_), (6, 0, a_9, .long x1_), (2, 5, a0_, .ref a_9), (7, 2, q0_, .ref a_8), (7, 3, q0_, .int y_4), (2, 3, a0_, .ref q0_), (2, 4, a0_, .ref q1_)]) rfl dX2_beginTelling_159 (fun f H locs hM_25 g => ?_)
      refine lv_aload_n hx hb dX2_beginTelling_162 rfl (lv_at hl 2 rfl) ?_
      refine g_getk (C := RX2) (T := TX2) (N := 16) hx hb hts (mc_ inX2) hown hK g rfl 5 (by decide) rfl (hts _ (List.mem_cons_of_mem _ t_421)) (fun _ h9 => h9) 13 rfl dX2_beginTelling_163 ?_
      refine lv_aload_n hx hb dX2_beginTelling_166 rfl (lv_at hl 2 rfl) ?_
      refine g_getk (C := RX2) (T := TX2) (N := 16) hx hb hts (mc_ inX2) hown hK g rfl 3 (by decide) rfl (hts _ (List.mem_cons_of_mem _ t_419)) (fun _ h9 => h9) 16 rfl dX2_beginTelling_167 ?_
      refine g_geti (C := RX7) (T := TX7) (N := 19) hx hb hts (mc_ inX7) hown hK g mq0_ kq0_ (by decide) rfl 13 (by decide) rfl (hts _ (List.mem_cons_of_mem _ t_668)) (fun _ h9 => h9) rfl dX2_beginTelling_170 (fun x_26 bx_26 g => ?_)
      refine g_put (C := RX6) (T := TX6) (N := 13) hx hb hts (mc_ inX6) tyX6 tyX6_ok nmX6 hown hK g ma_9 ka_9 (by decide) rfl 11 (by decide) (hts _ (List.mem_cons_of_mem _ t_589)) (fun _ h9 => h9) rfl rfl (okV_i bx_26) rfl rfl (by decide) (Or.inr (Or.inl (by decide))) (fx' := [(7, 13, q0_, .int x_26), (6, 10, a_9, .int 0), (6, 9, a_9, .int x_23), (7, 15, q0_, .int x_23), (6, 8, a_9, .int 0), (6, 7, a_9, .int x_20), (9, 9, q1_, .ref a_19), (6, 6, a_9, .int 0), (6, 3, a_9, .int 0), (6, 2, a_9, .int x_14), (5, 2, a_13, .int x_14), (2, 1, a0_, .ref a_13), (6, 1, a_9, .int x2_), (6, 0, a_9, .long x1_), (2, 5, a0_, .ref a_9), (7, 2, q0_, .ref a_8), (7, 3, q0_, .int y_4), (2, 3, a0_, .ref q0_), (2, 4, a0_, .ref q1_)]) rfl dX2_beginTelling_173 (fun f H locs hM_27 g => ?_)
      refine lv_aload_n hx hb dX2_beginTelling_176 rfl (lv_at hl 2 rfl) ?_
      refine g_getk (C := RX2) (T := TX2) (N := 16) hx hb hts (mc_ inX2) hown hK g rfl 5 (by decide) rfl (hts _ (List.mem_cons_of_mem _ t_421)) (fun _ h9 => h9) 15 rfl dX2_beginTelling_177 ?_
      refine lv_iconst (v := 0) hx hb dX2_beginTelling_180 (by decide) ?_
      refine g_put (C := RX6) (T := TX6) (N := 13) hx hb hts (mc_ inX6) tyX6 tyX6_ok nmX6 hown hK g ma_9 ka_9 (by decide) rfl 12 (by decide) (hts _ (List.mem_cons_of_mem _ t_591)) (fun _ h9 => h9) rfl rfl (okV_i (bd_sub kb_0 (by decide))) rfl rfl (by decide) (Or.inr (Or.inl (by decide))) (fx' := [(6, 11, a_9, .int x_26), (7, 13, q0_, .int x_26), (6, 10, a_9, .int 0), (6, 9, a_9, .int x_23), (7, 15, q0_, .int x_23), (6, 8, a_9, .int 0), (6, 7, a_9, .int x_20), (9, 9, q1_, .ref a_19), (6, 6, a_9, .int 0), (6, 3, a_9, .int 0), (6, 2, a_9, .int x_14), (5, 2, a_13, .int x_14), (2, 1, a0_, .ref a_13), (6, 1, a_9, .int x2_), (6, 0, a_9, .long x1_), (2, 5, a0_, .ref a_9), (7, 2, q0_, .ref a_8), (7, 3, q0_, .int y_4), (2, 3, a0_, .ref q0_), (2, 4, a0_, .ref q1_)]) rfl dX2_beginTelling_181 (fun f H locs hM_28 g => ?_)
      refine lv_aload_n hx hb dX2_beginTelling_184 rfl (lv_at hl 2 rfl) ?_
      refine g_getk (C := RX2) (T := TX2) (N := 16) hx hb hts (mc_ inX2) hown hK g rfl 4 (by decide) rfl (hts _ (List.mem_cons_of_mem _ t_420)) (fun _ h9 => h9) 20 rfl dX2_beginTelling_185 ?_
      refine g_getk (C := RX9) (T := TX9) (N := 13) hx hb hts (mc_ inX9) hown hK g rfl 9 (by decide) rfl (hts _ (List.mem_cons_of_mem _ t_510)) (fun _ h9 => h9) 8 rfl dX2_beginTelling_188 ?_
      refine lv_iload hx hb dX2_beginTelling_191 (lv_at hl 0 rfl) ?_
      refine lv_iload hx hb dX2_beginTelling_193 (lv_at hl 1 rfl) ?_
      refine g_iast hx hb hK g ma_19 ka_19 (by decide) rfl (in_bd bx3_ (by decide)) b_3 (by decide) dX2_beginTelling_195 (fun f H locs hM_29 g => ?_)
      refine lv_aload_n hx hb dX2_beginTelling_196 rfl (lv_at hl 2 rfl) ?_
      refine g_getk (C := RX2) (T := TX2) (N := 16) hx hb hts (mc_ inX2) hown hK g rfl 4 (by decide) rfl (hts _ (List.mem_cons_of_mem _ t_420)) (fun _ h9 => h9) 20 rfl dX2_beginTelling_197 ?_
      refine lv_aload_n hx hb dX2_beginTelling_200 rfl (lv_at hl 2 rfl) ?_
      refine g_getk (C := RX2) (T := TX2) (N := 16) hx hb hts (mc_ inX2) hown hK g rfl 4 (by decide) rfl (hts _ (List.mem_cons_of_mem _ t_420)) (fun _ h9 => h9) 20 rfl dX2_beginTelling_201 ?_
      refine g_geti (C := RX9) (T := TX9) (N := 13) hx hb hts (mc_ inX9) hown hK g mq1_ kq1_ (by decide) rfl 8 (by decide) rfl (hts _ (List.mem_cons_of_mem _ t_502)) (fun _ h9 => h9) rfl dX2_beginTelling_204 (fun x_30 bx_30 g => ?_)
      refine lv_iload hx hb dX2_beginTelling_207 (lv_at hl 0 rfl) ?_
      refine lv_iconst (v := 1) hx hb dX2_beginTelling_209 (by decide) ?_
      refine lv_iadd hx hb dX2_beginTelling_210 ?_
      refine lv_topi (fun y_31 ey_31 => ?_)
      have ty_31 := add_bd ey_31 bx3_ kb_1 (by decide)
      have b_32 : bd 1 12 y_31 := add_rg ty_31 bx3_ kb_1 (by decide)
      refine va_mmax hx hb (hml.trans hl.1.symm) hown (hts _ (List.mem_cons_of_mem _ t_1312)) (hts _ (List.mem_cons_of_mem _ t_1041)) (hts _ (List.mem_cons_of_mem _ t_204)) (hts _ (List.mem_cons_of_mem _ t_1042)) (Nat.le_of_ble_eq_true rfl) (Nat.le_of_ble_eq_true rfl) (Nat.le_of_ble_eq_true rfl) (Nat.le_of_ble_eq_true rfl) dX2_beginTelling_211 ?_
      refine lv_topi (fun y_33 ey_33 => ?_)
      have ty_33 : y_33.toInt = max x_30.toInt y_31.toInt := by rw [ey_33]; exact mmax_ok _ _
      have b_34 : bd 1 12 y_33 := max_rg ty_33 bx_30 b_32 (by decide)
      refine g_put (C := RX9) (T := TX9) (N := 13) hx hb hts (mc_ inX9) tyX9 tyX9_ok nmX9 hown hK g mq1_ kq1_ (by decide) rfl 8 (by decide) (hts _ (List.mem_cons_of_mem _ t_502)) (fun _ h9 => h9) rfl rfl (okV_i (bd_sub b_34 (by decide))) rfl rfl (by decide) (Or.inr (Or.inl (by decide))) (fx' := [(6, 12, a_9, .int 0), (6, 11, a_9, .int x_26), (7, 13, q0_, .int x_26), (6, 10, a_9, .int 0), (6, 9, a_9, .int x_23), (7, 15, q0_, .int x_23), (6, 8, a_9, .int 0), (6, 7, a_9, .int x_20), (9, 9, q1_, .ref a_19), (6, 6, a_9, .int 0), (6, 3, a_9, .int 0), (6, 2, a_9, .int x_14), (5, 2, a_13, .int x_14), (2, 1, a0_, .ref a_13), (6, 1, a_9, .int x2_), (6, 0, a_9, .long x1_), (2, 5, a0_, .ref a_9), (7, 2, q0_, .ref a_8), (7, 3, q0_, .int y_4), (2, 3, a0_, .ref q0_), (2, 4, a0_, .ref q1_)]) rfl dX2_beginTelling_214 (fun f H locs hM_35 g => ?_)
      refine lv_aload_n hx hb dX2_beginTelling_217 rfl (lv_at hl 2 rfl) ?_
      refine lv_iconst (v := 0) hx hb dX2_beginTelling_218 (by decide) ?_
      refine g_put (C := RX2) (T := TX2) (N := 16) hx hb hts (mc_ inX2) tyX2 tyX2_ok nmX2 hown hK g ma0_ ka0_ (by decide) rfl 6 (by decide) (hts _ (List.mem_cons_of_mem _ t_422)) (fun _ h9 => h9) rfl rfl (okV_i (bd_sub kb_0 (by decide))) rfl rfl (by decide) (Or.inr (Or.inl (by decide))) (fx' := [(9, 8, q1_, .int y_33), (6, 12, a_9, .int 0), (6, 11, a_9, .int x_26), (7, 13, q0_, .int x_26), (6, 10, a_9, .int 0), (6, 9, a_9, .int x_23), (7, 15, q0_, .int x_23), (6, 8, a_9, .int 0), (6, 7, a_9, .int x_20), (9, 9, q1_, .ref a_19), (6, 6, a_9, .int 0), (6, 3, a_9, .int 0), (6, 2, a_9, .int x_14), (5, 2, a_13, .int x_14), (2, 1, a0_, .ref a_13), (6, 1, a_9, .int x2_), (6, 0, a_9, .long x1_), (2, 5, a0_, .ref a_9), (7, 2, q0_, .ref a_8), (7, 3, q0_, .int y_4), (2, 3, a0_, .ref q0_), (2, 4, a0_, .ref q1_)]) rfl dX2_beginTelling_219 (fun f H locs hM_36 g => ?_)
      subst hQ
      exact W.vret hx hb hr (fun t ht hW => ⟨⟨_, rfl, ⟨y_33, b_34, a_9, ⟨ma_9, ka_9⟩, y_4, b_5, (g.fcts [0, 1, 18, 20] rfl)⟩, q3_of g hK ht hW⟩, g.2.2.1.F ht⟩) g.2.2.1.2.2 dX2_beginTelling_222
    · have fc_18 := eq_f c_18
      have b_37 : bd 0 (-1) x3_ := eqX fc_18 bx3_ kb_m1 (by decide)
      exact bd_no b_37 (by decide)
  · have fc_7 := eq_f c_7
    have b_38 : bd 0 (-1) x3_ := eqX fc_7 bx3_ kb_m1 (by decide)
    exact bd_no b_38 (by decide)
set_option maxHeartbeats 4000000 in
set_option maxRecDepth 100000 in
theorem r_X8_fail_14 (l : Launch) (dC : Nat → ClassId) (dI : Nat → Nat → Nat) (L : List Nat) (kd : Nat → Nat) (tys : List (ClassId × FieldType)) (f0 : Nat → va_E) (sz : Nat) (hWT : WT L kd tys f0) (a0_ : Nat) (ma0_ : a0_ ∈ L) (ka0_ : kd a0_ = 8) (x1_ : Int32) (bx1_ : bd 2 2 x1_) (x2_ : Int32) : Met l yX8_fail (.code yX8_fail cX8_fail 4 none :: lw_g) ({ frames := 0, cells := 0, slots := 0, locals := 0 }) (va_Pc [.ref a0_, .int x1_, .int x2_] (P3 (dC, dI) L tys f0 sz)) (va_Qv (fun (f : Nat → va_E) => (∃ z1_ : Int32, bd 1 7 z1_ ∧ Fs L kd f [(8, 6, a0_, .int 1201), (8, 8, a0_, .int z1_)])) (Q3 (dC, dI) L kd tys [(8, 6), (8, 8), (8, 9)] [] f0 sz) (pA L sz)) 0 0 (pA L sz) := by
  refine Met.ofW (cc := cX8_fail) (maxL := 4) (ret := none) (by decide) rfl ?_
  intro p e s m args below meth c s₁ B hml hv
  obtain ⟨rfl, hsz, hP, hK, hD0⟩ := hv
  have hx := B.exec
  have hb := B.bytes
  have hr := B.returns
  have hts := atoms_spec (ws := (.code yX8_fail cX8_fail 4 none :: lw_g)) B.pre
  have hown : s.vm.findClass RX8 = some m.cls := findClass_of_methodNamed B.named
  have hlocks := B.notSynchronized
  subst hsz
  have g : G3 (dC, dI) L kd tys s f0 [(8, 6), (8, 8), (8, 9)] [] f0 s.heap [] [] := G3.start hP hD0 hWT Fs.nil
  have hl := lv_entry ([.ref a0_, .int x1_, .int x2_]) (n := 4) (Nat.le_of_ble_eq_true rfl)
  rw [lg_entry_eq]
  generalize (lg_sl ([.ref a0_, .int x1_, .int x2_]) ++ List.replicate (4 - (lg_sl ([.ref a0_, .int x1_, .int x2_])).length) Slot.unset).toArray = ls at hl ⊢
  have hl : lv_has ls 4 [(0, .ref a0_), (1, .int x1_), (2, .int x2_)] := hl
  refine W_q (fun Q hQ => ?_)
  refine lv_aload_n hx hb dX8_fail_0 rfl (lv_at hl 0 rfl) ?_
  refine g_geti (C := RX8) (T := TX8) (N := 10) hx hb hts (mc_ inX8) hown hK g ma0_ ka0_ (by decide) rfl 6 (by decide) rfl (hts _ (List.mem_cons_of_mem _ t_291)) (fun _ h9 => h9) rfl dX8_fail_1 (fun x_1 bx_1 g => ?_)
  refine lv_sipush (v := 1200) hx hb dX8_fail_4 (by decide) ?_
  have kb_1200 : bd 1200 1200 (1200 : Int32) := ⟨by decide, by decide⟩
  refine lv_icmp_le (tgt := 31) hx hb dX8_fail_7 (by decide) (fun c_2 => ?_) (fun c_2 => ?_)
  · have fc_2 := le_f c_2
    have b_3 : bd 0 1200 x_1 := leL fc_2 bx_1 kb_1200 (by decide)
    refine lv_iconst (v := 0) hx hb dX8_fail_31 (by decide) ?_
    refine lv_istore_n (lv' := [(3, .int 0), (0, .ref a0_), (1, .int x1_), (2, .int x2_)]) hx hb dX8_fail_32 rfl hl (by decide) rfl (fun ls hl => ?_)
    refine lv_aload_n hx hb dX8_fail_33 rfl (lv_at hl 1 rfl) ?_
    refine g_geti (C := RX8) (T := TX8) (N := 10) hx hb hts (mc_ inX8) hown hK g ma0_ ka0_ (by decide) rfl 8 (by decide) rfl (hts _ (List.mem_cons_of_mem _ t_295)) (fun _ h9 => h9) rfl dX8_fail_34 (fun x_4 bx_4 g => ?_)
    have kb_0 : bd 0 0 (0 : Int32) := ⟨by decide, by decide⟩
    refine lv_if_ne (tgt := 73) hx hb dX8_fail_37 (by decide) (fun c_5 => ?_) (fun c_5 => ?_)
    · have fc_5 := neq_f c_5
      have b_6 : bd 1 7 x_4 := neX fc_5 bx_4 kb_0 (by decide)
      refine lv_aload_n hx hb dX8_fail_73 rfl (lv_at hl 1 rfl) ?_
      refine lv_sipush (v := 1201) hx hb dX8_fail_74 (by decide) ?_
      have kb_1201 : bd 1201 1201 (1201 : Int32) := ⟨by decide, by decide⟩
      refine g_put (C := RX8) (T := TX8) (N := 10) hx hb hts (mc_ inX8) tyX8 tyX8_ok nmX8 hown hK g ma0_ ka0_ (by decide) rfl 6 (by decide) (hts _ (List.mem_cons_of_mem _ t_291)) (fun _ h9 => h9) rfl rfl (okV_i (bd_sub kb_1201 (by decide))) rfl rfl (by decide) (Or.inr (Or.inl (by decide))) (fx' := [(8, 8, a0_, .int x_4)]) rfl dX8_fail_77 (fun f H locs hM_7 g => ?_)
      subst hQ
      exact W.vret hx hb hr (fun t ht hW => ⟨⟨_, rfl, ⟨x_4, b_6, (g.fcts [0, 1] rfl)⟩, q3_of g hK ht hW⟩, g.2.2.1.F ht⟩) g.2.2.1.2.2 dX8_fail_80
    · have fc_5 := eq_f c_5
      have b_8 : bd 0 0 x_4 := eqX fc_5 bx_4 kb_0 (by decide)
      refine lv_aload_n hx hb dX8_fail_40 rfl (lv_at hl 1 rfl) ?_
      refine lv_iload_n hx hb dX8_fail_41 rfl (lv_at hl 0 rfl) ?_
      refine lv_if_eq (tgt := 49) hx hb dX8_fail_42 (by decide) (fun c_ => ?_) (fun c_ => absurd (by decide) c_)
      refine lv_iload_n hx hb dX8_fail_49 rfl (lv_at hl 2 rfl) ?_
      refine g_put (C := RX8) (T := TX8) (N := 10) hx hb hts (mc_ inX8) tyX8 tyX8_ok nmX8 hown hK g ma0_ ka0_ (by decide) rfl 8 (by decide) (hts _ (List.mem_cons_of_mem _ t_295)) (fun _ h9 => h9) rfl rfl (okV_i (bd_sub bx1_ (by decide))) rfl rfl (by decide) (Or.inr (Or.inr (st_of bx1_ (by decide)))) (fx' := [(8, 6, a0_, .int x_1)]) rfl dX8_fail_50 (fun f H locs hM_9 g => ?_)
      refine lv_aload_n hx hb dX8_fail_53 rfl (lv_at hl 1 rfl) ?_
      refine lv_iload_n hx hb dX8_fail_54 rfl (lv_at hl 0 rfl) ?_
      refine lv_if_eq (tgt := 69) hx hb dX8_fail_55 (by decide) (fun c_ => ?_) (fun c_ => absurd (by decide) c_)
      refine lv_iload_n hx hb dX8_fail_69 rfl (lv_at hl 3 rfl) ?_
      refine g_put (C := RX8) (T := TX8) (N := 10) hx hb hts (mc_ inX8) tyX8 tyX8_ok nmX8 hown hK g ma0_ ka0_ (by decide) rfl 9 (by decide) (hts _ (List.mem_cons_of_mem _ t_296)) (fun _ h9 => h9) rfl rfl (okV_i (bdT x2_)) rfl rfl (by decide) (Or.inr (Or.inl (by decide))) (fx' := [(8, 8, a0_, .int x1_), (8, 6, a0_, .int x_1)]) rfl dX8_fail_70 (fun f H locs hM_10 g => ?_)
      refine lv_aload_n hx hb dX8_fail_73 rfl (lv_at hl 1 rfl) ?_
      refine lv_sipush (v := 1201) hx hb dX8_fail_74 (by decide) ?_
      have kb_1201 : bd 1201 1201 (1201 : Int32) := ⟨by decide, by decide⟩
      refine g_put (C := RX8) (T := TX8) (N := 10) hx hb hts (mc_ inX8) tyX8 tyX8_ok nmX8 hown hK g ma0_ ka0_ (by decide) rfl 6 (by decide) (hts _ (List.mem_cons_of_mem _ t_291)) (fun _ h9 => h9) rfl rfl (okV_i (bd_sub kb_1201 (by decide))) rfl rfl (by decide) (Or.inr (Or.inl (by decide))) (fx' := [(8, 9, a0_, .int x2_), (8, 8, a0_, .int x1_)]) rfl dX8_fail_77 (fun f H locs hM_11 g => ?_)
      subst hQ
      exact W.vret hx hb hr (fun t ht hW => ⟨⟨_, rfl, ⟨x1_, (bd_sub bx1_ (by decide)), (g.fcts [0, 2] rfl)⟩, q3_of g hK ht hW⟩, g.2.2.1.F ht⟩) g.2.2.1.2.2 dX8_fail_80
  · have fc_2 := nle_f c_2
    have b_12 : bd 1201 1201 x_1 := ltR fc_2 kb_1200 bx_1 (by decide)
    refine lv_iload_n hx hb dX8_fail_10 rfl (lv_at hl 1 rfl) ?_
    refine lv_iconst (v := 4) hx hb dX8_fail_11 (by decide) ?_
    have kb_4 : bd 4 4 (4 : Int32) := ⟨by decide, by decide⟩
    refine lv_icmp_gt (tgt := 27) hx hb dX8_fail_12 (by decide) (fun c_13 => ?_) (fun c_13 => ?_)
    · have fc_13 := lt_f c_13
      have b_14 : bd 4 1 (4 : Int32) := ltL fc_13 kb_4 bx1_ (by decide)
      exact bd_no (eqX rfl b_14 kb_4 (lo := 4) (hi := 1) (by decide)) (by decide)
    · have fc_13 := nlt_f c_13
      refine lv_iload_n hx hb dX8_fail_15 rfl (lv_at hl 2 rfl) ?_
      refine lv_aload_n hx hb dX8_fail_16 rfl (lv_at hl 0 rfl) ?_
      refine g_getr (K := 149) (C := RX8) (T := TX8) (N := 10) hx hb hts (mc_ inX8) hown hK g ma0_ ka0_ (by decide) rfl 1 (by decide) rfl (hts _ (List.mem_cons_of_mem _ t_286)) (fun _ h9 => h9) rfl dX8_fail_17 (fun a_15 ma_15 ka_15 g => ?_)
      refine lv_sipush (v := 1200) hx hb dX8_fail_20 (by decide) ?_
      refine g_iald hx hb hK g ma_15 ka_15 (by decide) rfl (by unfold vp_in; decide) dX8_fail_23 (fun x_16 bx_16 cx_16 => ?_)
      refine lv_icmp_eq (tgt := 31) hx hb dX8_fail_24 (by decide) (fun c_17 => ?_) (fun c_17 => ?_)
      · have fc_17 := eq_f c_17
        refine lv_iconst (v := 0) hx hb dX8_fail_31 (by decide) ?_
        refine lv_istore_n (lv' := [(3, .int 0), (0, .ref a0_), (1, .int x1_), (2, .int x2_)]) hx hb dX8_fail_32 rfl hl (by decide) rfl (fun ls hl => ?_)
        refine lv_aload_n hx hb dX8_fail_33 rfl (lv_at hl 1 rfl) ?_
        refine g_geti (C := RX8) (T := TX8) (N := 10) hx hb hts (mc_ inX8) hown hK g ma0_ ka0_ (by decide) rfl 8 (by decide) rfl (hts _ (List.mem_cons_of_mem _ t_295)) (fun _ h9 => h9) rfl dX8_fail_34 (fun x_18 bx_18 g => ?_)
        have kb_0 : bd 0 0 (0 : Int32) := ⟨by decide, by decide⟩
        refine lv_if_ne (tgt := 73) hx hb dX8_fail_37 (by decide) (fun c_19 => ?_) (fun c_19 => ?_)
        · have fc_19 := neq_f c_19
          have b_20 : bd 1 7 x_18 := neX fc_19 bx_18 kb_0 (by decide)
          refine lv_aload_n hx hb dX8_fail_73 rfl (lv_at hl 1 rfl) ?_
          refine lv_sipush (v := 1201) hx hb dX8_fail_74 (by decide) ?_
          have kb_1201 : bd 1201 1201 (1201 : Int32) := ⟨by decide, by decide⟩
          refine g_put (C := RX8) (T := TX8) (N := 10) hx hb hts (mc_ inX8) tyX8 tyX8_ok nmX8 hown hK g ma0_ ka0_ (by decide) rfl 6 (by decide) (hts _ (List.mem_cons_of_mem _ t_291)) (fun _ h9 => h9) rfl rfl (okV_i (bd_sub kb_1201 (by decide))) rfl rfl (by decide) (Or.inr (Or.inl (by decide))) (fx' := [(8, 8, a0_, .int x_18), (8, 1, a0_, .ref a_15)]) rfl dX8_fail_77 (fun f H locs hM_21 g => ?_)
          subst hQ
          exact W.vret hx hb hr (fun t ht hW => ⟨⟨_, rfl, ⟨x_18, b_20, (g.fcts [0, 1] rfl)⟩, q3_of g hK ht hW⟩, g.2.2.1.F ht⟩) g.2.2.1.2.2 dX8_fail_80
        · have fc_19 := eq_f c_19
          have b_22 : bd 0 0 x_18 := eqX fc_19 bx_18 kb_0 (by decide)
          refine lv_aload_n hx hb dX8_fail_40 rfl (lv_at hl 1 rfl) ?_
          refine lv_iload_n hx hb dX8_fail_41 rfl (lv_at hl 0 rfl) ?_
          refine lv_if_eq (tgt := 49) hx hb dX8_fail_42 (by decide) (fun c_ => ?_) (fun c_ => absurd (by decide) c_)
          refine lv_iload_n hx hb dX8_fail_49 rfl (lv_at hl 2 rfl) ?_
          refine g_put (C := RX8) (T := TX8) (N := 10) hx hb hts (mc_ inX8) tyX8 tyX8_ok nmX8 hown hK g ma0_ ka0_ (by decide) rfl 8 (by decide) (hts _ (List.mem_cons_of_mem _ t_295)) (fun _ h9 => h9) rfl rfl (okV_i (bd_sub bx1_ (by decide))) rfl rfl (by decide) (Or.inr (Or.inr (st_of bx1_ (by decide)))) (fx' := [(8, 1, a0_, .ref a_15), (8, 6, a0_, .int x_1)]) rfl dX8_fail_50 (fun f H locs hM_23 g => ?_)
          refine lv_aload_n hx hb dX8_fail_53 rfl (lv_at hl 1 rfl) ?_
          refine lv_iload_n hx hb dX8_fail_54 rfl (lv_at hl 0 rfl) ?_
          refine lv_if_eq (tgt := 69) hx hb dX8_fail_55 (by decide) (fun c_ => ?_) (fun c_ => absurd (by decide) c_)
          refine lv_iload_n hx hb dX8_fail_69 rfl (lv_at hl 3 rfl) ?_
          refine g_put (C := RX8) (T := TX8) (N := 10) hx hb hts (mc_ inX8) tyX8 tyX8_ok nmX8 hown hK g ma0_ ka0_ (by decide) rfl 9 (by decide) (hts _ (List.mem_cons_of_mem _ t_296)) (fun _ h9 => h9) rfl rfl (okV_i (bdT x2_)) rfl rfl (by decide) (Or.inr (Or.inl (by decide))) (fx' := [(8, 8, a0_, .int x1_), (8, 1, a0_, .ref a_15), (8, 6, a0_, .int x_1)]) rfl dX8_fail_70 (fun f H locs hM_24 g => ?_)
          refine lv_aload_n hx hb dX8_fail_73 rfl (lv_at hl 1 rfl) ?_
          refine lv_sipush (v := 1201) hx hb dX8_fail_74 (by decide) ?_
          have kb_1201 : bd 1201 1201 (1201 : Int32) := ⟨by decide, by decide⟩
          refine g_put (C := RX8) (T := TX8) (N := 10) hx hb hts (mc_ inX8) tyX8 tyX8_ok nmX8 hown hK g ma0_ ka0_ (by decide) rfl 6 (by decide) (hts _ (List.mem_cons_of_mem _ t_291)) (fun _ h9 => h9) rfl rfl (okV_i (bd_sub kb_1201 (by decide))) rfl rfl (by decide) (Or.inr (Or.inl (by decide))) (fx' := [(8, 9, a0_, .int x2_), (8, 8, a0_, .int x1_), (8, 1, a0_, .ref a_15)]) rfl dX8_fail_77 (fun f H locs hM_25 g => ?_)
          subst hQ
          exact W.vret hx hb hr (fun t ht hW => ⟨⟨_, rfl, ⟨x1_, (bd_sub bx1_ (by decide)), (g.fcts [0, 2] rfl)⟩, q3_of g hK ht hW⟩, g.2.2.1.F ht⟩) g.2.2.1.2.2 dX8_fail_80
      · have fc_17 := neq_f c_17
        refine lv_iconst (v := 1) hx hb dX8_fail_27 (by decide) ?_
        refine lv_goto (tgt := 32) hx hb dX8_fail_28 (by decide) ?_
        refine lv_istore_n (lv' := [(3, .int 1), (0, .ref a0_), (1, .int x1_), (2, .int x2_)]) hx hb dX8_fail_32 rfl hl (by decide) rfl (fun ls hl => ?_)
        refine lv_aload_n hx hb dX8_fail_33 rfl (lv_at hl 1 rfl) ?_
        refine g_geti (C := RX8) (T := TX8) (N := 10) hx hb hts (mc_ inX8) hown hK g ma0_ ka0_ (by decide) rfl 8 (by decide) rfl (hts _ (List.mem_cons_of_mem _ t_295)) (fun _ h9 => h9) rfl dX8_fail_34 (fun x_26 bx_26 g => ?_)
        have kb_0 : bd 0 0 (0 : Int32) := ⟨by decide, by decide⟩
        refine lv_if_ne (tgt := 73) hx hb dX8_fail_37 (by decide) (fun c_27 => ?_) (fun c_27 => ?_)
        · have fc_27 := neq_f c_27
          have b_28 : bd 1 7 x_26 := neX fc_27 bx_26 kb_0 (by decide)
          refine lv_aload_n hx hb dX8_fail_73 rfl (lv_at hl 1 rfl) ?_
          refine lv_sipush (v := 1201) hx hb dX8_fail_74 (by decide) ?_
          have kb_1201 : bd 1201 1201 (1201 : Int32) := ⟨by decide, by decide⟩
          refine g_put (C := RX8) (T := TX8) (N := 10) hx hb hts (mc_ inX8) tyX8 tyX8_ok nmX8 hown hK g ma0_ ka0_ (by decide) rfl 6 (by decide) (hts _ (List.mem_cons_of_mem _ t_291)) (fun _ h9 => h9) rfl rfl (okV_i (bd_sub kb_1201 (by decide))) rfl rfl (by decide) (Or.inr (Or.inl (by decide))) (fx' := [(8, 8, a0_, .int x_26), (8, 1, a0_, .ref a_15)]) rfl dX8_fail_77 (fun f H locs hM_29 g => ?_)
          subst hQ
          exact W.vret hx hb hr (fun t ht hW => ⟨⟨_, rfl, ⟨x_26, b_28, (g.fcts [0, 1] rfl)⟩, q3_of g hK ht hW⟩, g.2.2.1.F ht⟩) g.2.2.1.2.2 dX8_fail_80
        · have fc_27 := eq_f c_27
          have b_30 : bd 0 0 x_26 := eqX fc_27 bx_26 kb_0 (by decide)
          refine lv_aload_n hx hb dX8_fail_40 rfl (lv_at hl 1 rfl) ?_
          refine lv_iload_n hx hb dX8_fail_41 rfl (lv_at hl 0 rfl) ?_
          refine lv_if_eq (tgt := 49) hx hb dX8_fail_42 (by decide) (fun c_ => absurd c_ (by decide)) (fun c_ => ?_)
          refine lv_iconst (v := 4) hx hb dX8_fail_45 (by decide) ?_
          refine lv_goto (tgt := 50) hx hb dX8_fail_46 (by decide) ?_
          refine g_put (C := RX8) (T := TX8) (N := 10) hx hb hts (mc_ inX8) tyX8 tyX8_ok nmX8 hown hK g ma0_ ka0_ (by decide) rfl 8 (by decide) (hts _ (List.mem_cons_of_mem _ t_295)) (fun _ h9 => h9) rfl rfl (okV_i (bd_sub kb_4 (by decide))) rfl rfl (by decide) (Or.inr (Or.inr (st_of kb_4 (by decide)))) (fx' := [(8, 1, a0_, .ref a_15), (8, 6, a0_, .int x_1)]) rfl dX8_fail_50 (fun f H locs hM_31 g => ?_)
          refine lv_aload_n hx hb dX8_fail_53 rfl (lv_at hl 1 rfl) ?_
          refine lv_iload_n hx hb dX8_fail_54 rfl (lv_at hl 0 rfl) ?_
          refine lv_if_eq (tgt := 69) hx hb dX8_fail_55 (by decide) (fun c_ => absurd c_ (by decide)) (fun c_ => ?_)
          refine lv_aload_n hx hb dX8_fail_58 rfl (lv_at hl 1 rfl) ?_
          refine g_getk (C := RX8) (T := TX8) (N := 10) hx hb hts (mc_ inX8) hown hK g rfl 1 (by decide) rfl (hts _ (List.mem_cons_of_mem _ t_286)) (fun _ h9 => h9) 1 rfl dX8_fail_59 ?_
          refine lv_sipush (v := 1200) hx hb dX8_fail_62 (by decide) ?_
          refine g_iald hx hb hK g ma_15 ka_15 (by decide) rfl (by unfold vp_in; decide) dX8_fail_65 (fun x_32 bx_32 cx_32 => ?_)
          obtain rfl : x_16 = x_32 := el_same cx_16 cx_32 (arr_eq hM_31 ma_15 ka_15 (by decide) rfl)
          refine lv_goto (tgt := 70) hx hb dX8_fail_66 (by decide) ?_
          refine g_put (C := RX8) (T := TX8) (N := 10) hx hb hts (mc_ inX8) tyX8 tyX8_ok nmX8 hown hK g ma0_ ka0_ (by decide) rfl 9 (by decide) (hts _ (List.mem_cons_of_mem _ t_296)) (fun _ h9 => h9) rfl rfl (okV_i (bdT x_16)) rfl rfl (by decide) (Or.inr (Or.inl (by decide))) (fx' := [(8, 8, a0_, .int 4), (8, 1, a0_, .ref a_15), (8, 6, a0_, .int x_1)]) rfl dX8_fail_70 (fun f H locs hM_33 g => ?_)
          refine lv_aload_n hx hb dX8_fail_73 rfl (lv_at hl 1 rfl) ?_
          refine lv_sipush (v := 1201) hx hb dX8_fail_74 (by decide) ?_
          have kb_1201 : bd 1201 1201 (1201 : Int32) := ⟨by decide, by decide⟩
          refine g_put (C := RX8) (T := TX8) (N := 10) hx hb hts (mc_ inX8) tyX8 tyX8_ok nmX8 hown hK g ma0_ ka0_ (by decide) rfl 6 (by decide) (hts _ (List.mem_cons_of_mem _ t_291)) (fun _ h9 => h9) rfl rfl (okV_i (bd_sub kb_1201 (by decide))) rfl rfl (by decide) (Or.inr (Or.inl (by decide))) (fx' := [(8, 9, a0_, .int x_16), (8, 8, a0_, .int 4), (8, 1, a0_, .ref a_15)]) rfl dX8_fail_77 (fun f H locs hM_34 g => ?_)
          subst hQ
          exact W.vret hx hb hr (fun t ht hW => ⟨⟨_, rfl, ⟨4, (bd_sub kb_4 (by decide)), (g.fcts [0, 2] rfl)⟩, q3_of g hK ht hW⟩, g.2.2.1.F ht⟩) g.2.2.1.2.2 dX8_fail_80
set_option maxHeartbeats 4000000 in
set_option maxRecDepth 100000 in
theorem r_X2_readParam (l : Launch) (dC : Nat → ClassId) (dI : Nat → Nat → Nat) (L : List Nat) (kd : Nat → Nat) (tys : List (ClassId × FieldType)) (f0 : Nat → va_E) (sz : Nat) (hWT : WT L kd tys f0) (a0_ : Nat) (ma0_ : a0_ ∈ L) (ka0_ : kd a0_ = 2) (q0_ : Nat) (mq0_ : q0_ ∈ L) (kq0_ : kd q0_ = 8) (q1_ : Nat) (mq1_ : q1_ ∈ L) (kq1_ : kd q1_ = 5) (q2_ : Nat) (mq2_ : q2_ ∈ L) (kq2_ : kd q2_ = 6) (q3_ : Nat) (mq3_ : q3_ ∈ L) (kq3_ : kd q3_ = 9) (hfx : Fs L kd f0 [(2, 0, a0_, .ref q0_), (2, 1, a0_, .ref q1_), (2, 5, a0_, .ref q2_), (5, 1, q1_, .ref q3_)]) : Met l yX2_readParam (.code yX2_readParam cX2_readParam 7 none :: lw_g) ({ frames := 2, cells := 0, slots := 0, locals := 46 }) (va_Pc [.ref a0_] (P3 (dC, dI) L tys f0 sz)) (va_Qv (fun (f : Nat → va_E) => (∃ z0_ : Int32, bd 1 1201 z0_ ∧ Fs L kd f [(8, 6, q0_, .int z0_)])) (Q3 (dC, dI) L kd tys [(5, 4), (6, 3), (8, 6), (8, 8), (8, 9)] [132, 134, 135] f0 sz) (pA L sz)) 0 0 (pA L sz) := by
  refine Met.ofW (cc := cX2_readParam) (maxL := 7) (ret := none) (by decide) rfl ?_
  intro p e s m args below meth c s₁ B hml hv
  obtain ⟨rfl, hsz, hP, hK, hD0⟩ := hv
  have hx := B.exec
  have hb := B.bytes
  have hr := B.returns
  have hts := atoms_spec (ws := (.code yX2_readParam cX2_readParam 7 none :: lw_g)) B.pre
  have hown : s.vm.findClass RX2 = some m.cls := findClass_of_methodNamed B.named
  have hlocks := B.notSynchronized
  subst hsz
  have g : G3 (dC, dI) L kd tys s f0 [(5, 4), (6, 3), (8, 6), (8, 8), (8, 9)] [132, 134, 135] f0 s.heap [] [(2, 0, a0_, .ref q0_), (2, 1, a0_, .ref q1_), (2, 5, a0_, .ref q2_), (5, 1, q1_, .ref q3_)] := G3.start hP hD0 hWT hfx
  have hl := lv_entry ([.ref a0_]) (n := 7) (Nat.le_of_ble_eq_true rfl)
  rw [lg_entry_eq]
  generalize (lg_sl ([.ref a0_]) ++ List.replicate (7 - (lg_sl ([.ref a0_])).length) Slot.unset).toArray = ls at hl ⊢
  have hl : lv_has ls 7 [(0, .ref a0_)] := hl
  refine W_q (fun Q hQ => ?_)
  refine lv_aload_n hx hb dX2_readParam_0 rfl (lv_at hl 0 rfl) ?_
  refine g_getk (C := RX2) (T := TX2) (N := 16) hx hb hts (mc_ inX2) hown hK g rfl 0 (by decide) rfl (hts _ (List.mem_cons_of_mem _ t_416)) (fun _ h9 => h9) 0 rfl dX2_readParam_1 ?_
  refine g_calli (va_runV (As := []) (rest := []) ⟨hx, hb, hml, hown, hts⟩ (r_X8_place l dC dI L kd tys f0 s.heap.size g.2.2.2.1 q0_ mq0_ kq0_) (cwV 0 hts (gV_ t_1110 t_1111 t_1112 t_184 t_1113) rfl rfl rfl (by decide +kernel) ⟨(Nat.le_of_ble_eq_true rfl), (Nat.le_of_ble_eq_true rfl)⟩) (pre3V g hK mq0_ kq0_ (by decide) (q := (RX8, TX8, 10)) rfl) rfl rfl hl.1 rfl (lv_room (Nat.le_of_ble_eq_true rfl)) dX2_readParam_4 ⟨(Nat.le_of_ble_eq_true rfl), (Nat.le_of_ble_eq_true rfl)⟩) g hK (by decide) (by decide) (fx' := [(2, 0, a0_, .ref q0_), (2, 1, a0_, .ref q1_), (2, 5, a0_, .ref q2_), (5, 1, q1_, .ref q3_)]) rfl (fun r_1 fr_1 H locs hp hMr_1 g => ?_)
  refine lv_istore_n (lv' := [(1, .int r_1), (0, .ref a0_)]) hx hb dX2_readParam_7 rfl hl (by decide) rfl (fun ls hl => ?_)
  refine lv_aload_n hx hb dX2_readParam_8 rfl (lv_at hl 1 rfl) ?_
  refine g_getk (C := RX2) (T := TX2) (N := 16) hx hb hts (mc_ inX2) hown hK g rfl 0 (by decide) rfl (hts _ (List.mem_cons_of_mem _ t_416)) (fun _ h9 => h9) 0 rfl dX2_readParam_9 ?_
  refine g_calll (va_runV (As := []) (rest := []) ⟨hx, hb, hml, hown, hts⟩ (r_X8_value l dC dI L kd tys fr_1 H.size g.2.2.2.1 q0_ mq0_ kq0_) (cwV 0 hts (gV_ t_1114 t_1115 t_1116 t_184 t_1117) rfl rfl rfl (by decide +kernel) ⟨(Nat.le_of_ble_eq_true rfl), (Nat.le_of_ble_eq_true rfl)⟩) (pre3V g hK mq0_ kq0_ (by decide) (q := (RX8, TX8, 10)) rfl) rfl rfl hl.1 rfl (lv_room (Nat.le_of_ble_eq_true rfl)) dX2_readParam_12 ⟨(Nat.le_of_ble_eq_true rfl), (Nat.le_of_ble_eq_true rfl)⟩) g hK (by decide) (by decide) (fx' := [(2, 0, a0_, .ref q0_), (2, 1, a0_, .ref q1_), (2, 5, a0_, .ref q2_), (5, 1, q1_, .ref q3_)]) rfl (fun r_2 fr_2 H locs hp hMr_2 g => ?_)
  refine lv_lstore_n (lv' := [(2, .long r_2), (1, .int r_1), (0, .ref a0_)]) hx hb dX2_readParam_15 rfl hl (by decide) rfl (fun ls hl => ?_)
  refine lv_aload_n hx hb dX2_readParam_16 rfl (lv_at hl 2 rfl) ?_
  refine g_getk (C := RX2) (T := TX2) (N := 16) hx hb hts (mc_ inX2) hown hK g rfl 5 (by decide) rfl (hts _ (List.mem_cons_of_mem _ t_421)) (fun _ h9 => h9) 2 rfl dX2_readParam_17 ?_
  refine g_geti (C := RX6) (T := TX6) (N := 13) hx hb hts (mc_ inX6) hown hK g mq2_ kq2_ (by decide) rfl 3 (by decide) rfl (hts _ (List.mem_cons_of_mem _ t_568)) (fun _ h9 => h9) rfl dX2_readParam_20 (fun x_3 bx_3 g => ?_)
  refine lv_istore (lv' := [(4, .int x_3), (2, .long r_2), (1, .int r_1), (0, .ref a0_)]) hx hb dX2_readParam_23 hl (by decide) rfl (fun ls hl => ?_)
  refine lv_aload_n hx hb dX2_readParam_25 rfl (lv_at hl 3 rfl) ?_
  refine g_getk (C := RX2) (T := TX2) (N := 16) hx hb hts (mc_ inX2) hown hK g rfl 0 (by decide) rfl (hts _ (List.mem_cons_of_mem _ t_416)) (fun _ h9 => h9) 1 rfl dX2_readParam_26 ?_
  refine g_calli (va_runV (As := []) (rest := []) ⟨hx, hb, hml, hown, hts⟩ (r_X8_kind l dC dI L kd tys fr_2 H.size g.2.2.2.1 q0_ mq0_ kq0_) (cwV 0 hts (gV_ t_1118 t_1119 t_1120 t_184 t_1121) rfl rfl rfl (by decide +kernel) ⟨(Nat.le_of_ble_eq_true rfl), (Nat.le_of_ble_eq_true rfl)⟩) (pre3V g hK mq0_ kq0_ (by decide) (q := (RX8, TX8, 10)) rfl) rfl rfl hl.1 rfl (lv_room (Nat.le_of_ble_eq_true rfl)) dX2_readParam_29 ⟨(Nat.le_of_ble_eq_true rfl), (Nat.le_of_ble_eq_true rfl)⟩) g hK (by decide) (by decide) (fx' := [(6, 3, q2_, .int x_3), (2, 0, a0_, .ref q0_), (2, 1, a0_, .ref q1_), (2, 5, a0_, .ref q2_), (5, 1, q1_, .ref q3_)]) rfl (fun r_4 fr_4 H locs hp hMr_4 g => ?_)
  refine lv_iconst (v := 3) hx hb dX2_readParam_32 (by decide) ?_
  have kb_3 : bd 3 3 (3 : Int32) := ⟨by decide, by decide⟩
  refine lv_icmp_eq (tgt := 48) hx hb dX2_readParam_33 (by decide) (fun c_5 => ?_) (fun c_5 => ?_)
  · have fc_5 := eq_f c_5
    have b_6 : bd 3 3 r_4 := eqX fc_5 (bdT r_4) kb_3 (by decide)
    refine lv_aload_n hx hb dX2_readParam_48 rfl (lv_at hl 3 rfl) ?_
    refine g_getk (C := RX2) (T := TX2) (N := 16) hx hb hts (mc_ inX2) hown hK g rfl 1 (by decide) rfl (hts _ (List.mem_cons_of_mem _ t_417)) (fun _ h9 => h9) 2 rfl dX2_readParam_49 ?_
    refine lv_lload_n hx hb dX2_readParam_52 rfl (lv_at hl 1 rfl) ?_
    refine g_calli (va_runV (As := [.long r_2]) (rest := []) ⟨hx, hb, hml, hown, hts⟩ (r_X5_placeNamed l dC dI L kd tys fr_4 H.size g.2.2.2.1 q1_ mq1_ kq1_ r_2 q3_ mq3_ kq3_ (g.fcts [4] rfl)) (cwV 1 hts (gV_ t_1317 t_1252 t_1253 t_189 t_1254) rfl rfl rfl (by decide +kernel) ⟨(Nat.le_of_ble_eq_true rfl), (Nat.le_of_ble_eq_true rfl)⟩) (pre3V g hK mq1_ kq1_ (by decide) (q := (RX5, TX5, 9)) rfl) rfl rfl hl.1 rfl (lv_room (Nat.le_of_ble_eq_true rfl)) dX2_readParam_53 ⟨(Nat.le_of_ble_eq_true rfl), (Nat.le_of_ble_eq_true rfl)⟩) g hK (by decide) (by decide) (fx' := [(6, 3, q2_, .int x_3), (2, 0, a0_, .ref q0_), (2, 1, a0_, .ref q1_), (2, 5, a0_, .ref q2_), (5, 1, q1_, .ref q3_)]) rfl (fun r_7 fr_7 H locs hp hMr_7 g => ?_)
    obtain ⟨h_8, -⟩ := hp
    refine lv_iconst (v := (-1)) hx hb dX2_readParam_56 (by decide) ?_
    have kb_m1 : bd (-1) (-1) ((-1) : Int32) := ⟨by decide, by decide⟩
    refine lv_icmp_eq (tgt := 72) hx hb dX2_readParam_57 (by decide) (fun c_9 => ?_) (fun c_9 => ?_)
    · have fc_9 := eq_f c_9
      have b_10 : bd (-1) (-1) r_7 := eqX fc_9 h_8 kb_m1 (by decide)
      refine lv_iload hx hb dX2_readParam_72 (lv_at hl 0 rfl) ?_
      refine lv_iconst (v := 3) hx hb dX2_readParam_74 (by decide) ?_
      refine lv_icmp_lt (tgt := 87) hx hb dX2_readParam_75 (by decide) (fun c_11 => ?_) (fun c_11 => ?_)
      · have fc_11 := lt_f c_11
        have b_12 : bd 0 2 x_3 := ltL fc_11 bx_3 kb_3 (by decide)
        refine lv_aload_n hx hb dX2_readParam_87 rfl (lv_at hl 3 rfl) ?_
        refine g_getk (C := RX2) (T := TX2) (N := 16) hx hb hts (mc_ inX2) hown hK g rfl 0 (by decide) rfl (hts _ (List.mem_cons_of_mem _ t_416)) (fun _ h9 => h9) 1 rfl dX2_readParam_88 ?_
        refine g_callv (va_runV (As := []) (rest := []) ⟨hx, hb, hml, hown, hts⟩ (r_X8_next l dC dI L kd tys fr_7 H.size g.2.2.2.1 q0_ mq0_ kq0_) (cwV 0 hts (gV_ t_1131 t_1103 t_1104 t_184 t_1105) rfl rfl rfl (by decide +kernel) ⟨(Nat.le_of_ble_eq_true rfl), (Nat.le_of_ble_eq_true rfl)⟩) (pre3V g hK mq0_ kq0_ (by decide) (q := (RX8, TX8, 10)) rfl) rfl rfl hl.1 rfl (lv_room (Nat.le_of_ble_eq_true rfl)) dX2_readParam_91 ⟨(Nat.le_of_ble_eq_true rfl), (Nat.le_of_ble_eq_true rfl)⟩) g hK (by decide) (by decide) (fx' := [(6, 3, q2_, .int x_3), (2, 0, a0_, .ref q0_), (2, 1, a0_, .ref q1_), (2, 5, a0_, .ref q2_), (5, 1, q1_, .ref q3_)]) rfl (fun fr_13 H locs hp hMr_13 g => ?_)
        obtain ⟨x_14, h_15, hF_16⟩ := hp
        have g := g.more hF_16
        refine lv_aload_n hx hb dX2_readParam_94 rfl (lv_at hl 3 rfl) ?_
        refine g_getk (C := RX2) (T := TX2) (N := 16) hx hb hts (mc_ inX2) hown hK g rfl 0 (by decide) rfl (hts _ (List.mem_cons_of_mem _ t_416)) (fun _ h9 => h9) 2 rfl dX2_readParam_95 ?_
        refine lv_bipush (v := 15) hx hb dX2_readParam_98 (by decide) ?_
        refine g_callv (va_runV (As := [.int 15]) (rest := []) ⟨hx, hb, hml, hown, hts⟩ (r_X8_take l dC dI L kd tys fr_13 H.size g.2.2.2.1 q0_ mq0_ kq0_ 15) (cwV 1 hts (gV_ t_1098 t_1099 t_1100 t_184 t_1101) rfl rfl rfl (by decide +kernel) ⟨(Nat.le_of_ble_eq_true rfl), (Nat.le_of_ble_eq_true rfl)⟩) (pre3V g hK mq0_ kq0_ (by decide) (q := (RX8, TX8, 10)) rfl) rfl rfl hl.1 rfl (lv_room (Nat.le_of_ble_eq_true rfl)) dX2_readParam_100 ⟨(Nat.le_of_ble_eq_true rfl), (Nat.le_of_ble_eq_true rfl)⟩) g hK (by decide) (by decide) (fx' := [(6, 3, q2_, .int x_3), (2, 0, a0_, .ref q0_), (2, 1, a0_, .ref q1_), (2, 5, a0_, .ref q2_), (5, 1, q1_, .ref q3_)]) rfl (fun fr_17 H locs hp hMr_17 g => ?_)
        obtain ⟨x_18, h_19, hF_20⟩ := hp
        have g := g.more hF_20
        refine lv_aload_n hx hb dX2_readParam_103 rfl (lv_at hl 3 rfl) ?_
        refine lv_ldc (v := (-2147483648)) hx hb hown (hts _ (List.mem_cons_of_mem _ t_1159)) dX2_readParam_104 ?_
        refine g_calli (va_runV (As := [.int (-2147483648)]) (rest := []) ⟨hx, hb, hml, hown, hts⟩ (r_X2_readNumber l dC dI L kd tys fr_17 H.size g.2.2.2.1 a0_ ma0_ ka0_ (-2147483648) q0_ mq0_ kq0_ (g.fcts [2] rfl)) (cwV 1 hts (gV_ t_1160 t_1162 t_11 t_183 t_1163) rfl rfl rfl (by decide +kernel) ⟨(Nat.le_of_ble_eq_true rfl), (Nat.le_of_ble_eq_true rfl)⟩) (pre3V g hK ma0_ ka0_ (by decide) (q := (RX2, TX2, 16)) rfl) rfl rfl hl.1 rfl (lv_room (Nat.le_of_ble_eq_true rfl)) dX2_readParam_106 ⟨(Nat.le_of_ble_eq_true rfl), (Nat.le_of_ble_eq_true rfl)⟩) g hK (by decide) (by decide) (fx' := [(6, 3, q2_, .int x_3), (2, 0, a0_, .ref q0_), (2, 1, a0_, .ref q1_), (2, 5, a0_, .ref q2_), (5, 1, q1_, .ref q3_)]) rfl (fun r_21 fr_21 H locs hp hMr_21 g => ?_)
        obtain ⟨x_22, h_23, hF_24⟩ := hp
        have g := g.more hF_24
        refine lv_istore (lv' := [(5, .int r_21), (4, .int x_3), (2, .long r_2), (1, .int r_1), (0, .ref a0_)]) hx hb dX2_readParam_109 hl (by decide) rfl (fun ls hl => ?_)
        refine lv_aload_n hx hb dX2_readParam_111 rfl (lv_at hl 4 rfl) ?_
        refine g_getk (C := RX2) (T := TX2) (N := 16) hx hb hts (mc_ inX2) hown hK g rfl 0 (by decide) rfl (hts _ (List.mem_cons_of_mem _ t_416)) (fun _ h9 => h9) 2 rfl dX2_readParam_112 ?_
        refine lv_sipush (v := 200) hx hb dX2_readParam_115 (by decide) ?_
        refine g_callv (va_runV (As := [.int 200]) (rest := []) ⟨hx, hb, hml, hown, hts⟩ (r_X8_take l dC dI L kd tys fr_21 H.size g.2.2.2.1 q0_ mq0_ kq0_ 200) (cwV 1 hts (gV_ t_1098 t_1099 t_1100 t_184 t_1101) rfl rfl rfl (by decide +kernel) ⟨(Nat.le_of_ble_eq_true rfl), (Nat.le_of_ble_eq_true rfl)⟩) (pre3V g hK mq0_ kq0_ (by decide) (q := (RX8, TX8, 10)) rfl) rfl rfl hl.1 rfl (lv_room (Nat.le_of_ble_eq_true rfl)) dX2_readParam_118 ⟨(Nat.le_of_ble_eq_true rfl), (Nat.le_of_ble_eq_true rfl)⟩) g hK (by decide) (by decide) (fx' := [(6, 3, q2_, .int x_3), (2, 0, a0_, .ref q0_), (2, 1, a0_, .ref q1_), (2, 5, a0_, .ref q2_), (5, 1, q1_, .ref q3_)]) rfl (fun fr_25 H locs hp hMr_25 g => ?_)
        obtain ⟨x_26, h_27, hF_28⟩ := hp
        have g := g.more hF_28
        refine lv_aload_n hx hb dX2_readParam_121 rfl (lv_at hl 4 rfl) ?_
        refine lv_iload hx hb dX2_readParam_122 (lv_at hl 0 rfl) ?_
        refine g_calli (va_runV (As := [.int r_21]) (rest := []) ⟨hx, hb, hml, hown, hts⟩ (r_X2_readNumber l dC dI L kd tys fr_25 H.size g.2.2.2.1 a0_ ma0_ ka0_ r_21 q0_ mq0_ kq0_ (g.fcts [2] rfl)) (cwV 1 hts (gV_ t_1160 t_1162 t_11 t_183 t_1163) rfl rfl rfl (by decide +kernel) ⟨(Nat.le_of_ble_eq_true rfl), (Nat.le_of_ble_eq_true rfl)⟩) (pre3V g hK ma0_ ka0_ (by decide) (q := (RX2, TX2, 16)) rfl) rfl rfl hl.1 rfl (lv_room (Nat.le_of_ble_eq_true rfl)) dX2_readParam_124 ⟨(Nat.le_of_ble_eq_true rfl), (Nat.le_of_ble_eq_true rfl)⟩) g hK (by decide) (by decide) (fx' := [(6, 3, q2_, .int x_3), (2, 0, a0_, .ref q0_), (2, 1, a0_, .ref q1_), (2, 5, a0_, .ref q2_), (5, 1, q1_, .ref q3_)]) rfl (fun r_29 fr_29 H locs hp hMr_29 g => ?_)
        obtain ⟨x_30, h_31, hF_32⟩ := hp
        have g := g.more hF_32
        refine lv_istore (lv' := [(6, .int r_29), (5, .int r_21), (4, .int x_3), (2, .long r_2), (1, .int r_1), (0, .ref a0_)]) hx hb dX2_readParam_127 hl (by decide) rfl (fun ls hl => ?_)
        refine lv_aload_n hx hb dX2_readParam_129 rfl (lv_at hl 5 rfl) ?_
        refine g_getk (C := RX2) (T := TX2) (N := 16) hx hb hts (mc_ inX2) hown hK g rfl 0 (by decide) rfl (hts _ (List.mem_cons_of_mem _ t_416)) (fun _ h9 => h9) 2 rfl dX2_readParam_130 ?_
        refine g_geti (C := RX8) (T := TX8) (N := 10) hx hb hts (mc_ inX8) hown hK g mq0_ kq0_ (by decide) rfl 8 (by decide) rfl (hts _ (List.mem_cons_of_mem _ t_294)) (fun _ h9 => h9) rfl dX2_readParam_133 (fun x_33 bx_33 g => ?_)
        have kb_0 : bd 0 0 (0 : Int32) := ⟨by decide, by decide⟩
        refine lv_if_ne (tgt := 202) hx hb dX2_readParam_136 (by decide) (fun c_34 => ?_) (fun c_34 => ?_)
        · have fc_34 := neq_f c_34
          have b_35 : bd 1 7 x_33 := neX fc_34 bx_33 kb_0 (by decide)
          subst hQ
          exact W.vret hx hb hr (fun t ht hW => ⟨⟨_, rfl, ⟨x_30, h_31, (g.fcts [1] rfl)⟩, q3_of g hK ht hW⟩, g.2.2.1.F ht⟩) g.2.2.1.2.2 dX2_readParam_202
        · have fc_34 := eq_f c_34
          have b_36 : bd 0 0 x_33 := eqX fc_34 bx_33 kb_0 (by decide)
          refine lv_iload hx hb dX2_readParam_139 (lv_at hl 2 rfl) ?_
          refine lv_iconst (v := 3) hx hb dX2_readParam_141 (by decide) ?_
          refine lv_icmp_ge (tgt := 202) hx hb dX2_readParam_142 (by decide) (fun c_37 => ?_) (fun c_37 => ?_)
          · have fc_37 := le_f c_37
            have b_38 : bd 3 2 (3 : Int32) := leL fc_37 kb_3 b_12 (by decide)
            exact bd_no (eqX rfl b_38 kb_3 (lo := 3) (hi := 2) (by decide)) (by decide)
          · have fc_37 := nle_f c_37
            refine lv_aload_n hx hb dX2_readParam_145 rfl (lv_at hl 5 rfl) ?_
            refine g_getk (C := RX2) (T := TX2) (N := 16) hx hb hts (mc_ inX2) hown hK g rfl 1 (by decide) rfl (hts _ (List.mem_cons_of_mem _ t_417)) (fun _ h9 => h9) 4 rfl dX2_readParam_146 ?_
            refine g_getr (K := 132) (C := RX5) (T := TX5) (N := 9) hx hb hts (mc_ inX5) hown hK g mq1_ kq1_ (by decide) rfl 3 (by decide) rfl (hts _ (List.mem_cons_of_mem _ t_335)) (fun _ h9 => h9) rfl dX2_readParam_149 (fun a_39 ma_39 ka_39 g => ?_)
            refine lv_iload hx hb dX2_readParam_152 (lv_at hl 2 rfl) ?_
            refine lv_lload_n hx hb dX2_readParam_154 rfl (lv_at hl 3 rfl) ?_
            refine g_last hx hb hK g ma_39 ka_39 (by decide) rfl (in_bd b_12 (by decide)) (by decide) dX2_readParam_155 (fun f H locs hM_40 g => ?_)
            refine lv_aload_n hx hb dX2_readParam_156 rfl (lv_at hl 5 rfl) ?_
            refine g_getk (C := RX2) (T := TX2) (N := 16) hx hb hts (mc_ inX2) hown hK g rfl 1 (by decide) rfl (hts _ (List.mem_cons_of_mem _ t_417)) (fun _ h9 => h9) 5 rfl dX2_readParam_157 ?_
            refine lv_iload hx hb dX2_readParam_160 (lv_at hl 2 rfl) ?_
            refine lv_iconst (v := 1) hx hb dX2_readParam_162 (by decide) ?_
            have kb_1 : bd 1 1 (1 : Int32) := ⟨by decide, by decide⟩
            refine lv_iadd hx hb dX2_readParam_163 ?_
            refine lv_topi (fun y_41 ey_41 => ?_)
            have ty_41 := add_bd ey_41 b_12 kb_1 (by decide)
            have b_42 : bd 1 3 y_41 := add_rg ty_41 b_12 kb_1 (by decide)
            refine g_put (C := RX5) (T := TX5) (N := 9) hx hb hts (mc_ inX5) tyX5 tyX5_ok nmX5 hown hK g mq1_ kq1_ (by decide) rfl 4 (by decide) (hts _ (List.mem_cons_of_mem _ t_337)) (fun _ h9 => h9) rfl rfl (okV_i (bd_sub b_42 (by decide))) rfl rfl (by decide) (Or.inr (Or.inl (by decide))) (fx' := [(5, 3, q1_, .ref a_39), (8, 8, q0_, .int x_33), (8, 6, q0_, .int x_30), (6, 3, q2_, .int x_3), (2, 0, a0_, .ref q0_), (2, 1, a0_, .ref q1_), (2, 5, a0_, .ref q2_), (5, 1, q1_, .ref q3_)]) rfl dX2_readParam_164 (fun f H locs hM_43 g => ?_)
            refine lv_aload_n hx hb dX2_readParam_167 rfl (lv_at hl 5 rfl) ?_
            refine g_getk (C := RX2) (T := TX2) (N := 16) hx hb hts (mc_ inX2) hown hK g rfl 5 (by decide) rfl (hts _ (List.mem_cons_of_mem _ t_421)) (fun _ h9 => h9) 7 rfl dX2_readParam_168 ?_
            refine g_getr (K := 134) (C := RX6) (T := TX6) (N := 13) hx hb hts (mc_ inX6) hown hK g mq2_ kq2_ (by decide) rfl 4 (by decide) rfl (hts _ (List.mem_cons_of_mem _ t_572)) (fun _ h9 => h9) rfl dX2_readParam_171 (fun a_44 ma_44 ka_44 g => ?_)
            refine lv_iload hx hb dX2_readParam_174 (lv_at hl 2 rfl) ?_
            refine lv_iload hx hb dX2_readParam_176 (lv_at hl 1 rfl) ?_
            refine g_iast hx hb hK g ma_44 ka_44 (by decide) rfl (in_bd b_12 (by decide)) (bdT r_21) (by decide) dX2_readParam_178 (fun f H locs hM_45 g => ?_)
            refine lv_aload_n hx hb dX2_readParam_179 rfl (lv_at hl 5 rfl) ?_
            refine g_getk (C := RX2) (T := TX2) (N := 16) hx hb hts (mc_ inX2) hown hK g rfl 5 (by decide) rfl (hts _ (List.mem_cons_of_mem _ t_421)) (fun _ h9 => h9) 8 rfl dX2_readParam_180 ?_
            refine g_getr (K := 135) (C := RX6) (T := TX6) (N := 13) hx hb hts (mc_ inX6) hown hK g mq2_ kq2_ (by decide) rfl 5 (by decide) rfl (hts _ (List.mem_cons_of_mem _ t_575)) (fun _ h9 => h9) rfl dX2_readParam_183 (fun a_46 ma_46 ka_46 g => ?_)
            refine lv_iload hx hb dX2_readParam_186 (lv_at hl 2 rfl) ?_
            refine lv_iload hx hb dX2_readParam_188 (lv_at hl 0 rfl) ?_
            refine g_iast hx hb hK g ma_46 ka_46 (by decide) rfl (in_bd b_12 (by decide)) (bdT r_29) (by decide) dX2_readParam_190 (fun f H locs hM_47 g => ?_)
            refine lv_aload_n hx hb dX2_readParam_191 rfl (lv_at hl 5 rfl) ?_
            refine g_getk (C := RX2) (T := TX2) (N := 16) hx hb hts (mc_ inX2) hown hK g rfl 5 (by decide) rfl (hts _ (List.mem_cons_of_mem _ t_421)) (fun _ h9 => h9) 9 rfl dX2_readParam_192 ?_
            refine lv_iload hx hb dX2_readParam_195 (lv_at hl 2 rfl) ?_
            refine lv_iconst (v := 1) hx hb dX2_readParam_197 (by decide) ?_
            refine lv_iadd hx hb dX2_readParam_198 ?_
            refine lv_topi (fun y_48 ey_48 => ?_)
            obtain rfl : y_41 = y_48 := ey_41.trans ey_48.symm
            refine g_put (C := RX6) (T := TX6) (N := 13) hx hb hts (mc_ inX6) tyX6 tyX6_ok nmX6 hown hK g mq2_ kq2_ (by decide) rfl 3 (by decide) (hts _ (List.mem_cons_of_mem _ t_568)) (fun _ h9 => h9) rfl rfl (okV_i (bd_sub b_42 (by decide))) rfl rfl (by decide) (Or.inr (Or.inl (by decide))) (fx' := [(6, 5, q2_, .ref a_46), (6, 4, q2_, .ref a_44), (5, 4, q1_, .int y_41), (5, 3, q1_, .ref a_39), (8, 8, q0_, .int x_33), (8, 6, q0_, .int x_30), (2, 0, a0_, .ref q0_), (2, 1, a0_, .ref q1_), (2, 5, a0_, .ref q2_), (5, 1, q1_, .ref q3_)]) rfl dX2_readParam_199 (fun f H locs hM_49 g => ?_)
            subst hQ
            exact W.vret hx hb hr (fun t ht hW => ⟨⟨_, rfl, ⟨x_30, h_31, (g.fcts [6] rfl)⟩, q3_of g hK ht hW⟩, g.2.2.1.F ht⟩) g.2.2.1.2.2 dX2_readParam_202
      · have fc_11 := nlt_f c_11
        have b_50 : bd 3 3 x_3 := leR fc_11 kb_3 bx_3 (by decide)
        refine lv_aload_n hx hb dX2_readParam_78 rfl (lv_at hl 3 rfl) ?_
        refine g_getk (C := RX2) (T := TX2) (N := 16) hx hb hts (mc_ inX2) hown hK g rfl 0 (by decide) rfl (hts _ (List.mem_cons_of_mem _ t_416)) (fun _ h9 => h9) 1 rfl dX2_readParam_79 ?_
        refine lv_iconst (v := 4) hx hb dX2_readParam_82 (by decide) ?_
        refine lv_iload_n hx hb dX2_readParam_83 rfl (lv_at hl 2 rfl) ?_
        have kb_4 : bd 4 4 (4 : Int32) := ⟨by decide, by decide⟩
        refine g_callv (va_runV (As := [.int 4, .int r_1]) (rest := []) ⟨hx, hb, hml, hown, hts⟩ (r_X8_fail l dC dI L kd tys fr_7 H.size g.2.2.2.1 q0_ mq0_ kq0_ 4 kb_4 r_1) (cwV 2 hts (gV_ t_1122 t_1107 t_1108 t_184 t_1109) rfl rfl rfl (by decide +kernel) ⟨(Nat.le_of_ble_eq_true rfl), (Nat.le_of_ble_eq_true rfl)⟩) (pre3V g hK mq0_ kq0_ (by decide) (q := (RX8, TX8, 10)) rfl) rfl rfl hl.1 rfl (lv_room (Nat.le_of_ble_eq_true rfl)) dX2_readParam_84 ⟨(Nat.le_of_ble_eq_true rfl), (Nat.le_of_ble_eq_true rfl)⟩) g hK (by decide) (by decide) (fx' := [(6, 3, q2_, .int x_3), (2, 0, a0_, .ref q0_), (2, 1, a0_, .ref q1_), (2, 5, a0_, .ref q2_), (5, 1, q1_, .ref q3_)]) rfl (fun fr_51 H locs hp hMr_51 g => ?_)
        obtain ⟨x_52, h_53, hF_54⟩ := hp
        have g := g.more hF_54
        refine lv_aload_n hx hb dX2_readParam_87 rfl (lv_at hl 3 rfl) ?_
        refine g_getk (C := RX2) (T := TX2) (N := 16) hx hb hts (mc_ inX2) hown hK g rfl 0 (by decide) rfl (hts _ (List.mem_cons_of_mem _ t_416)) (fun _ h9 => h9) 3 rfl dX2_readParam_88 ?_
        refine g_callv (va_runV (As := []) (rest := []) ⟨hx, hb, hml, hown, hts⟩ (r_X8_next l dC dI L kd tys fr_51 H.size g.2.2.2.1 q0_ mq0_ kq0_) (cwV 0 hts (gV_ t_1131 t_1103 t_1104 t_184 t_1105) rfl rfl rfl (by decide +kernel) ⟨(Nat.le_of_ble_eq_true rfl), (Nat.le_of_ble_eq_true rfl)⟩) (pre3V g hK mq0_ kq0_ (by decide) (q := (RX8, TX8, 10)) rfl) rfl rfl hl.1 rfl (lv_room (Nat.le_of_ble_eq_true rfl)) dX2_readParam_91 ⟨(Nat.le_of_ble_eq_true rfl), (Nat.le_of_ble_eq_true rfl)⟩) g hK (by decide) (by decide) (fx' := [(8, 8, q0_, .int x_52), (6, 3, q2_, .int x_3), (2, 0, a0_, .ref q0_), (2, 1, a0_, .ref q1_), (2, 5, a0_, .ref q2_), (5, 1, q1_, .ref q3_)]) rfl (fun fr_55 H locs hp hMr_55 g => ?_)
        obtain ⟨x_56, h_57, hF_58⟩ := hp
        have g := g.more hF_58
        refine lv_aload_n hx hb dX2_readParam_94 rfl (lv_at hl 3 rfl) ?_
        refine g_getk (C := RX2) (T := TX2) (N := 16) hx hb hts (mc_ inX2) hown hK g rfl 0 (by decide) rfl (hts _ (List.mem_cons_of_mem _ t_416)) (fun _ h9 => h9) 3 rfl dX2_readParam_95 ?_
        refine lv_bipush (v := 15) hx hb dX2_readParam_98 (by decide) ?_
        have gr_59 := g
        refine g_callv (va_runV (As := [.int 15]) (rest := []) ⟨hx, hb, hml, hown, hts⟩ (r_X8_take l dC dI L kd tys fr_55 H.size g.2.2.2.1 q0_ mq0_ kq0_ 15) (cwV 1 hts (gV_ t_1098 t_1099 t_1100 t_184 t_1101) rfl rfl rfl (by decide +kernel) ⟨(Nat.le_of_ble_eq_true rfl), (Nat.le_of_ble_eq_true rfl)⟩) (pre3V g hK mq0_ kq0_ (by decide) (q := (RX8, TX8, 10)) rfl) rfl rfl hl.1 rfl (lv_room (Nat.le_of_ble_eq_true rfl)) dX2_readParam_100 ⟨(Nat.le_of_ble_eq_true rfl), (Nat.le_of_ble_eq_true rfl)⟩) g hK (by decide) (by decide) (fx' := [(6, 3, q2_, .int x_3), (2, 0, a0_, .ref q0_), (2, 1, a0_, .ref q1_), (2, 5, a0_, .ref q2_), (5, 1, q1_, .ref q3_)]) rfl (fun fr_59 H locs hp hMr_59 g => ?_)
        obtain ⟨x_60, bx_60, hFx_60⟩ := stk2 gr_59.2.2.2.2.1 hMr_59 g (by decide) 1 rfl h_53 (by decide)
        have g := g.more hFx_60
        obtain ⟨x_61, h_62, hF_63⟩ := hp
        have g := g.more hF_63
        refine lv_aload_n hx hb dX2_readParam_103 rfl (lv_at hl 3 rfl) ?_
        refine lv_ldc (v := (-2147483648)) hx hb hown (hts _ (List.mem_cons_of_mem _ t_1159)) dX2_readParam_104 ?_
        have gr_64 := g
        refine g_calli (va_runV (As := [.int (-2147483648)]) (rest := []) ⟨hx, hb, hml, hown, hts⟩ (r_X2_readNumber l dC dI L kd tys fr_59 H.size g.2.2.2.1 a0_ ma0_ ka0_ (-2147483648) q0_ mq0_ kq0_ (g.fcts [3] rfl)) (cwV 1 hts (gV_ t_1160 t_1162 t_11 t_183 t_1163) rfl rfl rfl (by decide +kernel) ⟨(Nat.le_of_ble_eq_true rfl), (Nat.le_of_ble_eq_true rfl)⟩) (pre3V g hK ma0_ ka0_ (by decide) (q := (RX2, TX2, 16)) rfl) rfl rfl hl.1 rfl (lv_room (Nat.le_of_ble_eq_true rfl)) dX2_readParam_106 ⟨(Nat.le_of_ble_eq_true rfl), (Nat.le_of_ble_eq_true rfl)⟩) g hK (by decide) (by decide) (fx' := [(6, 3, q2_, .int x_3), (2, 0, a0_, .ref q0_), (2, 1, a0_, .ref q1_), (2, 5, a0_, .ref q2_), (5, 1, q1_, .ref q3_)]) rfl (fun r_64 fr_64 H locs hp hMr_64 g => ?_)
        obtain ⟨x_65, bx_65, hFx_65⟩ := stk2 gr_64.2.2.2.2.1 hMr_64 g (by decide) 1 rfl bx_60 (by decide)
        have g := g.more hFx_65
        obtain ⟨x_66, h_67, hF_68⟩ := hp
        have g := g.more hF_68
        refine lv_istore (lv' := [(5, .int r_64), (4, .int x_3), (2, .long r_2), (1, .int r_1), (0, .ref a0_)]) hx hb dX2_readParam_109 hl (by decide) rfl (fun ls hl => ?_)
        refine lv_aload_n hx hb dX2_readParam_111 rfl (lv_at hl 4 rfl) ?_
        refine g_getk (C := RX2) (T := TX2) (N := 16) hx hb hts (mc_ inX2) hown hK g rfl 0 (by decide) rfl (hts _ (List.mem_cons_of_mem _ t_416)) (fun _ h9 => h9) 3 rfl dX2_readParam_112 ?_
        refine lv_sipush (v := 200) hx hb dX2_readParam_115 (by decide) ?_
        have gr_69 := g
        refine g_callv (va_runV (As := [.int 200]) (rest := []) ⟨hx, hb, hml, hown, hts⟩ (r_X8_take l dC dI L kd tys fr_64 H.size g.2.2.2.1 q0_ mq0_ kq0_ 200) (cwV 1 hts (gV_ t_1098 t_1099 t_1100 t_184 t_1101) rfl rfl rfl (by decide +kernel) ⟨(Nat.le_of_ble_eq_true rfl), (Nat.le_of_ble_eq_true rfl)⟩) (pre3V g hK mq0_ kq0_ (by decide) (q := (RX8, TX8, 10)) rfl) rfl rfl hl.1 rfl (lv_room (Nat.le_of_ble_eq_true rfl)) dX2_readParam_118 ⟨(Nat.le_of_ble_eq_true rfl), (Nat.le_of_ble_eq_true rfl)⟩) g hK (by decide) (by decide) (fx' := [(6, 3, q2_, .int x_3), (2, 0, a0_, .ref q0_), (2, 1, a0_, .ref q1_), (2, 5, a0_, .ref q2_), (5, 1, q1_, .ref q3_)]) rfl (fun fr_69 H locs hp hMr_69 g => ?_)
        obtain ⟨x_70, bx_70, hFx_70⟩ := stk2 gr_69.2.2.2.2.1 hMr_69 g (by decide) 1 rfl bx_65 (by decide)
        have g := g.more hFx_70
        obtain ⟨x_71, h_72, hF_73⟩ := hp
        have g := g.more hF_73
        refine lv_aload_n hx hb dX2_readParam_121 rfl (lv_at hl 4 rfl) ?_
        refine lv_iload hx hb dX2_readParam_122 (lv_at hl 0 rfl) ?_
        have gr_74 := g
        refine g_calli (va_runV (As := [.int r_64]) (rest := []) ⟨hx, hb, hml, hown, hts⟩ (r_X2_readNumber l dC dI L kd tys fr_69 H.size g.2.2.2.1 a0_ ma0_ ka0_ r_64 q0_ mq0_ kq0_ (g.fcts [3] rfl)) (cwV 1 hts (gV_ t_1160 t_1162 t_11 t_183 t_1163) rfl rfl rfl (by decide +kernel) ⟨(Nat.le_of_ble_eq_true rfl), (Nat.le_of_ble_eq_true rfl)⟩) (pre3V g hK ma0_ ka0_ (by decide) (q := (RX2, TX2, 16)) rfl) rfl rfl hl.1 rfl (lv_room (Nat.le_of_ble_eq_true rfl)) dX2_readParam_124 ⟨(Nat.le_of_ble_eq_true rfl), (Nat.le_of_ble_eq_true rfl)⟩) g hK (by decide) (by decide) (fx' := [(6, 3, q2_, .int x_3), (2, 0, a0_, .ref q0_), (2, 1, a0_, .ref q1_), (2, 5, a0_, .ref q2_), (5, 1, q1_, .ref q3_)]) rfl (fun r_74 fr_74 H locs hp hMr_74 g => ?_)
        obtain ⟨x_75, bx_75, hFx_75⟩ := stk2 gr_74.2.2.2.2.1 hMr_74 g (by decide) 1 rfl bx_70 (by decide)
        have g := g.more hFx_75
        obtain ⟨x_76, h_77, hF_78⟩ := hp
        have g := g.more hF_78
        refine lv_istore (lv' := [(6, .int r_74), (5, .int r_64), (4, .int x_3), (2, .long r_2), (1, .int r_1), (0, .ref a0_)]) hx hb dX2_readParam_127 hl (by decide) rfl (fun ls hl => ?_)
        refine lv_aload_n hx hb dX2_readParam_129 rfl (lv_at hl 5 rfl) ?_
        refine g_getk (C := RX2) (T := TX2) (N := 16) hx hb hts (mc_ inX2) hown hK g rfl 0 (by decide) rfl (hts _ (List.mem_cons_of_mem _ t_416)) (fun _ h9 => h9) 3 rfl dX2_readParam_130 ?_
        refine g_getk (C := RX8) (T := TX8) (N := 10) hx hb hts (mc_ inX8) hown hK g rfl 8 (by decide) rfl (hts _ (List.mem_cons_of_mem _ t_294)) (fun _ h9 => h9) 1 rfl dX2_readParam_133 ?_
        have kb_0 : bd 0 0 (0 : Int32) := ⟨by decide, by decide⟩
        refine lv_if_ne (tgt := 202) hx hb dX2_readParam_136 (by decide) (fun c_79 => ?_) (fun c_79 => ?_)
        · have fc_79 := neq_f c_79
          subst hQ
          exact W.vret hx hb hr (fun t ht hW => ⟨⟨_, rfl, ⟨x_76, h_77, (g.fcts [0] rfl)⟩, q3_of g hK ht hW⟩, g.2.2.1.F ht⟩) g.2.2.1.2.2 dX2_readParam_202
        · have fc_79 := eq_f c_79
          have b_80 : bd 1 0 x_75 := eqX fc_79 bx_75 kb_0 (by decide)
          exact bd_no b_80 (by decide)
    · have fc_9 := neq_f c_9
      have b_81 : bd 0 26 r_7 := neX fc_9 h_8 kb_m1 (by decide)
      refine lv_aload_n hx hb dX2_readParam_60 rfl (lv_at hl 3 rfl) ?_
      refine g_getk (C := RX2) (T := TX2) (N := 16) hx hb hts (mc_ inX2) hown hK g rfl 0 (by decide) rfl (hts _ (List.mem_cons_of_mem _ t_416)) (fun _ h9 => h9) 1 rfl dX2_readParam_61 ?_
      refine lv_iconst (v := 2) hx hb dX2_readParam_64 (by decide) ?_
      refine lv_iload_n hx hb dX2_readParam_65 rfl (lv_at hl 2 rfl) ?_
      have kb_2 : bd 2 2 (2 : Int32) := ⟨by decide, by decide⟩
      refine g_callv (va_runV (As := [.int 2, .int r_1]) (rest := []) ⟨hx, hb, hml, hown, hts⟩ (r_X8_fail_14 l dC dI L kd tys fr_7 H.size g.2.2.2.1 q0_ mq0_ kq0_ 2 kb_2 r_1) (cwV 2 hts (gV_ t_1122 t_1107 t_1108 t_184 t_1109) rfl rfl rfl (by decide +kernel) ⟨(Nat.le_of_ble_eq_true rfl), (Nat.le_of_ble_eq_true rfl)⟩) (pre3V g hK mq0_ kq0_ (by decide) (q := (RX8, TX8, 10)) rfl) rfl rfl hl.1 rfl (lv_room (Nat.le_of_ble_eq_true rfl)) dX2_readParam_66 ⟨(Nat.le_of_ble_eq_true rfl), (Nat.le_of_ble_eq_true rfl)⟩) g hK (by decide) (by decide) (fx' := [(6, 3, q2_, .int x_3), (2, 0, a0_, .ref q0_), (2, 1, a0_, .ref q1_), (2, 5, a0_, .ref q2_), (5, 1, q1_, .ref q3_)]) rfl (fun fr_82 H locs hp hMr_82 g => ?_)
      obtain ⟨x_83, h_84, hF_85⟩ := hp
      have g := g.more hF_85
      refine lv_goto (tgt := 87) hx hb dX2_readParam_69 (by decide) ?_
      refine lv_aload_n hx hb dX2_readParam_87 rfl (lv_at hl 3 rfl) ?_
      refine g_getk (C := RX2) (T := TX2) (N := 16) hx hb hts (mc_ inX2) hown hK g rfl 0 (by decide) rfl (hts _ (List.mem_cons_of_mem _ t_416)) (fun _ h9 => h9) 3 rfl dX2_readParam_88 ?_
      refine g_callv (va_runV (As := []) (rest := []) ⟨hx, hb, hml, hown, hts⟩ (r_X8_next l dC dI L kd tys fr_82 H.size g.2.2.2.1 q0_ mq0_ kq0_) (cwV 0 hts (gV_ t_1131 t_1103 t_1104 t_184 t_1105) rfl rfl rfl (by decide +kernel) ⟨(Nat.le_of_ble_eq_true rfl), (Nat.le_of_ble_eq_true rfl)⟩) (pre3V g hK mq0_ kq0_ (by decide) (q := (RX8, TX8, 10)) rfl) rfl rfl hl.1 rfl (lv_room (Nat.le_of_ble_eq_true rfl)) dX2_readParam_91 ⟨(Nat.le_of_ble_eq_true rfl), (Nat.le_of_ble_eq_true rfl)⟩) g hK (by decide) (by decide) (fx' := [(8, 8, q0_, .int x_83), (6, 3, q2_, .int x_3), (2, 0, a0_, .ref q0_), (2, 1, a0_, .ref q1_), (2, 5, a0_, .ref q2_), (5, 1, q1_, .ref q3_)]) rfl (fun fr_86 H locs hp hMr_86 g => ?_)
      obtain ⟨x_87, h_88, hF_89⟩ := hp
      have g := g.more hF_89
      refine lv_aload_n hx hb dX2_readParam_94 rfl (lv_at hl 3 rfl) ?_
      refine g_getk (C := RX2) (T := TX2) (N := 16) hx hb hts (mc_ inX2) hown hK g rfl 0 (by decide) rfl (hts _ (List.mem_cons_of_mem _ t_416)) (fun _ h9 => h9) 3 rfl dX2_readParam_95 ?_
      refine lv_bipush (v := 15) hx hb dX2_readParam_98 (by decide) ?_
      have gr_90 := g
      refine g_callv (va_runV (As := [.int 15]) (rest := []) ⟨hx, hb, hml, hown, hts⟩ (r_X8_take l dC dI L kd tys fr_86 H.size g.2.2.2.1 q0_ mq0_ kq0_ 15) (cwV 1 hts (gV_ t_1098 t_1099 t_1100 t_184 t_1101) rfl rfl rfl (by decide +kernel) ⟨(Nat.le_of_ble_eq_true rfl), (Nat.le_of_ble_eq_true rfl)⟩) (pre3V g hK mq0_ kq0_ (by decide) (q := (RX8, TX8, 10)) rfl) rfl rfl hl.1 rfl (lv_room (Nat.le_of_ble_eq_true rfl)) dX2_readParam_100 ⟨(Nat.le_of_ble_eq_true rfl), (Nat.le_of_ble_eq_true rfl)⟩) g hK (by decide) (by decide) (fx' := [(6, 3, q2_, .int x_3), (2, 0, a0_, .ref q0_), (2, 1, a0_, .ref q1_), (2, 5, a0_, .ref q2_), (5, 1, q1_, .ref q3_)]) rfl (fun fr_90 H locs hp hMr_90 g => ?_)
      obtain ⟨x_91, bx_91, hFx_91⟩ := stk2 gr_90.2.2.2.2.1 hMr_90 g (by decide) 1 rfl h_84 (by decide)
      have g := g.more hFx_91
      obtain ⟨x_92, h_93, hF_94⟩ := hp
      have g := g.more hF_94
      refine lv_aload_n hx hb dX2_readParam_103 rfl (lv_at hl 3 rfl) ?_
      refine lv_ldc (v := (-2147483648)) hx hb hown (hts _ (List.mem_cons_of_mem _ t_1159)) dX2_readParam_104 ?_
      have gr_95 := g
      refine g_calli (va_runV (As := [.int (-2147483648)]) (rest := []) ⟨hx, hb, hml, hown, hts⟩ (r_X2_readNumber l dC dI L kd tys fr_90 H.size g.2.2.2.1 a0_ ma0_ ka0_ (-2147483648) q0_ mq0_ kq0_ (g.fcts [3] rfl)) (cwV 1 hts (gV_ t_1160 t_1162 t_11 t_183 t_1163) rfl rfl rfl (by decide +kernel) ⟨(Nat.le_of_ble_eq_true rfl), (Nat.le_of_ble_eq_true rfl)⟩) (pre3V g hK ma0_ ka0_ (by decide) (q := (RX2, TX2, 16)) rfl) rfl rfl hl.1 rfl (lv_room (Nat.le_of_ble_eq_true rfl)) dX2_readParam_106 ⟨(Nat.le_of_ble_eq_true rfl), (Nat.le_of_ble_eq_true rfl)⟩) g hK (by decide) (by decide) (fx' := [(6, 3, q2_, .int x_3), (2, 0, a0_, .ref q0_), (2, 1, a0_, .ref q1_), (2, 5, a0_, .ref q2_), (5, 1, q1_, .ref q3_)]) rfl (fun r_95 fr_95 H locs hp hMr_95 g => ?_)
      obtain ⟨x_96, bx_96, hFx_96⟩ := stk2 gr_95.2.2.2.2.1 hMr_95 g (by decide) 1 rfl bx_91 (by decide)
      have g := g.more hFx_96
      obtain ⟨x_97, h_98, hF_99⟩ := hp
      have g := g.more hF_99
      refine lv_istore (lv' := [(5, .int r_95), (4, .int x_3), (2, .long r_2), (1, .int r_1), (0, .ref a0_)]) hx hb dX2_readParam_109 hl (by decide) rfl (fun ls hl => ?_)
      refine lv_aload_n hx hb dX2_readParam_111 rfl (lv_at hl 4 rfl) ?_
      refine g_getk (C := RX2) (T := TX2) (N := 16) hx hb hts (mc_ inX2) hown hK g rfl 0 (by decide) rfl (hts _ (List.mem_cons_of_mem _ t_416)) (fun _ h9 => h9) 3 rfl dX2_readParam_112 ?_
      refine lv_sipush (v := 200) hx hb dX2_readParam_115 (by decide) ?_
      have gr_100 := g
      refine g_callv (va_runV (As := [.int 200]) (rest := []) ⟨hx, hb, hml, hown, hts⟩ (r_X8_take l dC dI L kd tys fr_95 H.size g.2.2.2.1 q0_ mq0_ kq0_ 200) (cwV 1 hts (gV_ t_1098 t_1099 t_1100 t_184 t_1101) rfl rfl rfl (by decide +kernel) ⟨(Nat.le_of_ble_eq_true rfl), (Nat.le_of_ble_eq_true rfl)⟩) (pre3V g hK mq0_ kq0_ (by decide) (q := (RX8, TX8, 10)) rfl) rfl rfl hl.1 rfl (lv_room (Nat.le_of_ble_eq_true rfl)) dX2_readParam_118 ⟨(Nat.le_of_ble_eq_true rfl), (Nat.le_of_ble_eq_true rfl)⟩) g hK (by decide) (by decide) (fx' := [(6, 3, q2_, .int x_3), (2, 0, a0_, .ref q0_), (2, 1, a0_, .ref q1_), (2, 5, a0_, .ref q2_), (5, 1, q1_, .ref q3_)]) rfl (fun fr_100 H locs hp hMr_100 g => ?_)
      obtain ⟨x_101, bx_101, hFx_101⟩ := stk2 gr_100.2.2.2.2.1 hMr_100 g (by decide) 1 rfl bx_96 (by decide)
      have g := g.more hFx_101
      obtain ⟨x_102, h_103, hF_104⟩ := hp
      have g := g.more hF_104
      refine lv_aload_n hx hb dX2_readParam_121 rfl (lv_at hl 4 rfl) ?_
      refine lv_iload hx hb dX2_readParam_122 (lv_at hl 0 rfl) ?_
      have gr_105 := g
      refine g_calli (va_runV (As := [.int r_95]) (rest := []) ⟨hx, hb, hml, hown, hts⟩ (r_X2_readNumber l dC dI L kd tys fr_100 H.size g.2.2.2.1 a0_ ma0_ ka0_ r_95 q0_ mq0_ kq0_ (g.fcts [3] rfl)) (cwV 1 hts (gV_ t_1160 t_1162 t_11 t_183 t_1163) rfl rfl rfl (by decide +kernel) ⟨(Nat.le_of_ble_eq_true rfl), (Nat.le_of_ble_eq_true rfl)⟩) (pre3V g hK ma0_ ka0_ (by decide) (q := (RX2, TX2, 16)) rfl) rfl rfl hl.1 rfl (lv_room (Nat.le_of_ble_eq_true rfl)) dX2_readParam_124 ⟨(Nat.le_of_ble_eq_true rfl), (Nat.le_of_ble_eq_true rfl)⟩) g hK (by decide) (by decide) (fx' := [(6, 3, q2_, .int x_3), (2, 0, a0_, .ref q0_), (2, 1, a0_, .ref q1_), (2, 5, a0_, .ref q2_), (5, 1, q1_, .ref q3_)]) rfl (fun r_105 fr_105 H locs hp hMr_105 g => ?_)
      obtain ⟨x_106, bx_106, hFx_106⟩ := stk2 gr_105.2.2.2.2.1 hMr_105 g (by decide) 1 rfl bx_101 (by decide)
      have g := g.more hFx_106
      obtain ⟨x_107, h_108, hF_109⟩ := hp
      have g := g.more hF_109
      refine lv_istore (lv' := [(6, .int r_105), (5, .int r_95), (4, .int x_3), (2, .long r_2), (1, .int r_1), (0, .ref a0_)]) hx hb dX2_readParam_127 hl (by decide) rfl (fun ls hl => ?_)
      refine lv_aload_n hx hb dX2_readParam_129 rfl (lv_at hl 5 rfl) ?_
      refine g_getk (C := RX2) (T := TX2) (N := 16) hx hb hts (mc_ inX2) hown hK g rfl 0 (by decide) rfl (hts _ (List.mem_cons_of_mem _ t_416)) (fun _ h9 => h9) 3 rfl dX2_readParam_130 ?_
      refine g_getk (C := RX8) (T := TX8) (N := 10) hx hb hts (mc_ inX8) hown hK g rfl 8 (by decide) rfl (hts _ (List.mem_cons_of_mem _ t_294)) (fun _ h9 => h9) 1 rfl dX2_readParam_133 ?_
      have kb_0 : bd 0 0 (0 : Int32) := ⟨by decide, by decide⟩
      refine lv_if_ne (tgt := 202) hx hb dX2_readParam_136 (by decide) (fun c_110 => ?_) (fun c_110 => ?_)
      · have fc_110 := neq_f c_110
        subst hQ
        exact W.vret hx hb hr (fun t ht hW => ⟨⟨_, rfl, ⟨x_107, h_108, (g.fcts [0] rfl)⟩, q3_of g hK ht hW⟩, g.2.2.1.F ht⟩) g.2.2.1.2.2 dX2_readParam_202
      · have fc_110 := eq_f c_110
        have b_111 : bd 1 0 x_106 := eqX fc_110 bx_106 kb_0 (by decide)
        exact bd_no b_111 (by decide)
  · have fc_5 := neq_f c_5
    refine lv_aload_n hx hb dX2_readParam_36 rfl (lv_at hl 3 rfl) ?_
    refine g_getk (C := RX2) (T := TX2) (N := 16) hx hb hts (mc_ inX2) hown hK g rfl 0 (by decide) rfl (hts _ (List.mem_cons_of_mem _ t_416)) (fun _ h9 => h9) 1 rfl dX2_readParam_37 ?_
    refine lv_iconst (v := 1) hx hb dX2_readParam_40 (by decide) ?_
    refine lv_iload_n hx hb dX2_readParam_41 rfl (lv_at hl 2 rfl) ?_
    have kb_1 : bd 1 1 (1 : Int32) := ⟨by decide, by decide⟩
    refine g_callv (va_runV (As := [.int 1, .int r_1]) (rest := []) ⟨hx, hb, hml, hown, hts⟩ (r_X8_fail_6 l dC dI L kd tys fr_4 H.size g.2.2.2.1 q0_ mq0_ kq0_ 1 kb_1 r_1) (cwV 2 hts (gV_ t_1122 t_1107 t_1108 t_184 t_1109) rfl rfl rfl (by decide +kernel) ⟨(Nat.le_of_ble_eq_true rfl), (Nat.le_of_ble_eq_true rfl)⟩) (pre3V g hK mq0_ kq0_ (by decide) (q := (RX8, TX8, 10)) rfl) rfl rfl hl.1 rfl (lv_room (Nat.le_of_ble_eq_true rfl)) dX2_readParam_42 ⟨(Nat.le_of_ble_eq_true rfl), (Nat.le_of_ble_eq_true rfl)⟩) g hK (by decide) (by decide) (fx' := [(6, 3, q2_, .int x_3), (2, 0, a0_, .ref q0_), (2, 1, a0_, .ref q1_), (2, 5, a0_, .ref q2_), (5, 1, q1_, .ref q3_)]) rfl (fun fr_112 H locs hp hMr_112 g => ?_)
    obtain ⟨x_113, h_114, hF_115⟩ := hp
    have g := g.more hF_115
    refine lv_goto (tgt := 87) hx hb dX2_readParam_45 (by decide) ?_
    refine lv_aload_n hx hb dX2_readParam_87 rfl (lv_at hl 3 rfl) ?_
    refine g_getk (C := RX2) (T := TX2) (N := 16) hx hb hts (mc_ inX2) hown hK g rfl 0 (by decide) rfl (hts _ (List.mem_cons_of_mem _ t_416)) (fun _ h9 => h9) 3 rfl dX2_readParam_88 ?_
    refine g_callv (va_runV (As := []) (rest := []) ⟨hx, hb, hml, hown, hts⟩ (r_X8_next l dC dI L kd tys fr_112 H.size g.2.2.2.1 q0_ mq0_ kq0_) (cwV 0 hts (gV_ t_1131 t_1103 t_1104 t_184 t_1105) rfl rfl rfl (by decide +kernel) ⟨(Nat.le_of_ble_eq_true rfl), (Nat.le_of_ble_eq_true rfl)⟩) (pre3V g hK mq0_ kq0_ (by decide) (q := (RX8, TX8, 10)) rfl) rfl rfl hl.1 rfl (lv_room (Nat.le_of_ble_eq_true rfl)) dX2_readParam_91 ⟨(Nat.le_of_ble_eq_true rfl), (Nat.le_of_ble_eq_true rfl)⟩) g hK (by decide) (by decide) (fx' := [(8, 8, q0_, .int x_113), (6, 3, q2_, .int x_3), (2, 0, a0_, .ref q0_), (2, 1, a0_, .ref q1_), (2, 5, a0_, .ref q2_), (5, 1, q1_, .ref q3_)]) rfl (fun fr_116 H locs hp hMr_116 g => ?_)
    obtain ⟨x_117, h_118, hF_119⟩ := hp
    have g := g.more hF_119
    refine lv_aload_n hx hb dX2_readParam_94 rfl (lv_at hl 3 rfl) ?_
    refine g_getk (C := RX2) (T := TX2) (N := 16) hx hb hts (mc_ inX2) hown hK g rfl 0 (by decide) rfl (hts _ (List.mem_cons_of_mem _ t_416)) (fun _ h9 => h9) 3 rfl dX2_readParam_95 ?_
    refine lv_bipush (v := 15) hx hb dX2_readParam_98 (by decide) ?_
    have gr_120 := g
    refine g_callv (va_runV (As := [.int 15]) (rest := []) ⟨hx, hb, hml, hown, hts⟩ (r_X8_take l dC dI L kd tys fr_116 H.size g.2.2.2.1 q0_ mq0_ kq0_ 15) (cwV 1 hts (gV_ t_1098 t_1099 t_1100 t_184 t_1101) rfl rfl rfl (by decide +kernel) ⟨(Nat.le_of_ble_eq_true rfl), (Nat.le_of_ble_eq_true rfl)⟩) (pre3V g hK mq0_ kq0_ (by decide) (q := (RX8, TX8, 10)) rfl) rfl rfl hl.1 rfl (lv_room (Nat.le_of_ble_eq_true rfl)) dX2_readParam_100 ⟨(Nat.le_of_ble_eq_true rfl), (Nat.le_of_ble_eq_true rfl)⟩) g hK (by decide) (by decide) (fx' := [(6, 3, q2_, .int x_3), (2, 0, a0_, .ref q0_), (2, 1, a0_, .ref q1_), (2, 5, a0_, .ref q2_), (5, 1, q1_, .ref q3_)]) rfl (fun fr_120 H locs hp hMr_120 g => ?_)
    obtain ⟨x_121, bx_121, hFx_121⟩ := stk2 gr_120.2.2.2.2.1 hMr_120 g (by decide) 1 rfl h_114 (by decide)
    have g := g.more hFx_121
    obtain ⟨x_122, h_123, hF_124⟩ := hp
    have g := g.more hF_124
    refine lv_aload_n hx hb dX2_readParam_103 rfl (lv_at hl 3 rfl) ?_
    refine lv_ldc (v := (-2147483648)) hx hb hown (hts _ (List.mem_cons_of_mem _ t_1159)) dX2_readParam_104 ?_
    have gr_125 := g
    refine g_calli (va_runV (As := [.int (-2147483648)]) (rest := []) ⟨hx, hb, hml, hown, hts⟩ (r_X2_readNumber l dC dI L kd tys fr_120 H.size g.2.2.2.1 a0_ ma0_ ka0_ (-2147483648) q0_ mq0_ kq0_ (g.fcts [3] rfl)) (cwV 1 hts (gV_ t_1160 t_1162 t_11 t_183 t_1163) rfl rfl rfl (by decide +kernel) ⟨(Nat.le_of_ble_eq_true rfl), (Nat.le_of_ble_eq_true rfl)⟩) (pre3V g hK ma0_ ka0_ (by decide) (q := (RX2, TX2, 16)) rfl) rfl rfl hl.1 rfl (lv_room (Nat.le_of_ble_eq_true rfl)) dX2_readParam_106 ⟨(Nat.le_of_ble_eq_true rfl), (Nat.le_of_ble_eq_true rfl)⟩) g hK (by decide) (by decide) (fx' := [(6, 3, q2_, .int x_3), (2, 0, a0_, .ref q0_), (2, 1, a0_, .ref q1_), (2, 5, a0_, .ref q2_), (5, 1, q1_, .ref q3_)]) rfl (fun r_125 fr_125 H locs hp hMr_125 g => ?_)
    obtain ⟨x_126, bx_126, hFx_126⟩ := stk2 gr_125.2.2.2.2.1 hMr_125 g (by decide) 1 rfl bx_121 (by decide)
    have g := g.more hFx_126
    obtain ⟨x_127, h_128, hF_129⟩ := hp
    have g := g.more hF_129
    refine lv_istore (lv' := [(5, .int r_125), (4, .int x_3), (2, .long r_2), (1, .int r_1), (0, .ref a0_)]) hx hb dX2_readParam_109 hl (by decide) rfl (fun ls hl => ?_)
    refine lv_aload_n hx hb dX2_readParam_111 rfl (lv_at hl 4 rfl) ?_
    refine g_getk (C := RX2) (T := TX2) (N := 16) hx hb hts (mc_ inX2) hown hK g rfl 0 (by decide) rfl (hts _ (List.mem_cons_of_mem _ t_416)) (fun _ h9 => h9) 3 rfl dX2_readParam_112 ?_
    refine lv_sipush (v := 200) hx hb dX2_readParam_115 (by decide) ?_
    have gr_130 := g
    refine g_callv (va_runV (As := [.int 200]) (rest := []) ⟨hx, hb, hml, hown, hts⟩ (r_X8_take l dC dI L kd tys fr_125 H.size g.2.2.2.1 q0_ mq0_ kq0_ 200) (cwV 1 hts (gV_ t_1098 t_1099 t_1100 t_184 t_1101) rfl rfl rfl (by decide +kernel) ⟨(Nat.le_of_ble_eq_true rfl), (Nat.le_of_ble_eq_true rfl)⟩) (pre3V g hK mq0_ kq0_ (by decide) (q := (RX8, TX8, 10)) rfl) rfl rfl hl.1 rfl (lv_room (Nat.le_of_ble_eq_true rfl)) dX2_readParam_118 ⟨(Nat.le_of_ble_eq_true rfl), (Nat.le_of_ble_eq_true rfl)⟩) g hK (by decide) (by decide) (fx' := [(6, 3, q2_, .int x_3), (2, 0, a0_, .ref q0_), (2, 1, a0_, .ref q1_), (2, 5, a0_, .ref q2_), (5, 1, q1_, .ref q3_)]) rfl (fun fr_130 H locs hp hMr_130 g => ?_)
    obtain ⟨x_131, bx_131, hFx_131⟩ := stk2 gr_130.2.2.2.2.1 hMr_130 g (by decide) 1 rfl bx_126 (by decide)
    have g := g.more hFx_131
    obtain ⟨x_132, h_133, hF_134⟩ := hp
    have g := g.more hF_134
    refine lv_aload_n hx hb dX2_readParam_121 rfl (lv_at hl 4 rfl) ?_
    refine lv_iload hx hb dX2_readParam_122 (lv_at hl 0 rfl) ?_
    have gr_135 := g
    refine g_calli (va_runV (As := [.int r_125]) (rest := []) ⟨hx, hb, hml, hown, hts⟩ (r_X2_readNumber l dC dI L kd tys fr_130 H.size g.2.2.2.1 a0_ ma0_ ka0_ r_125 q0_ mq0_ kq0_ (g.fcts [3] rfl)) (cwV 1 hts (gV_ t_1160 t_1162 t_11 t_183 t_1163) rfl rfl rfl (by decide +kernel) ⟨(Nat.le_of_ble_eq_true rfl), (Nat.le_of_ble_eq_true rfl)⟩) (pre3V g hK ma0_ ka0_ (by decide) (q := (RX2, TX2, 16)) rfl) rfl rfl hl.1 rfl (lv_room (Nat.le_of_ble_eq_true rfl)) dX2_readParam_124 ⟨(Nat.le_of_ble_eq_true rfl), (Nat.le_of_ble_eq_true rfl)⟩) g hK (by decide) (by decide) (fx' := [(6, 3, q2_, .int x_3), (2, 0, a0_, .ref q0_), (2, 1, a0_, .ref q1_), (2, 5, a0_, .ref q2_), (5, 1, q1_, .ref q3_)]) rfl (fun r_135 fr_135 H locs hp hMr_135 g => ?_)
    obtain ⟨x_136, bx_136, hFx_136⟩ := stk2 gr_135.2.2.2.2.1 hMr_135 g (by decide) 1 rfl bx_131 (by decide)
    have g := g.more hFx_136
    obtain ⟨x_137, h_138, hF_139⟩ := hp
    have g := g.more hF_139
    refine lv_istore (lv' := [(6, .int r_135), (5, .int r_125), (4, .int x_3), (2, .long r_2), (1, .int r_1), (0, .ref a0_)]) hx hb dX2_readParam_127 hl (by decide) rfl (fun ls hl => ?_)
    refine lv_aload_n hx hb dX2_readParam_129 rfl (lv_at hl 5 rfl) ?_
    refine g_getk (C := RX2) (T := TX2) (N := 16) hx hb hts (mc_ inX2) hown hK g rfl 0 (by decide) rfl (hts _ (List.mem_cons_of_mem _ t_416)) (fun _ h9 => h9) 3 rfl dX2_readParam_130 ?_
    refine g_getk (C := RX8) (T := TX8) (N := 10) hx hb hts (mc_ inX8) hown hK g rfl 8 (by decide) rfl (hts _ (List.mem_cons_of_mem _ t_294)) (fun _ h9 => h9) 1 rfl dX2_readParam_133 ?_
    have kb_0 : bd 0 0 (0 : Int32) := ⟨by decide, by decide⟩
    refine lv_if_ne (tgt := 202) hx hb dX2_readParam_136 (by decide) (fun c_140 => ?_) (fun c_140 => ?_)
    · have fc_140 := neq_f c_140
      subst hQ
      exact W.vret hx hb hr (fun t ht hW => ⟨⟨_, rfl, ⟨x_137, h_138, (g.fcts [0] rfl)⟩, q3_of g hK ht hW⟩, g.2.2.1.F ht⟩) g.2.2.1.2.2 dX2_readParam_202
    · have fc_140 := eq_f c_140
      have b_141 : bd 1 0 x_136 := eqX fc_140 bx_136 kb_0 (by decide)
      exact bd_no b_141 (by decide)
set_option maxHeartbeats 4000000 in
set_option maxRecDepth 100000 in
theorem r_X8_fail_15 (l : Launch) (dC : Nat → ClassId) (dI : Nat → Nat → Nat) (L : List Nat) (kd : Nat → Nat) (tys : List (ClassId × FieldType)) (f0 : Nat → va_E) (sz : Nat) (hWT : WT L kd tys f0) (a0_ : Nat) (ma0_ : a0_ ∈ L) (ka0_ : kd a0_ = 8) (x1_ : Int32) (bx1_ : bd 5 5 x1_) (x2_ : Int32) (y0_ : Int32) (by0_ : bd 1 1201 y0_) (y1_ : Int32) (by1_ : bd 1 7 y1_) (hfx : Fs L kd f0 [(8, 6, a0_, .int y0_), (8, 8, a0_, .int y1_)]) : Met l yX8_fail (.code yX8_fail cX8_fail 4 none :: lw_g) ({ frames := 0, cells := 0, slots := 0, locals := 0 }) (va_Pc [.ref a0_, .int x1_, .int x2_] (P3 (dC, dI) L tys f0 sz)) (va_Qv (fun (f : Nat → va_E) => (Fs L kd f [(8, 6, a0_, .int 1201)])) (Q3 (dC, dI) L kd tys [(8, 6)] [] f0 sz) (pA L sz)) 0 0 (pA L sz) := by
  refine Met.ofW (cc := cX8_fail) (maxL := 4) (ret := none) (by decide) rfl ?_
  intro p e s m args below meth c s₁ B hml hv
  obtain ⟨rfl, hsz, hP, hK, hD0⟩ := hv
  have hx := B.exec
  have hb := B.bytes
  have hr := B.returns
  have hts := atoms_spec (ws := (.code yX8_fail cX8_fail 4 none :: lw_g)) B.pre
  have hown : s.vm.findClass RX8 = some m.cls := findClass_of_methodNamed B.named
  have hlocks := B.notSynchronized
  subst hsz
  have g : G3 (dC, dI) L kd tys s f0 [(8, 6)] [] f0 s.heap [] [(8, 6, a0_, .int y0_), (8, 8, a0_, .int y1_)] := G3.start hP hD0 hWT hfx
  have hl := lv_entry ([.ref a0_, .int x1_, .int x2_]) (n := 4) (Nat.le_of_ble_eq_true rfl)
  rw [lg_entry_eq]
  generalize (lg_sl ([.ref a0_, .int x1_, .int x2_]) ++ List.replicate (4 - (lg_sl ([.ref a0_, .int x1_, .int x2_])).length) Slot.unset).toArray = ls at hl ⊢
  have hl : lv_has ls 4 [(0, .ref a0_), (1, .int x1_), (2, .int x2_)] := hl
  refine W_q (fun Q hQ => ?_)
  refine lv_aload_n hx hb dX8_fail_0 rfl (lv_at hl 0 rfl) ?_
  refine g_getk (C := RX8) (T := TX8) (N := 10) hx hb hts (mc_ inX8) hown hK g rfl 6 (by decide) rfl (hts _ (List.mem_cons_of_mem _ t_291)) (fun _ h9 => h9) 0 rfl dX8_fail_1 ?_
  refine lv_sipush (v := 1200) hx hb dX8_fail_4 (by decide) ?_
  have kb_1200 : bd 1200 1200 (1200 : Int32) := ⟨by decide, by decide⟩
  refine lv_icmp_le (tgt := 31) hx hb dX8_fail_7 (by decide) (fun c_1 => ?_) (fun c_1 => ?_)
  · have fc_1 := le_f c_1
    have b_2 : bd 1 1200 y0_ := leL fc_1 by0_ kb_1200 (by decide)
    refine lv_iconst (v := 0) hx hb dX8_fail_31 (by decide) ?_
    refine lv_istore_n (lv' := [(3, .int 0), (0, .ref a0_), (1, .int x1_), (2, .int x2_)]) hx hb dX8_fail_32 rfl hl (by decide) rfl (fun ls hl => ?_)
    refine lv_aload_n hx hb dX8_fail_33 rfl (lv_at hl 1 rfl) ?_
    refine g_getk (C := RX8) (T := TX8) (N := 10) hx hb hts (mc_ inX8) hown hK g rfl 8 (by decide) rfl (hts _ (List.mem_cons_of_mem _ t_295)) (fun _ h9 => h9) 1 rfl dX8_fail_34 ?_
    have kb_0 : bd 0 0 (0 : Int32) := ⟨by decide, by decide⟩
    refine lv_if_ne (tgt := 73) hx hb dX8_fail_37 (by decide) (fun c_3 => ?_) (fun c_3 => ?_)
    · have fc_3 := neq_f c_3
      refine lv_aload_n hx hb dX8_fail_73 rfl (lv_at hl 1 rfl) ?_
      refine lv_sipush (v := 1201) hx hb dX8_fail_74 (by decide) ?_
      have kb_1201 : bd 1201 1201 (1201 : Int32) := ⟨by decide, by decide⟩
      refine g_put (C := RX8) (T := TX8) (N := 10) hx hb hts (mc_ inX8) tyX8 tyX8_ok nmX8 hown hK g ma0_ ka0_ (by decide) rfl 6 (by decide) (hts _ (List.mem_cons_of_mem _ t_291)) (fun _ h9 => h9) rfl rfl (okV_i (bd_sub kb_1201 (by decide))) rfl rfl (by decide) (Or.inr (Or.inl (by decide))) (fx' := [(8, 8, a0_, .int y1_)]) rfl dX8_fail_77 (fun f H locs hM_4 g => ?_)
      subst hQ
      exact W.vret hx hb hr (fun t ht hW => ⟨⟨_, rfl, (g.fcts [0] rfl), q3_of g hK ht hW⟩, g.2.2.1.F ht⟩) g.2.2.1.2.2 dX8_fail_80
    · have fc_3 := eq_f c_3
      have b_5 : bd 1 0 y1_ := eqX fc_3 by1_ kb_0 (by decide)
      exact bd_no b_5 (by decide)
  · have fc_1 := nle_f c_1
    have b_6 : bd 1201 1201 y0_ := ltR fc_1 kb_1200 by0_ (by decide)
    refine lv_iload_n hx hb dX8_fail_10 rfl (lv_at hl 1 rfl) ?_
    refine lv_iconst (v := 4) hx hb dX8_fail_11 (by decide) ?_
    have kb_4 : bd 4 4 (4 : Int32) := ⟨by decide, by decide⟩
    refine lv_icmp_gt (tgt := 27) hx hb dX8_fail_12 (by decide) (fun c_7 => ?_) (fun c_7 => ?_)
    · have fc_7 := lt_f c_7
      refine lv_iconst (v := 1) hx hb dX8_fail_27 (by decide) ?_
      refine lv_goto (tgt := 32) hx hb dX8_fail_28 (by decide) ?_
      refine lv_istore_n (lv' := [(3, .int 1), (0, .ref a0_), (1, .int x1_), (2, .int x2_)]) hx hb dX8_fail_32 rfl hl (by decide) rfl (fun ls hl => ?_)
      refine lv_aload_n hx hb dX8_fail_33 rfl (lv_at hl 1 rfl) ?_
      refine g_getk (C := RX8) (T := TX8) (N := 10) hx hb hts (mc_ inX8) hown hK g rfl 8 (by decide) rfl (hts _ (List.mem_cons_of_mem _ t_295)) (fun _ h9 => h9) 1 rfl dX8_fail_34 ?_
      have kb_0 : bd 0 0 (0 : Int32) := ⟨by decide, by decide⟩
      refine lv_if_ne (tgt := 73) hx hb dX8_fail_37 (by decide) (fun c_8 => ?_) (fun c_8 => ?_)
      · have fc_8 := neq_f c_8
        refine lv_aload_n hx hb dX8_fail_73 rfl (lv_at hl 1 rfl) ?_
        refine lv_sipush (v := 1201) hx hb dX8_fail_74 (by decide) ?_
        have kb_1201 : bd 1201 1201 (1201 : Int32) := ⟨by decide, by decide⟩
        refine g_put (C := RX8) (T := TX8) (N := 10) hx hb hts (mc_ inX8) tyX8 tyX8_ok nmX8 hown hK g ma0_ ka0_ (by decide) rfl 6 (by decide) (hts _ (List.mem_cons_of_mem _ t_291)) (fun _ h9 => h9) rfl rfl (okV_i (bd_sub kb_1201 (by decide))) rfl rfl (by decide) (Or.inr (Or.inl (by decide))) (fx' := [(8, 8, a0_, .int y1_)]) rfl dX8_fail_77 (fun f H locs hM_9 g => ?_)
        subst hQ
        exact W.vret hx hb hr (fun t ht hW => ⟨⟨_, rfl, (g.fcts [0] rfl), q3_of g hK ht hW⟩, g.2.2.1.F ht⟩) g.2.2.1.2.2 dX8_fail_80
      · have fc_8 := eq_f c_8
        have b_10 : bd 1 0 y1_ := eqX fc_8 by1_ kb_0 (by decide)
        exact bd_no b_10 (by decide)
    · have fc_7 := nlt_f c_7
      have b_11 : bd 5 4 x1_ := leL fc_7 bx1_ kb_4 (by decide)
      exact bd_no b_11 (by decide)
