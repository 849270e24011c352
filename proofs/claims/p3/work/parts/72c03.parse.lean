set_option maxHeartbeats 4000000 in
set_option maxRecDepth 100000 in
theorem r_X2_readClassHead (l : Launch) (dC : Nat → ClassId) (dI : Nat → Nat → Nat) (L : List Nat) (kd : Nat → Nat) (tys : List (ClassId × FieldType)) (f0 : Nat → va_E) (sz : Nat) (hWT : WT L kd tys f0) (a0_ : Nat) (ma0_ : a0_ ∈ L) (ka0_ : kd a0_ = 2) (q0_ : Nat) (mq0_ : q0_ ∈ L) (kq0_ : kd q0_ = 8) (q1_ : Nat) (mq1_ : q1_ ∈ L) (kq1_ : kd q1_ = 5) (q2_ : Nat) (mq2_ : q2_ ∈ L) (kq2_ : kd q2_ = 7) (q3_ : Nat) (mq3_ : q3_ ∈ L) (kq3_ : kd q3_ = 9) (q4_ : Nat) (mq4_ : q4_ ∈ L) (kq4_ : kd q4_ = 9) (y0_ : Int32) (by0_ : bd 0 0 y0_) (hfx : Fs L kd f0 [(2, 0, a0_, .ref q0_), (2, 1, a0_, .ref q1_), (2, 3, a0_, .ref q2_), (2, 4, a0_, .ref q3_), (5, 1, q1_, .ref q4_), (8, 8, q0_, .int y0_)]) : Met l yX2_readClassHead (.code yX2_readClassHead cX2_readClassHead 4 none :: lw_g) ({ frames := 3, cells := 0, slots := 0, locals := 84 }) (va_Pc [.ref a0_] (P3 (dC, dI) L tys f0 sz)) (va_Qv (fun (f : Nat → va_E) => (∃ z0_ : Int32, bd 1 1201 z0_ ∧ ∃ z2_ : Int32, bd 0 7 z2_ ∧ ∃ z3_ : Nat, (z3_ ∈ L ∧ kd z3_ = 9) ∧ ∃ z4_ : Nat, (z4_ ∈ L ∧ kd z4_ = 9) ∧ ∃ z5_ : Int32, bd 0 7 z5_ ∧ Fs L kd f [(8, 6, q0_, .int z0_), (8, 8, q0_, .int y0_), (5, 2, q1_, .int z2_), (5, 1, q1_, .ref z3_), (2, 4, a0_, .ref z4_), (7, 1, q2_, .int z5_)]) ∨ (∃ z0_ : Int32, bd 1201 1201 z0_ ∧ ∃ z1_ : Int32, bd 1 7 z1_ ∧ ∃ z2_ : Nat, (z2_ ∈ L ∧ kd z2_ = 9) ∧ ∃ z3_ : Nat, (z3_ ∈ L ∧ kd z3_ = 9) ∧ Fs L kd f [(8, 6, q0_, .int z0_), (8, 8, q0_, .int z1_), (5, 1, q1_, .ref z2_), (2, 4, a0_, .ref z3_)])) (Q3 (dC, dI) L kd tys [(2, 4), (5, 1), (5, 2), (8, 6), (8, 8), (8, 9), (9, 0), (9, 1), (9, 2), (9, 7), (9, 8), (9, 10), (9, 11), (9, 12)] [152, 153, 154, 155, 156] f0 sz) (pA L sz)) 0 0 (pA L sz) := by
  refine Met.ofW (cc := cX2_readClassHead) (maxL := 4) (ret := none) (by decide) rfl ?_
  intro p e s m args below meth c s₁ B hml hv
  obtain ⟨rfl, hsz, hP, hK, hD0⟩ := hv
  have hx := B.exec
  have hb := B.bytes
  have hr := B.returns
  have hts := atoms_spec (ws := (.code yX2_readClassHead cX2_readClassHead 4 none :: lw_g)) B.pre
  have hown : s.vm.findClass RX2 = some m.cls := findClass_of_methodNamed B.named
  have hlocks := B.notSynchronized
  subst hsz
  have g : G3 (dC, dI) L kd tys s f0 [(2, 4), (5, 1), (5, 2), (8, 6), (8, 8), (8, 9), (9, 0), (9, 1), (9, 2), (9, 7), (9, 8), (9, 10), (9, 11), (9, 12)] [152, 153, 154, 155, 156] f0 s.heap [] [(2, 0, a0_, .ref q0_), (2, 1, a0_, .ref q1_), (2, 3, a0_, .ref q2_), (2, 4, a0_, .ref q3_), (5, 1, q1_, .ref q4_), (8, 8, q0_, .int y0_)] := G3.start hP hD0 hWT hfx
  have hl := lv_entry ([.ref a0_]) (n := 4) (Nat.le_of_ble_eq_true rfl)
  rw [lg_entry_eq]
  generalize (lg_sl ([.ref a0_]) ++ List.replicate (4 - (lg_sl ([.ref a0_])).length) Slot.unset).toArray = ls at hl ⊢
  have hl : lv_has ls 4 [(0, .ref a0_)] := hl
  refine W_q (fun Q hQ => ?_)
  refine lv_aload_n hx hb dX2_readClassHead_0 rfl (lv_at hl 0 rfl) ?_
  refine g_getk (C := RX2) (T := TX2) (N := 16) hx hb hts (mc_ inX2) hown hK g rfl 0 (by decide) rfl (hts _ (List.mem_cons_of_mem _ t_416)) (fun _ h9 => h9) 0 rfl dX2_readClassHead_1 ?_
  refine lv_bipush (v := 10) hx hb dX2_readClassHead_4 (by decide) ?_
  refine g_callv (va_runV (As := [.int 10]) (rest := []) ⟨hx, hb, hml, hown, hts⟩ (r_X8_take l dC dI L kd tys f0 s.heap.size g.2.2.2.1 q0_ mq0_ kq0_ 10 y0_ by0_ (g.fcts [5] rfl)) (cwV 1 hts (gV_ t_1098 t_1099 t_1100 t_184 t_1101) rfl rfl rfl (by decide +kernel) ⟨(Nat.le_of_ble_eq_true rfl), (Nat.le_of_ble_eq_true rfl)⟩) (pre3V g hK mq0_ kq0_ (by decide) (q := (RX8, TX8, 10)) rfl) rfl rfl hl.1 rfl (lv_room (Nat.le_of_ble_eq_true rfl)) dX2_readClassHead_6 ⟨(Nat.le_of_ble_eq_true rfl), (Nat.le_of_ble_eq_true rfl)⟩) g hK (by decide) (by decide) (fx' := [(2, 0, a0_, .ref q0_), (2, 1, a0_, .ref q1_), (2, 3, a0_, .ref q2_), (2, 4, a0_, .ref q3_), (5, 1, q1_, .ref q4_)]) rfl (fun fr_1 H locs hp hMr_1 g => ?_)
  rcases hp with ⟨x_2, h_3, hF_4⟩ | ⟨x_5, h_6, hF_7⟩
  · have g := g.more hF_4
    refine lv_aload_n hx hb dX2_readClassHead_9 rfl (lv_at hl 0 rfl) ?_
    refine g_getk (C := RX2) (T := TX2) (N := 16) hx hb hts (mc_ inX2) hown hK g rfl 0 (by decide) rfl (hts _ (List.mem_cons_of_mem _ t_416)) (fun _ h9 => h9) 2 rfl dX2_readClassHead_10 ?_
    refine g_calli (va_runV (As := []) (rest := []) ⟨hx, hb, hml, hown, hts⟩ (r_X8_place l dC dI L kd tys fr_1 H.size g.2.2.2.1 q0_ mq0_ kq0_) (cwV 0 hts (gV_ t_1110 t_1111 t_1112 t_184 t_1113) rfl rfl rfl (by decide +kernel) ⟨(Nat.le_of_ble_eq_true rfl), (Nat.le_of_ble_eq_true rfl)⟩) (pre3V g hK mq0_ kq0_ (by decide) (q := (RX8, TX8, 10)) rfl) rfl rfl hl.1 rfl (lv_room (Nat.le_of_ble_eq_true rfl)) dX2_readClassHead_13 ⟨(Nat.le_of_ble_eq_true rfl), (Nat.le_of_ble_eq_true rfl)⟩) g hK (by decide) (by decide) (fx' := [(8, 6, q0_, .int x_2), (8, 8, q0_, .int y0_), (2, 0, a0_, .ref q0_), (2, 1, a0_, .ref q1_), (2, 3, a0_, .ref q2_), (2, 4, a0_, .ref q3_), (5, 1, q1_, .ref q4_)]) rfl (fun r_8 fr_8 H locs hp hMr_8 g => ?_)
    refine lv_istore_n (lv' := [(1, .int r_8), (0, .ref a0_)]) hx hb dX2_readClassHead_16 rfl hl (by decide) rfl (fun ls hl => ?_)
    refine lv_aload_n hx hb dX2_readClassHead_17 rfl (lv_at hl 1 rfl) ?_
    refine g_getk (C := RX2) (T := TX2) (N := 16) hx hb hts (mc_ inX2) hown hK g rfl 0 (by decide) rfl (hts _ (List.mem_cons_of_mem _ t_416)) (fun _ h9 => h9) 2 rfl dX2_readClassHead_18 ?_
    refine g_calll (va_runV (As := []) (rest := []) ⟨hx, hb, hml, hown, hts⟩ (r_X8_value l dC dI L kd tys fr_8 H.size g.2.2.2.1 q0_ mq0_ kq0_) (cwV 0 hts (gV_ t_1114 t_1115 t_1116 t_184 t_1117) rfl rfl rfl (by decide +kernel) ⟨(Nat.le_of_ble_eq_true rfl), (Nat.le_of_ble_eq_true rfl)⟩) (pre3V g hK mq0_ kq0_ (by decide) (q := (RX8, TX8, 10)) rfl) rfl rfl hl.1 rfl (lv_room (Nat.le_of_ble_eq_true rfl)) dX2_readClassHead_21 ⟨(Nat.le_of_ble_eq_true rfl), (Nat.le_of_ble_eq_true rfl)⟩) g hK (by decide) (by decide) (fx' := [(8, 6, q0_, .int x_2), (8, 8, q0_, .int y0_), (2, 0, a0_, .ref q0_), (2, 1, a0_, .ref q1_), (2, 3, a0_, .ref q2_), (2, 4, a0_, .ref q3_), (5, 1, q1_, .ref q4_)]) rfl (fun r_9 fr_9 H locs hp hMr_9 g => ?_)
    refine lv_lstore_n (lv' := [(2, .long r_9), (1, .int r_8), (0, .ref a0_)]) hx hb dX2_readClassHead_24 rfl hl (by decide) rfl (fun ls hl => ?_)
    refine lv_aload_n hx hb dX2_readClassHead_25 rfl (lv_at hl 2 rfl) ?_
    refine g_getk (C := RX2) (T := TX2) (N := 16) hx hb hts (mc_ inX2) hown hK g rfl 0 (by decide) rfl (hts _ (List.mem_cons_of_mem _ t_416)) (fun _ h9 => h9) 2 rfl dX2_readClassHead_26 ?_
    refine g_calli (va_runV (As := []) (rest := []) ⟨hx, hb, hml, hown, hts⟩ (r_X8_kind l dC dI L kd tys fr_9 H.size g.2.2.2.1 q0_ mq0_ kq0_) (cwV 0 hts (gV_ t_1118 t_1119 t_1120 t_184 t_1121) rfl rfl rfl (by decide +kernel) ⟨(Nat.le_of_ble_eq_true rfl), (Nat.le_of_ble_eq_true rfl)⟩) (pre3V g hK mq0_ kq0_ (by decide) (q := (RX8, TX8, 10)) rfl) rfl rfl hl.1 rfl (lv_room (Nat.le_of_ble_eq_true rfl)) dX2_readClassHead_29 ⟨(Nat.le_of_ble_eq_true rfl), (Nat.le_of_ble_eq_true rfl)⟩) g hK (by decide) (by decide) (fx' := [(8, 6, q0_, .int x_2), (8, 8, q0_, .int y0_), (2, 0, a0_, .ref q0_), (2, 1, a0_, .ref q1_), (2, 3, a0_, .ref q2_), (2, 4, a0_, .ref q3_), (5, 1, q1_, .ref q4_)]) rfl (fun r_10 fr_10 H locs hp hMr_10 g => ?_)
    refine lv_iconst (v := 3) hx hb dX2_readClassHead_32 (by decide) ?_
    have kb_3 : bd 3 3 (3 : Int32) := ⟨by decide, by decide⟩
    refine lv_icmp_eq (tgt := 48) hx hb dX2_readClassHead_33 (by decide) (fun c_11 => ?_) (fun c_11 => ?_)
    · have fc_11 := eq_f c_11
      have b_12 : bd 3 3 r_10 := eqX fc_11 (bdT r_10) kb_3 (by decide)
      refine lv_aload_n hx hb dX2_readClassHead_48 rfl (lv_at hl 2 rfl) ?_
      refine g_getk (C := RX2) (T := TX2) (N := 16) hx hb hts (mc_ inX2) hown hK g rfl 3 (by decide) rfl (hts _ (List.mem_cons_of_mem _ t_419)) (fun _ h9 => h9) 4 rfl dX2_readClassHead_49 ?_
      refine lv_lload_n hx hb dX2_readClassHead_52 rfl (lv_at hl 0 rfl) ?_
      refine g_calli (va_runV (As := [.long r_9]) (rest := []) ⟨hx, hb, hml, hown, hts⟩ (r_X7_classNamed l dC dI L kd tys fr_10 H.size g.2.2.2.1 q2_ mq2_ kq2_ r_9) (cwV 1 hts (gV_ t_1123 t_1124 t_1125 t_191 t_1126) rfl rfl rfl (by decide +kernel) ⟨(Nat.le_of_ble_eq_true rfl), (Nat.le_of_ble_eq_true rfl)⟩) (pre3V g hK mq2_ kq2_ (by decide) (q := (RX7, TX7, 19)) rfl) rfl rfl hl.1 rfl (lv_room (Nat.le_of_ble_eq_true rfl)) dX2_readClassHead_53 ⟨(Nat.le_of_ble_eq_true rfl), (Nat.le_of_ble_eq_true rfl)⟩) g hK (by decide) (by decide) (fx' := [(8, 6, q0_, .int x_2), (8, 8, q0_, .int y0_), (2, 0, a0_, .ref q0_), (2, 1, a0_, .ref q1_), (2, 3, a0_, .ref q2_), (2, 4, a0_, .ref q3_), (5, 1, q1_, .ref q4_)]) rfl (fun r_13 fr_13 H locs hp hMr_13 g => ?_)
      obtain ⟨h_14, -⟩ := hp
      refine lv_iconst (v := (-1)) hx hb dX2_readClassHead_56 (by decide) ?_
      have kb_m1 : bd (-1) (-1) ((-1) : Int32) := ⟨by decide, by decide⟩
      refine lv_icmp_eq (tgt := 72) hx hb dX2_readClassHead_57 (by decide) (fun c_15 => ?_) (fun c_15 => ?_)
      · have fc_15 := eq_f c_15
        have b_16 : bd (-1) (-1) r_13 := eqX fc_15 h_14 kb_m1 (by decide)
        refine lv_aload_n hx hb dX2_readClassHead_72 rfl (lv_at hl 2 rfl) ?_
        refine g_getk (C := RX2) (T := TX2) (N := 16) hx hb hts (mc_ inX2) hown hK g rfl 3 (by decide) rfl (hts _ (List.mem_cons_of_mem _ t_419)) (fun _ h9 => h9) 4 rfl dX2_readClassHead_73 ?_
        refine g_geti (C := RX7) (T := TX7) (N := 19) hx hb hts (mc_ inX7) hown hK g mq2_ kq2_ (by decide) rfl 1 (by decide) rfl (hts _ (List.mem_cons_of_mem _ t_628)) (fun _ h9 => h9) rfl dX2_readClassHead_76 (fun x_17 bx_17 g => ?_)
        refine lv_bipush (v := 8) hx hb dX2_readClassHead_79 (by decide) ?_
        have kb_8 : bd 8 8 (8 : Int32) := ⟨by decide, by decide⟩
        refine lv_icmp_lt (tgt := 96) hx hb dX2_readClassHead_81 (by decide) (fun c_18 => ?_) (fun c_18 => ?_)
        · have fc_18 := lt_f c_18
          have b_19 : bd 0 7 x_17 := ltL fc_18 bx_17 kb_8 (by decide)
          refine lv_aload_n hx hb dX2_readClassHead_96 rfl (lv_at hl 2 rfl) ?_
          refine lv_aload_n hx hb dX2_readClassHead_97 rfl (lv_at hl 2 rfl) ?_
          refine g_getk (C := RX2) (T := TX2) (N := 16) hx hb hts (mc_ inX2) hown hK g rfl 3 (by decide) rfl (hts _ (List.mem_cons_of_mem _ t_419)) (fun _ h9 => h9) 5 rfl dX2_readClassHead_98 ?_
          refine g_getr (K := 136) (C := RX7) (T := TX7) (N := 19) hx hb hts (mc_ inX7) hown hK g mq2_ kq2_ (by decide) rfl 0 (by decide) rfl (hts _ (List.mem_cons_of_mem _ t_621)) (fun _ h9 => h9) rfl dX2_readClassHead_101 (fun a_20 ma_20 ka_20 g => ?_)
          refine lv_aload_n hx hb dX2_readClassHead_104 rfl (lv_at hl 2 rfl) ?_
          refine g_getk (C := RX2) (T := TX2) (N := 16) hx hb hts (mc_ inX2) hown hK g rfl 3 (by decide) rfl (hts _ (List.mem_cons_of_mem _ t_419)) (fun _ h9 => h9) 6 rfl dX2_readClassHead_105 ?_
          refine g_getk (C := RX7) (T := TX7) (N := 19) hx hb hts (mc_ inX7) hown hK g rfl 1 (by decide) rfl (hts _ (List.mem_cons_of_mem _ t_628)) (fun _ h9 => h9) 1 rfl dX2_readClassHead_108 ?_
          refine g_aald hx hb hK g ma_20 ka_20 (by decide) rfl (by decide) (in_bd b_19 (by decide)) dX2_readClassHead_111 (fun a_21 ma_21 ua_21 wa_21 => ?_)
          have ka_21 : kd a_21 = 9 := by omega
          refine g_put (C := RX2) (T := TX2) (N := 16) hx hb hts (mc_ inX2) tyX2 tyX2_ok nmX2 hown hK g ma0_ ka0_ (by decide) rfl 4 (by decide) (hts _ (List.mem_cons_of_mem _ t_420)) (fun _ h9 => h9) rfl rfl (okV_n ma_21 ka_21 (by decide)) rfl rfl (by decide) (Or.inr (Or.inl (by decide))) (fx' := [(7, 0, q2_, .ref a_20), (7, 1, q2_, .int x_17), (8, 6, q0_, .int x_2), (8, 8, q0_, .int y0_), (2, 0, a0_, .ref q0_), (2, 1, a0_, .ref q1_), (2, 3, a0_, .ref q2_), (5, 1, q1_, .ref q4_)]) rfl dX2_readClassHead_112 (fun f H locs hM_22 g => ?_)
          refine lv_aload_n hx hb dX2_readClassHead_115 rfl (lv_at hl 2 rfl) ?_
          refine g_getk (C := RX2) (T := TX2) (N := 16) hx hb hts (mc_ inX2) hown hK g rfl 4 (by decide) rfl (hts _ (List.mem_cons_of_mem _ t_420)) (fun _ h9 => h9) 0 rfl dX2_readClassHead_116 ?_
          refine lv_lload_n hx hb dX2_readClassHead_119 rfl (lv_at hl 0 rfl) ?_
          refine g_callv (va_runV (As := [.long r_9]) (rest := []) ⟨hx, hb, hml, hown, hts⟩ (r_X9_beginAs l dC dI L kd tys f H.size g.2.2.2.1 a_21 ma_21 ka_21 r_9) (cwV 1 hts (gV_ t_1127 t_1128 t_1129 t_192 t_1130) rfl rfl rfl (by decide +kernel) ⟨(Nat.le_of_ble_eq_true rfl), (Nat.le_of_ble_eq_true rfl)⟩) (pre3V g hK ma_21 ka_21 (by decide) (q := (RX9, TX9, 13)) rfl) rfl rfl hl.1 rfl (lv_room (Nat.le_of_ble_eq_true rfl)) dX2_readClassHead_120 ⟨(Nat.le_of_ble_eq_true rfl), (Nat.le_of_ble_eq_true rfl)⟩) g hK (by decide) (by decide) (fx' := [(2, 4, a0_, .ref a_21), (7, 0, q2_, .ref a_20), (7, 1, q2_, .int x_17), (8, 6, q0_, .int x_2), (8, 8, q0_, .int y0_), (2, 0, a0_, .ref q0_), (2, 1, a0_, .ref q1_), (2, 3, a0_, .ref q2_), (5, 1, q1_, .ref q4_)]) rfl (fun fr_23 H locs hp hMr_23 g => ?_)
          have hF_24 := hp
          have g := g.more hF_24
          refine lv_aload_n hx hb dX2_readClassHead_123 rfl (lv_at hl 2 rfl) ?_
          refine g_getk (C := RX2) (T := TX2) (N := 16) hx hb hts (mc_ inX2) hown hK g rfl 4 (by decide) rfl (hts _ (List.mem_cons_of_mem _ t_420)) (fun _ h9 => h9) 7 rfl dX2_readClassHead_124 ?_
          refine lv_aload_n hx hb dX2_readClassHead_127 rfl (lv_at hl 2 rfl) ?_
          refine g_getk (C := RX2) (T := TX2) (N := 16) hx hb hts (mc_ inX2) hown hK g rfl 3 (by decide) rfl (hts _ (List.mem_cons_of_mem _ t_419)) (fun _ h9 => h9) 14 rfl dX2_readClassHead_128 ?_
          refine g_geti (C := RX7) (T := TX7) (N := 19) hx hb hts (mc_ inX7) hown hK g mq2_ kq2_ (by decide) rfl 13 (by decide) rfl (hts _ (List.mem_cons_of_mem _ t_668)) (fun _ h9 => h9) rfl dX2_readClassHead_131 (fun x_25 bx_25 g => ?_)
          refine g_put (C := RX9) (T := TX9) (N := 13) hx hb hts (mc_ inX9) tyX9 tyX9_ok nmX9 hown hK g ma_21 ka_21 (by decide) rfl 10 (by decide) (hts _ (List.mem_cons_of_mem _ t_512)) (fun _ h9 => h9) rfl rfl (okV_i bx_25) rfl rfl (by decide) (Or.inr (Or.inl (by decide))) (fx' := [(7, 13, q2_, .int x_25), (9, 12, a_21, .int (-1)), (9, 11, a_21, .int 0), (9, 8, a_21, .int 0), (9, 7, a_21, .int 0), (9, 2, a_21, .int 0), (9, 1, a_21, .int (-1)), (2, 4, a0_, .ref a_21), (7, 0, q2_, .ref a_20), (7, 1, q2_, .int x_17), (8, 6, q0_, .int x_2), (8, 8, q0_, .int y0_), (2, 0, a0_, .ref q0_), (2, 1, a0_, .ref q1_), (2, 3, a0_, .ref q2_), (5, 1, q1_, .ref q4_)]) rfl dX2_readClassHead_134 (fun f H locs hM_26 g => ?_)
          refine lv_aload_n hx hb dX2_readClassHead_137 rfl (lv_at hl 2 rfl) ?_
          refine g_getk (C := RX2) (T := TX2) (N := 16) hx hb hts (mc_ inX2) hown hK g rfl 1 (by decide) rfl (hts _ (List.mem_cons_of_mem _ t_417)) (fun _ h9 => h9) 14 rfl dX2_readClassHead_138 ?_
          refine lv_aload_n hx hb dX2_readClassHead_141 rfl (lv_at hl 2 rfl) ?_
          refine g_getk (C := RX2) (T := TX2) (N := 16) hx hb hts (mc_ inX2) hown hK g rfl 4 (by decide) rfl (hts _ (List.mem_cons_of_mem _ t_420)) (fun _ h9 => h9) 8 rfl dX2_readClassHead_142 ?_
          refine g_put (C := RX5) (T := TX5) (N := 9) hx hb hts (mc_ inX5) tyX5 tyX5_ok nmX5 hown hK g mq1_ kq1_ (by decide) rfl 1 (by decide) (hts _ (List.mem_cons_of_mem _ t_330)) (fun _ h9 => h9) rfl rfl (okV_n ma_21 ka_21 (by decide)) rfl rfl (by decide) (Or.inr (Or.inl (by decide))) (fx' := [(9, 10, a_21, .int x_25), (7, 13, q2_, .int x_25), (9, 12, a_21, .int (-1)), (9, 11, a_21, .int 0), (9, 8, a_21, .int 0), (9, 7, a_21, .int 0), (9, 2, a_21, .int 0), (9, 1, a_21, .int (-1)), (2, 4, a0_, .ref a_21), (7, 0, q2_, .ref a_20), (7, 1, q2_, .int x_17), (8, 6, q0_, .int x_2), (8, 8, q0_, .int y0_), (2, 0, a0_, .ref q0_), (2, 1, a0_, .ref q1_), (2, 3, a0_, .ref q2_)]) rfl dX2_readClassHead_145 (fun f H locs hM_27 g => ?_)
          refine lv_aload_n hx hb dX2_readClassHead_148 rfl (lv_at hl 2 rfl) ?_
          refine g_getk (C := RX2) (T := TX2) (N := 16) hx hb hts (mc_ inX2) hown hK g rfl 1 (by decide) rfl (hts _ (List.mem_cons_of_mem _ t_417)) (fun _ h9 => h9) 15 rfl dX2_readClassHead_149 ?_
          refine lv_aload_n hx hb dX2_readClassHead_152 rfl (lv_at hl 2 rfl) ?_
          refine g_getk (C := RX2) (T := TX2) (N := 16) hx hb hts (mc_ inX2) hown hK g rfl 3 (by decide) rfl (hts _ (List.mem_cons_of_mem _ t_419)) (fun _ h9 => h9) 16 rfl dX2_readClassHead_153 ?_
          refine g_getk (C := RX7) (T := TX7) (N := 19) hx hb hts (mc_ inX7) hown hK g rfl 1 (by decide) rfl (hts _ (List.mem_cons_of_mem _ t_628)) (fun _ h9 => h9) 11 rfl dX2_readClassHead_156 ?_
          refine g_put (C := RX5) (T := TX5) (N := 9) hx hb hts (mc_ inX5) tyX5 tyX5_ok nmX5 hown hK g mq1_ kq1_ (by decide) rfl 2 (by decide) (hts _ (List.mem_cons_of_mem _ t_333)) (fun _ h9 => h9) rfl rfl (okV_i (bd_sub b_19 (by decide))) rfl rfl (by decide) (Or.inr (Or.inl (by decide))) (fx' := [(5, 1, q1_, .ref a_21), (9, 10, a_21, .int x_25), (7, 13, q2_, .int x_25), (9, 12, a_21, .int (-1)), (9, 11, a_21, .int 0), (9, 8, a_21, .int 0), (9, 7, a_21, .int 0), (9, 2, a_21, .int 0), (9, 1, a_21, .int (-1)), (2, 4, a0_, .ref a_21), (7, 0, q2_, .ref a_20), (7, 1, q2_, .int x_17), (8, 6, q0_, .int x_2), (8, 8, q0_, .int y0_), (2, 0, a0_, .ref q0_), (2, 1, a0_, .ref q1_), (2, 3, a0_, .ref q2_)]) rfl dX2_readClassHead_159 (fun f H locs hM_28 g => ?_)
          refine lv_aload_n hx hb dX2_readClassHead_162 rfl (lv_at hl 2 rfl) ?_
          refine g_getk (C := RX2) (T := TX2) (N := 16) hx hb hts (mc_ inX2) hown hK g rfl 0 (by decide) rfl (hts _ (List.mem_cons_of_mem _ t_416)) (fun _ h9 => h9) 15 rfl dX2_readClassHead_163 ?_
          refine g_callv (va_runV (As := []) (rest := []) ⟨hx, hb, hml, hown, hts⟩ (r_X8_next l dC dI L kd tys f H.size g.2.2.2.1 q0_ mq0_ kq0_) (cwV 0 hts (gV_ t_1131 t_1103 t_1104 t_184 t_1105) rfl rfl rfl (by decide +kernel) ⟨(Nat.le_of_ble_eq_true rfl), (Nat.le_of_ble_eq_true rfl)⟩) (pre3V g hK mq0_ kq0_ (by decide) (q := (RX8, TX8, 10)) rfl) rfl rfl hl.1 rfl (lv_room (Nat.le_of_ble_eq_true rfl)) dX2_readClassHead_166 ⟨(Nat.le_of_ble_eq_true rfl), (Nat.le_of_ble_eq_true rfl)⟩) g hK (by decide) (by decide) (fx' := [(5, 2, q1_, .int x_17), (5, 1, q1_, .ref a_21), (9, 10, a_21, .int x_25), (7, 13, q2_, .int x_25), (9, 12, a_21, .int (-1)), (9, 11, a_21, .int 0), (9, 8, a_21, .int 0), (9, 7, a_21, .int 0), (9, 2, a_21, .int 0), (9, 1, a_21, .int (-1)), (2, 4, a0_, .ref a_21), (7, 0, q2_, .ref a_20), (7, 1, q2_, .int x_17), (8, 8, q0_, .int y0_), (2, 0, a0_, .ref q0_), (2, 1, a0_, .ref q1_), (2, 3, a0_, .ref q2_)]) rfl (fun fr_29 H locs hp hMr_29 g => ?_)
          obtain ⟨x_30, h_31, hF_32⟩ := hp
          have g := g.more hF_32
          refine lv_aload_n hx hb dX2_readClassHead_169 rfl (lv_at hl 2 rfl) ?_
          refine g_getk (C := RX2) (T := TX2) (N := 16) hx hb hts (mc_ inX2) hown hK g rfl 0 (by decide) rfl (hts _ (List.mem_cons_of_mem _ t_416)) (fun _ h9 => h9) 15 rfl dX2_readClassHead_170 ?_
          refine g_calli (va_runV (As := []) (rest := []) ⟨hx, hb, hml, hown, hts⟩ (r_X8_kind l dC dI L kd tys fr_29 H.size g.2.2.2.1 q0_ mq0_ kq0_) (cwV 0 hts (gV_ t_1118 t_1119 t_1120 t_184 t_1121) rfl rfl rfl (by decide +kernel) ⟨(Nat.le_of_ble_eq_true rfl), (Nat.le_of_ble_eq_true rfl)⟩) (pre3V g hK mq0_ kq0_ (by decide) (q := (RX8, TX8, 10)) rfl) rfl rfl hl.1 rfl (lv_room (Nat.le_of_ble_eq_true rfl)) dX2_readClassHead_173 ⟨(Nat.le_of_ble_eq_true rfl), (Nat.le_of_ble_eq_true rfl)⟩) g hK (by decide) (by decide) (fx' := [(8, 6, q0_, .int x_30), (5, 2, q1_, .int x_17), (5, 1, q1_, .ref a_21), (9, 10, a_21, .int x_25), (7, 13, q2_, .int x_25), (9, 12, a_21, .int (-1)), (9, 11, a_21, .int 0), (9, 8, a_21, .int 0), (9, 7, a_21, .int 0), (9, 2, a_21, .int 0), (9, 1, a_21, .int (-1)), (2, 4, a0_, .ref a_21), (7, 0, q2_, .ref a_20), (7, 1, q2_, .int x_17), (8, 8, q0_, .int y0_), (2, 0, a0_, .ref q0_), (2, 1, a0_, .ref q1_), (2, 3, a0_, .ref q2_)]) rfl (fun r_33 fr_33 H locs hp hMr_33 g => ?_)
          refine lv_bipush (v := 11) hx hb dX2_readClassHead_176 (by decide) ?_
          have kb_11 : bd 11 11 (11 : Int32) := ⟨by decide, by decide⟩
          refine lv_icmp_ne (tgt := 185) hx hb dX2_readClassHead_178 (by decide) (fun c_34 => ?_) (fun c_34 => ?_)
          · have fc_34 := neq_f c_34
            refine lv_aload_n hx hb dX2_readClassHead_185 rfl (lv_at hl 2 rfl) ?_
            refine g_getk (C := RX2) (T := TX2) (N := 16) hx hb hts (mc_ inX2) hown hK g rfl 0 (by decide) rfl (hts _ (List.mem_cons_of_mem _ t_416)) (fun _ h9 => h9) 15 rfl dX2_readClassHead_186 ?_
            refine lv_bipush (v := 123) hx hb dX2_readClassHead_189 (by decide) ?_
            refine g_callv (va_runV (As := [.int 123]) (rest := []) ⟨hx, hb, hml, hown, hts⟩ (r_X8_take l dC dI L kd tys fr_33 H.size g.2.2.2.1 q0_ mq0_ kq0_ 123 y0_ by0_ (g.fcts [14] rfl)) (cwV 1 hts (gV_ t_1098 t_1099 t_1100 t_184 t_1101) rfl rfl rfl (by decide +kernel) ⟨(Nat.le_of_ble_eq_true rfl), (Nat.le_of_ble_eq_true rfl)⟩) (pre3V g hK mq0_ kq0_ (by decide) (q := (RX8, TX8, 10)) rfl) rfl rfl hl.1 rfl (lv_room (Nat.le_of_ble_eq_true rfl)) dX2_readClassHead_191 ⟨(Nat.le_of_ble_eq_true rfl), (Nat.le_of_ble_eq_true rfl)⟩) g hK (by decide) (by decide) (fx' := [(5, 2, q1_, .int x_17), (5, 1, q1_, .ref a_21), (9, 10, a_21, .int x_25), (7, 13, q2_, .int x_25), (9, 12, a_21, .int (-1)), (9, 11, a_21, .int 0), (9, 8, a_21, .int 0), (9, 7, a_21, .int 0), (9, 2, a_21, .int 0), (9, 1, a_21, .int (-1)), (2, 4, a0_, .ref a_21), (7, 0, q2_, .ref a_20), (7, 1, q2_, .int x_17), (2, 0, a0_, .ref q0_), (2, 1, a0_, .ref q1_), (2, 3, a0_, .ref q2_)]) rfl (fun fr_35 H locs hp hMr_35 g => ?_)
            rcases hp with ⟨x_36, h_37, hF_38⟩ | ⟨x_39, h_40, hF_41⟩
            · have g := g.more hF_38
              subst hQ
              exact W.vret hx hb hr (fun t ht hW => ⟨⟨_, rfl, Or.inl ⟨x_36, h_37, x_17, b_19, a_21, ⟨ma_21, ka_21⟩, a_21, ⟨ma_21, ka_21⟩, x_17, b_19, (g.fcts [0, 1, 2, 3, 12, 14] rfl)⟩, q3_of g hK ht hW⟩, g.2.2.1.F ht⟩) g.2.2.1.2.2 dX2_readClassHead_194
            · have g := g.more hF_41
              have kb_1201 : bd 1201 1201 (1201 : Int32) := ⟨by decide, by decide⟩
              subst hQ
              exact W.vret hx hb hr (fun t ht hW => ⟨⟨_, rfl, Or.inr (⟨1201, kb_1201, x_39, h_40, a_21, ⟨ma_21, ka_21⟩, a_21, ⟨ma_21, ka_21⟩, (g.fcts [0, 1, 3, 12] rfl)⟩), q3_of g hK ht hW⟩, g.2.2.1.F ht⟩) g.2.2.1.2.2 dX2_readClassHead_194
          · have fc_34 := eq_f c_34
            have b_42 : bd 11 11 r_33 := eqX fc_34 (bdT r_33) kb_11 (by decide)
            refine lv_aload_n hx hb dX2_readClassHead_181 rfl (lv_at hl 2 rfl) ?_
            refine g_callv (va_runV (As := []) (rest := []) ⟨hx, hb, hml, hown, hts⟩ (r_X2_readClassAbove l dC dI L kd tys fr_33 H.size g.2.2.2.1 a0_ ma0_ ka0_ q0_ mq0_ kq0_ q2_ mq2_ kq2_ a_21 ma_21 ka_21 y0_ by0_ (g.fcts [15, 17, 11, 14] rfl)) (cwV 0 hts (gV_ t_1132 t_1134 t_8 t_183 t_1135) rfl rfl rfl (by decide +kernel) ⟨(Nat.le_of_ble_eq_true rfl), (Nat.le_of_ble_eq_true rfl)⟩) (pre3V g hK ma0_ ka0_ (by decide) (q := (RX2, TX2, 16)) rfl) rfl rfl hl.1 rfl (lv_room (Nat.le_of_ble_eq_true rfl)) dX2_readClassHead_182 ⟨(Nat.le_of_ble_eq_true rfl), (Nat.le_of_ble_eq_true rfl)⟩) g hK (by decide) (by decide) (fx' := [(5, 2, q1_, .int x_17), (5, 1, q1_, .ref a_21), (9, 10, a_21, .int x_25), (7, 13, q2_, .int x_25), (9, 12, a_21, .int (-1)), (9, 11, a_21, .int 0), (2, 4, a0_, .ref a_21), (7, 0, q2_, .ref a_20), (7, 1, q2_, .int x_17), (2, 0, a0_, .ref q0_), (2, 1, a0_, .ref q1_), (2, 3, a0_, .ref q2_)]) rfl (fun fr_43 H locs hp hMr_43 g => ?_)
            rcases hp with ⟨x_44, h_45, x_46, h_47, hF_48⟩ | ⟨x_49, h_50, hF_51⟩
            · have g := g.more hF_48
              refine lv_aload_n hx hb dX2_readClassHead_185 rfl (lv_at hl 2 rfl) ?_
              refine g_getk (C := RX2) (T := TX2) (N := 16) hx hb hts (mc_ inX2) hown hK g rfl 0 (by decide) rfl (hts _ (List.mem_cons_of_mem _ t_416)) (fun _ h9 => h9) 12 rfl dX2_readClassHead_186 ?_
              refine lv_bipush (v := 123) hx hb dX2_readClassHead_189 (by decide) ?_
              refine g_callv (va_runV (As := [.int 123]) (rest := []) ⟨hx, hb, hml, hown, hts⟩ (r_X8_take l dC dI L kd tys fr_43 H.size g.2.2.2.1 q0_ mq0_ kq0_ 123 y0_ by0_ (g.fcts [2] rfl)) (cwV 1 hts (gV_ t_1098 t_1099 t_1100 t_184 t_1101) rfl rfl rfl (by decide +kernel) ⟨(Nat.le_of_ble_eq_true rfl), (Nat.le_of_ble_eq_true rfl)⟩) (pre3V g hK mq0_ kq0_ (by decide) (q := (RX8, TX8, 10)) rfl) rfl rfl hl.1 rfl (lv_room (Nat.le_of_ble_eq_true rfl)) dX2_readClassHead_191 ⟨(Nat.le_of_ble_eq_true rfl), (Nat.le_of_ble_eq_true rfl)⟩) g hK (by decide) (by decide) (fx' := [(9, 1, a_21, .int x_46), (5, 2, q1_, .int x_17), (5, 1, q1_, .ref a_21), (9, 10, a_21, .int x_25), (7, 13, q2_, .int x_25), (9, 12, a_21, .int (-1)), (9, 11, a_21, .int 0), (2, 4, a0_, .ref a_21), (7, 0, q2_, .ref a_20), (7, 1, q2_, .int x_17), (2, 0, a0_, .ref q0_), (2, 1, a0_, .ref q1_), (2, 3, a0_, .ref q2_)]) rfl (fun fr_52 H locs hp hMr_52 g => ?_)
              rcases hp with ⟨x_53, h_54, hF_55⟩ | ⟨x_56, h_57, hF_58⟩
              · have g := g.more hF_55
                subst hQ
                exact W.vret hx hb hr (fun t ht hW => ⟨⟨_, rfl, Or.inl ⟨x_53, h_54, x_17, b_19, a_21, ⟨ma_21, ka_21⟩, a_21, ⟨ma_21, ka_21⟩, x_17, b_19, (g.fcts [0, 1, 3, 4, 9, 11] rfl)⟩, q3_of g hK ht hW⟩, g.2.2.1.F ht⟩) g.2.2.1.2.2 dX2_readClassHead_194
              · have g := g.more hF_58
                have kb_1201 : bd 1201 1201 (1201 : Int32) := ⟨by decide, by decide⟩
                subst hQ
                exact W.vret hx hb hr (fun t ht hW => ⟨⟨_, rfl, Or.inr (⟨1201, kb_1201, x_56, h_57, a_21, ⟨ma_21, ka_21⟩, a_21, ⟨ma_21, ka_21⟩, (g.fcts [0, 1, 4, 9] rfl)⟩), q3_of g hK ht hW⟩, g.2.2.1.F ht⟩) g.2.2.1.2.2 dX2_readClassHead_194
            · have g := g.more hF_51
              refine lv_aload_n hx hb dX2_readClassHead_185 rfl (lv_at hl 2 rfl) ?_
              refine g_getk (C := RX2) (T := TX2) (N := 16) hx hb hts (mc_ inX2) hown hK g rfl 0 (by decide) rfl (hts _ (List.mem_cons_of_mem _ t_416)) (fun _ h9 => h9) 11 rfl dX2_readClassHead_186 ?_
              refine lv_bipush (v := 123) hx hb dX2_readClassHead_189 (by decide) ?_
              have kb_1201 : bd 1201 1201 (1201 : Int32) := ⟨by decide, by decide⟩
              refine g_callv (va_runV (As := [.int 123]) (rest := []) ⟨hx, hb, hml, hown, hts⟩ (r_X8_take_2 l dC dI L kd tys fr_43 H.size g.2.2.2.1 q0_ mq0_ kq0_ 123 1201 kb_1201 x_49 h_50 (g.fcts [0, 1] rfl)) (cwV 1 hts (gV_ t_1098 t_1099 t_1100 t_184 t_1101) rfl rfl rfl (by decide +kernel) ⟨(Nat.le_of_ble_eq_true rfl), (Nat.le_of_ble_eq_true rfl)⟩) (pre3V g hK mq0_ kq0_ (by decide) (q := (RX8, TX8, 10)) rfl) rfl rfl hl.1 rfl (lv_room (Nat.le_of_ble_eq_true rfl)) dX2_readClassHead_191 ⟨(Nat.le_of_ble_eq_true rfl), (Nat.le_of_ble_eq_true rfl)⟩) g hK (by decide) (by decide) (fx' := [(8, 8, q0_, .int x_49), (5, 2, q1_, .int x_17), (5, 1, q1_, .ref a_21), (9, 10, a_21, .int x_25), (7, 13, q2_, .int x_25), (9, 12, a_21, .int (-1)), (9, 11, a_21, .int 0), (2, 4, a0_, .ref a_21), (7, 0, q2_, .ref a_20), (7, 1, q2_, .int x_17), (2, 0, a0_, .ref q0_), (2, 1, a0_, .ref q1_), (2, 3, a0_, .ref q2_)]) rfl (fun fr_59 H locs hp hMr_59 g => ?_)
              obtain ⟨x_60, h_61, hF_62⟩ := hp
              have g := g.more hF_62
              subst hQ
              exact W.vret hx hb hr (fun t ht hW => ⟨⟨_, rfl, Or.inr (⟨x_60, h_61, x_49, h_50, a_21, ⟨ma_21, ka_21⟩, a_21, ⟨ma_21, ka_21⟩, (g.fcts [0, 1, 3, 8] rfl)⟩), q3_of g hK ht hW⟩, g.2.2.1.F ht⟩) g.2.2.1.2.2 dX2_readClassHead_194
        · have fc_18 := nlt_f c_18
          have b_63 : bd 8 8 x_17 := leR fc_18 kb_8 bx_17 (by decide)
          refine lv_aload_n hx hb dX2_readClassHead_84 rfl (lv_at hl 2 rfl) ?_
          refine g_getk (C := RX2) (T := TX2) (N := 16) hx hb hts (mc_ inX2) hown hK g rfl 0 (by decide) rfl (hts _ (List.mem_cons_of_mem _ t_416)) (fun _ h9 => h9) 3 rfl dX2_readClassHead_85 ?_
          refine lv_iconst (v := 4) hx hb dX2_readClassHead_88 (by decide) ?_
          refine lv_iload_n hx hb dX2_readClassHead_89 rfl (lv_at hl 1 rfl) ?_
          have kb_4 : bd 4 4 (4 : Int32) := ⟨by decide, by decide⟩
          refine g_callv (va_runV (As := [.int 4, .int r_8]) (rest := []) ⟨hx, hb, hml, hown, hts⟩ (r_X8_fail l dC dI L kd tys fr_13 H.size g.2.2.2.1 q0_ mq0_ kq0_ 4 (bd_sub kb_4 (by decide)) r_8 y0_ by0_ (g.fcts [2] rfl)) (cwV 2 hts (gV_ t_1122 t_1107 t_1108 t_184 t_1109) rfl rfl rfl (by decide +kernel) ⟨(Nat.le_of_ble_eq_true rfl), (Nat.le_of_ble_eq_true rfl)⟩) (pre3V g hK mq0_ kq0_ (by decide) (q := (RX8, TX8, 10)) rfl) rfl rfl hl.1 rfl (lv_room (Nat.le_of_ble_eq_true rfl)) dX2_readClassHead_90 ⟨(Nat.le_of_ble_eq_true rfl), (Nat.le_of_ble_eq_true rfl)⟩) g hK (by decide) (by decide) (fx' := [(7, 1, q2_, .int x_17), (2, 0, a0_, .ref q0_), (2, 1, a0_, .ref q1_), (2, 3, a0_, .ref q2_), (2, 4, a0_, .ref q3_), (5, 1, q1_, .ref q4_)]) rfl (fun fr_64 H locs hp hMr_64 g => ?_)
          obtain ⟨x_65, h_66, hF_67⟩ := hp
          have g := g.more hF_67
          refine lv_goto (tgt := 162) hx hb dX2_readClassHead_93 (by decide) ?_
          refine lv_aload_n hx hb dX2_readClassHead_162 rfl (lv_at hl 2 rfl) ?_
          refine g_getk (C := RX2) (T := TX2) (N := 16) hx hb hts (mc_ inX2) hown hK g rfl 0 (by decide) rfl (hts _ (List.mem_cons_of_mem _ t_416)) (fun _ h9 => h9) 3 rfl dX2_readClassHead_163 ?_
          have kb_1201 : bd 1201 1201 (1201 : Int32) := ⟨by decide, by decide⟩
          refine g_callv (va_runV (As := []) (rest := []) ⟨hx, hb, hml, hown, hts⟩ (r_X8_next_2 l dC dI L kd tys fr_64 H.size g.2.2.2.1 q0_ mq0_ kq0_ 1201 kb_1201 (g.fcts [0] rfl)) (cwV 0 hts (gV_ t_1131 t_1103 t_1104 t_184 t_1105) rfl rfl rfl (by decide +kernel) ⟨(Nat.le_of_ble_eq_true rfl), (Nat.le_of_ble_eq_true rfl)⟩) (pre3V g hK mq0_ kq0_ (by decide) (q := (RX8, TX8, 10)) rfl) rfl rfl hl.1 rfl (lv_room (Nat.le_of_ble_eq_true rfl)) dX2_readClassHead_166 ⟨(Nat.le_of_ble_eq_true rfl), (Nat.le_of_ble_eq_true rfl)⟩) g hK (by decide) (by decide) (fx' := [(8, 6, q0_, .int 1201), (8, 8, q0_, .int x_65), (7, 1, q2_, .int x_17), (2, 0, a0_, .ref q0_), (2, 1, a0_, .ref q1_), (2, 3, a0_, .ref q2_), (2, 4, a0_, .ref q3_), (5, 1, q1_, .ref q4_)]) rfl (fun fr_68 H locs hp hMr_68 g => ?_)
          refine lv_aload_n hx hb dX2_readClassHead_169 rfl (lv_at hl 2 rfl) ?_
          refine g_getk (C := RX2) (T := TX2) (N := 16) hx hb hts (mc_ inX2) hown hK g rfl 0 (by decide) rfl (hts _ (List.mem_cons_of_mem _ t_416)) (fun _ h9 => h9) 3 rfl dX2_readClassHead_170 ?_
          refine g_calli (va_runV (As := []) (rest := []) ⟨hx, hb, hml, hown, hts⟩ (r_X8_kind_2 l dC dI L kd tys fr_68 H.size g.2.2.2.1 q0_ mq0_ kq0_ 1201 kb_1201 (g.fcts [0] rfl)) (cwV 0 hts (gV_ t_1118 t_1119 t_1120 t_184 t_1121) rfl rfl rfl (by decide +kernel) ⟨(Nat.le_of_ble_eq_true rfl), (Nat.le_of_ble_eq_true rfl)⟩) (pre3V g hK mq0_ kq0_ (by decide) (q := (RX8, TX8, 10)) rfl) rfl rfl hl.1 rfl (lv_room (Nat.le_of_ble_eq_true rfl)) dX2_readClassHead_173 ⟨(Nat.le_of_ble_eq_true rfl), (Nat.le_of_ble_eq_true rfl)⟩) g hK (by decide) (by decide) (fx' := [(8, 6, q0_, .int 1201), (8, 8, q0_, .int x_65), (7, 1, q2_, .int x_17), (2, 0, a0_, .ref q0_), (2, 1, a0_, .ref q1_), (2, 3, a0_, .ref q2_), (2, 4, a0_, .ref q3_), (5, 1, q1_, .ref q4_)]) rfl (fun r_69 fr_69 H locs hp hMr_69 g => ?_)
          obtain ⟨h_70, -⟩ := hp
          obtain rfl : r_69 = 0 := h_70
          refine lv_bipush (v := 11) hx hb dX2_readClassHead_176 (by decide) ?_
          refine lv_icmp_ne (tgt := 185) hx hb dX2_readClassHead_178 (by decide) (fun c_ => ?_) (fun c_ => absurd c_ (by decide))
          refine lv_aload_n hx hb dX2_readClassHead_185 rfl (lv_at hl 2 rfl) ?_
          refine g_getk (C := RX2) (T := TX2) (N := 16) hx hb hts (mc_ inX2) hown hK g rfl 0 (by decide) rfl (hts _ (List.mem_cons_of_mem _ t_416)) (fun _ h9 => h9) 3 rfl dX2_readClassHead_186 ?_
          refine lv_bipush (v := 123) hx hb dX2_readClassHead_189 (by decide) ?_
          refine g_callv (va_runV (As := [.int 123]) (rest := []) ⟨hx, hb, hml, hown, hts⟩ (r_X8_take_2 l dC dI L kd tys fr_69 H.size g.2.2.2.1 q0_ mq0_ kq0_ 123 1201 kb_1201 x_65 h_66 (g.fcts [0, 1] rfl)) (cwV 1 hts (gV_ t_1098 t_1099 t_1100 t_184 t_1101) rfl rfl rfl (by decide +kernel) ⟨(Nat.le_of_ble_eq_true rfl), (Nat.le_of_ble_eq_true rfl)⟩) (pre3V g hK mq0_ kq0_ (by decide) (q := (RX8, TX8, 10)) rfl) rfl rfl hl.1 rfl (lv_room (Nat.le_of_ble_eq_true rfl)) dX2_readClassHead_191 ⟨(Nat.le_of_ble_eq_true rfl), (Nat.le_of_ble_eq_true rfl)⟩) g hK (by decide) (by decide) (fx' := [(8, 8, q0_, .int x_65), (7, 1, q2_, .int x_17), (2, 0, a0_, .ref q0_), (2, 1, a0_, .ref q1_), (2, 3, a0_, .ref q2_), (2, 4, a0_, .ref q3_), (5, 1, q1_, .ref q4_)]) rfl (fun fr_71 H locs hp hMr_71 g => ?_)
          obtain ⟨x_72, h_73, hF_74⟩ := hp
          have g := g.more hF_74
          subst hQ
          exact W.vret hx hb hr (fun t ht hW => ⟨⟨_, rfl, Or.inr (⟨x_72, h_73, x_65, h_66, q4_, ⟨mq4_, kq4_⟩, q3_, ⟨mq3_, kq3_⟩, (g.fcts [0, 1, 7, 6] rfl)⟩), q3_of g hK ht hW⟩, g.2.2.1.F ht⟩) g.2.2.1.2.2 dX2_readClassHead_194
      · have fc_15 := neq_f c_15
        have b_75 : bd 0 7 r_13 := neX fc_15 h_14 kb_m1 (by decide)
        refine lv_aload_n hx hb dX2_readClassHead_60 rfl (lv_at hl 2 rfl) ?_
        refine g_getk (C := RX2) (T := TX2) (N := 16) hx hb hts (mc_ inX2) hown hK g rfl 0 (by decide) rfl (hts _ (List.mem_cons_of_mem _ t_416)) (fun _ h9 => h9) 2 rfl dX2_readClassHead_61 ?_
        refine lv_iconst (v := 2) hx hb dX2_readClassHead_64 (by decide) ?_
        refine lv_iload_n hx hb dX2_readClassHead_65 rfl (lv_at hl 1 rfl) ?_
        have kb_2 : bd 2 2 (2 : Int32) := ⟨by decide, by decide⟩
        refine g_callv (va_runV (As := [.int 2, .int r_8]) (rest := []) ⟨hx, hb, hml, hown, hts⟩ (r_X8_fail l dC dI L kd tys fr_13 H.size g.2.2.2.1 q0_ mq0_ kq0_ 2 (bd_sub kb_2 (by decide)) r_8 y0_ by0_ (g.fcts [1] rfl)) (cwV 2 hts (gV_ t_1122 t_1107 t_1108 t_184 t_1109) rfl rfl rfl (by decide +kernel) ⟨(Nat.le_of_ble_eq_true rfl), (Nat.le_of_ble_eq_true rfl)⟩) (pre3V g hK mq0_ kq0_ (by decide) (q := (RX8, TX8, 10)) rfl) rfl rfl hl.1 rfl (lv_room (Nat.le_of_ble_eq_true rfl)) dX2_readClassHead_66 ⟨(Nat.le_of_ble_eq_true rfl), (Nat.le_of_ble_eq_true rfl)⟩) g hK (by decide) (by decide) (fx' := [(2, 0, a0_, .ref q0_), (2, 1, a0_, .ref q1_), (2, 3, a0_, .ref q2_), (2, 4, a0_, .ref q3_), (5, 1, q1_, .ref q4_)]) rfl (fun fr_76 H locs hp hMr_76 g => ?_)
        obtain ⟨x_77, h_78, hF_79⟩ := hp
        have g := g.more hF_79
        refine lv_goto (tgt := 162) hx hb dX2_readClassHead_69 (by decide) ?_
        refine lv_aload_n hx hb dX2_readClassHead_162 rfl (lv_at hl 2 rfl) ?_
        refine g_getk (C := RX2) (T := TX2) (N := 16) hx hb hts (mc_ inX2) hown hK g rfl 0 (by decide) rfl (hts _ (List.mem_cons_of_mem _ t_416)) (fun _ h9 => h9) 2 rfl dX2_readClassHead_163 ?_
        have kb_1201 : bd 1201 1201 (1201 : Int32) := ⟨by decide, by decide⟩
        refine g_callv (va_runV (As := []) (rest := []) ⟨hx, hb, hml, hown, hts⟩ (r_X8_next_2 l dC dI L kd tys fr_76 H.size g.2.2.2.1 q0_ mq0_ kq0_ 1201 kb_1201 (g.fcts [0] rfl)) (cwV 0 hts (gV_ t_1131 t_1103 t_1104 t_184 t_1105) rfl rfl rfl (by decide +kernel) ⟨(Nat.le_of_ble_eq_true rfl), (Nat.le_of_ble_eq_true rfl)⟩) (pre3V g hK mq0_ kq0_ (by decide) (q := (RX8, TX8, 10)) rfl) rfl rfl hl.1 rfl (lv_room (Nat.le_of_ble_eq_true rfl)) dX2_readClassHead_166 ⟨(Nat.le_of_ble_eq_true rfl), (Nat.le_of_ble_eq_true rfl)⟩) g hK (by decide) (by decide) (fx' := [(8, 6, q0_, .int 1201), (8, 8, q0_, .int x_77), (2, 0, a0_, .ref q0_), (2, 1, a0_, .ref q1_), (2, 3, a0_, .ref q2_), (2, 4, a0_, .ref q3_), (5, 1, q1_, .ref q4_)]) rfl (fun fr_80 H locs hp hMr_80 g => ?_)
        refine lv_aload_n hx hb dX2_readClassHead_169 rfl (lv_at hl 2 rfl) ?_
        refine g_getk (C := RX2) (T := TX2) (N := 16) hx hb hts (mc_ inX2) hown hK g rfl 0 (by decide) rfl (hts _ (List.mem_cons_of_mem _ t_416)) (fun _ h9 => h9) 2 rfl dX2_readClassHead_170 ?_
        refine g_calli (va_runV (As := []) (rest := []) ⟨hx, hb, hml, hown, hts⟩ (r_X8_kind_2 l dC dI L kd tys fr_80 H.size g.2.2.2.1 q0_ mq0_ kq0_ 1201 kb_1201 (g.fcts [0] rfl)) (cwV 0 hts (gV_ t_1118 t_1119 t_1120 t_184 t_1121) rfl rfl rfl (by decide +kernel) ⟨(Nat.le_of_ble_eq_true rfl), (Nat.le_of_ble_eq_true rfl)⟩) (pre3V g hK mq0_ kq0_ (by decide) (q := (RX8, TX8, 10)) rfl) rfl rfl hl.1 rfl (lv_room (Nat.le_of_ble_eq_true rfl)) dX2_readClassHead_173 ⟨(Nat.le_of_ble_eq_true rfl), (Nat.le_of_ble_eq_true rfl)⟩) g hK (by decide) (by decide) (fx' := [(8, 6, q0_, .int 1201), (8, 8, q0_, .int x_77), (2, 0, a0_, .ref q0_), (2, 1, a0_, .ref q1_), (2, 3, a0_, .ref q2_), (2, 4, a0_, .ref q3_), (5, 1, q1_, .ref q4_)]) rfl (fun r_81 fr_81 H locs hp hMr_81 g => ?_)
        obtain ⟨h_82, -⟩ := hp
        obtain rfl : r_81 = 0 := h_82
        refine lv_bipush (v := 11) hx hb dX2_readClassHead_176 (by decide) ?_
        refine lv_icmp_ne (tgt := 185) hx hb dX2_readClassHead_178 (by decide) (fun c_ => ?_) (fun c_ => absurd c_ (by decide))
        refine lv_aload_n hx hb dX2_readClassHead_185 rfl (lv_at hl 2 rfl) ?_
        refine g_getk (C := RX2) (T := TX2) (N := 16) hx hb hts (mc_ inX2) hown hK g rfl 0 (by decide) rfl (hts _ (List.mem_cons_of_mem _ t_416)) (fun _ h9 => h9) 2 rfl dX2_readClassHead_186 ?_
        refine lv_bipush (v := 123) hx hb dX2_readClassHead_189 (by decide) ?_
        refine g_callv (va_runV (As := [.int 123]) (rest := []) ⟨hx, hb, hml, hown, hts⟩ (r_X8_take_2 l dC dI L kd tys fr_81 H.size g.2.2.2.1 q0_ mq0_ kq0_ 123 1201 kb_1201 x_77 h_78 (g.fcts [0, 1] rfl)) (cwV 1 hts (gV_ t_1098 t_1099 t_1100 t_184 t_1101) rfl rfl rfl (by decide +kernel) ⟨(Nat.le_of_ble_eq_true rfl), (Nat.le_of_ble_eq_true rfl)⟩) (pre3V g hK mq0_ kq0_ (by decide) (q := (RX8, TX8, 10)) rfl) rfl rfl hl.1 rfl (lv_room (Nat.le_of_ble_eq_true rfl)) dX2_readClassHead_191 ⟨(Nat.le_of_ble_eq_true rfl), (Nat.le_of_ble_eq_true rfl)⟩) g hK (by decide) (by decide) (fx' := [(8, 8, q0_, .int x_77), (2, 0, a0_, .ref q0_), (2, 1, a0_, .ref q1_), (2, 3, a0_, .ref q2_), (2, 4, a0_, .ref q3_), (5, 1, q1_, .ref q4_)]) rfl (fun fr_83 H locs hp hMr_83 g => ?_)
        obtain ⟨x_84, h_85, hF_86⟩ := hp
        have g := g.more hF_86
        subst hQ
        exact W.vret hx hb hr (fun t ht hW => ⟨⟨_, rfl, Or.inr (⟨x_84, h_85, x_77, h_78, q4_, ⟨mq4_, kq4_⟩, q3_, ⟨mq3_, kq3_⟩, (g.fcts [0, 1, 6, 5] rfl)⟩), q3_of g hK ht hW⟩, g.2.2.1.F ht⟩) g.2.2.1.2.2 dX2_readClassHead_194
    · have fc_11 := neq_f c_11
      refine lv_aload_n hx hb dX2_readClassHead_36 rfl (lv_at hl 2 rfl) ?_
      refine g_getk (C := RX2) (T := TX2) (N := 16) hx hb hts (mc_ inX2) hown hK g rfl 0 (by decide) rfl (hts _ (List.mem_cons_of_mem _ t_416)) (fun _ h9 => h9) 2 rfl dX2_readClassHead_37 ?_
      refine lv_iconst (v := 1) hx hb dX2_readClassHead_40 (by decide) ?_
      refine lv_iload_n hx hb dX2_readClassHead_41 rfl (lv_at hl 1 rfl) ?_
      have kb_1 : bd 1 1 (1 : Int32) := ⟨by decide, by decide⟩
      refine g_callv (va_runV (As := [.int 1, .int r_8]) (rest := []) ⟨hx, hb, hml, hown, hts⟩ (r_X8_fail l dC dI L kd tys fr_10 H.size g.2.2.2.1 q0_ mq0_ kq0_ 1 (bd_sub kb_1 (by decide)) r_8 y0_ by0_ (g.fcts [1] rfl)) (cwV 2 hts (gV_ t_1122 t_1107 t_1108 t_184 t_1109) rfl rfl rfl (by decide +kernel) ⟨(Nat.le_of_ble_eq_true rfl), (Nat.le_of_ble_eq_true rfl)⟩) (pre3V g hK mq0_ kq0_ (by decide) (q := (RX8, TX8, 10)) rfl) rfl rfl hl.1 rfl (lv_room (Nat.le_of_ble_eq_true rfl)) dX2_readClassHead_42 ⟨(Nat.le_of_ble_eq_true rfl), (Nat.le_of_ble_eq_true rfl)⟩) g hK (by decide) (by decide) (fx' := [(2, 0, a0_, .ref q0_), (2, 1, a0_, .ref q1_), (2, 3, a0_, .ref q2_), (2, 4, a0_, .ref q3_), (5, 1, q1_, .ref q4_)]) rfl (fun fr_87 H locs hp hMr_87 g => ?_)
      obtain ⟨x_88, h_89, hF_90⟩ := hp
      have g := g.more hF_90
      refine lv_goto (tgt := 162) hx hb dX2_readClassHead_45 (by decide) ?_
      refine lv_aload_n hx hb dX2_readClassHead_162 rfl (lv_at hl 2 rfl) ?_
      refine g_getk (C := RX2) (T := TX2) (N := 16) hx hb hts (mc_ inX2) hown hK g rfl 0 (by decide) rfl (hts _ (List.mem_cons_of_mem _ t_416)) (fun _ h9 => h9) 2 rfl dX2_readClassHead_163 ?_
      have kb_1201 : bd 1201 1201 (1201 : Int32) := ⟨by decide, by decide⟩
      refine g_callv (va_runV (As := []) (rest := []) ⟨hx, hb, hml, hown, hts⟩ (r_X8_next_2 l dC dI L kd tys fr_87 H.size g.2.2.2.1 q0_ mq0_ kq0_ 1201 kb_1201 (g.fcts [0] rfl)) (cwV 0 hts (gV_ t_1131 t_1103 t_1104 t_184 t_1105) rfl rfl rfl (by decide +kernel) ⟨(Nat.le_of_ble_eq_true rfl), (Nat.le_of_ble_eq_true rfl)⟩) (pre3V g hK mq0_ kq0_ (by decide) (q := (RX8, TX8, 10)) rfl) rfl rfl hl.1 rfl (lv_room (Nat.le_of_ble_eq_true rfl)) dX2_readClassHead_166 ⟨(Nat.le_of_ble_eq_true rfl), (Nat.le_of_ble_eq_true rfl)⟩) g hK (by decide) (by decide) (fx' := [(8, 6, q0_, .int 1201), (8, 8, q0_, .int x_88), (2, 0, a0_, .ref q0_), (2, 1, a0_, .ref q1_), (2, 3, a0_, .ref q2_), (2, 4, a0_, .ref q3_), (5, 1, q1_, .ref q4_)]) rfl (fun fr_91 H locs hp hMr_91 g => ?_)
      refine lv_aload_n hx hb dX2_readClassHead_169 rfl (lv_at hl 2 rfl) ?_
      refine g_getk (C := RX2) (T := TX2) (N := 16) hx hb hts (mc_ inX2) hown hK g rfl 0 (by decide) rfl (hts _ (List.mem_cons_of_mem _ t_416)) (fun _ h9 => h9) 2 rfl dX2_readClassHead_170 ?_
      refine g_calli (va_runV (As := []) (rest := []) ⟨hx, hb, hml, hown, hts⟩ (r_X8_kind_2 l dC dI L kd tys fr_91 H.size g.2.2.2.1 q0_ mq0_ kq0_ 1201 kb_1201 (g.fcts [0] rfl)) (cwV 0 hts (gV_ t_1118 t_1119 t_1120 t_184 t_1121) rfl rfl rfl (by decide +kernel) ⟨(Nat.le_of_ble_eq_true rfl), (Nat.le_of_ble_eq_true rfl)⟩) (pre3V g hK mq0_ kq0_ (by decide) (q := (RX8, TX8, 10)) rfl) rfl rfl hl.1 rfl (lv_room (Nat.le_of_ble_eq_true rfl)) dX2_readClassHead_173 ⟨(Nat.le_of_ble_eq_true rfl), (Nat.le_of_ble_eq_true rfl)⟩) g hK (by decide) (by decide) (fx' := [(8, 6, q0_, .int 1201), (8, 8, q0_, .int x_88), (2, 0, a0_, .ref q0_), (2, 1, a0_, .ref q1_), (2, 3, a0_, .ref q2_), (2, 4, a0_, .ref q3_), (5, 1, q1_, .ref q4_)]) rfl (fun r_92 fr_92 H locs hp hMr_92 g => ?_)
      obtain ⟨h_93, -⟩ := hp
      obtain rfl : r_92 = 0 := h_93
      refine lv_bipush (v := 11) hx hb dX2_readClassHead_176 (by decide) ?_
      refine lv_icmp_ne (tgt := 185) hx hb dX2_readClassHead_178 (by decide) (fun c_ => ?_) (fun c_ => absurd c_ (by decide))
      refine lv_aload_n hx hb dX2_readClassHead_185 rfl (lv_at hl 2 rfl) ?_
      refine g_getk (C := RX2) (T := TX2) (N := 16) hx hb hts (mc_ inX2) hown hK g rfl 0 (by decide) rfl (hts _ (List.mem_cons_of_mem _ t_416)) (fun _ h9 => h9) 2 rfl dX2_readClassHead_186 ?_
      refine lv_bipush (v := 123) hx hb dX2_readClassHead_189 (by decide) ?_
      refine g_callv (va_runV (As := [.int 123]) (rest := []) ⟨hx, hb, hml, hown, hts⟩ (r_X8_take_2 l dC dI L kd tys fr_92 H.size g.2.2.2.1 q0_ mq0_ kq0_ 123 1201 kb_1201 x_88 h_89 (g.fcts [0, 1] rfl)) (cwV 1 hts (gV_ t_1098 t_1099 t_1100 t_184 t_1101) rfl rfl rfl (by decide +kernel) ⟨(Nat.le_of_ble_eq_true rfl), (Nat.le_of_ble_eq_true rfl)⟩) (pre3V g hK mq0_ kq0_ (by decide) (q := (RX8, TX8, 10)) rfl) rfl rfl hl.1 rfl (lv_room (Nat.le_of_ble_eq_true rfl)) dX2_readClassHead_191 ⟨(Nat.le_of_ble_eq_true rfl), (Nat.le_of_ble_eq_true rfl)⟩) g hK (by decide) (by decide) (fx' := [(8, 8, q0_, .int x_88), (2, 0, a0_, .ref q0_), (2, 1, a0_, .ref q1_), (2, 3, a0_, .ref q2_), (2, 4, a0_, .ref q3_), (5, 1, q1_, .ref q4_)]) rfl (fun fr_94 H locs hp hMr_94 g => ?_)
      obtain ⟨x_95, h_96, hF_97⟩ := hp
      have g := g.more hF_97
      subst hQ
      exact W.vret hx hb hr (fun t ht hW => ⟨⟨_, rfl, Or.inr (⟨x_95, h_96, x_88, h_89, q4_, ⟨mq4_, kq4_⟩, q3_, ⟨mq3_, kq3_⟩, (g.fcts [0, 1, 6, 5] rfl)⟩), q3_of g hK ht hW⟩, g.2.2.1.F ht⟩) g.2.2.1.2.2 dX2_readClassHead_194
  · have g := g.more hF_7
    refine lv_aload_n hx hb dX2_readClassHead_9 rfl (lv_at hl 0 rfl) ?_
    refine g_getk (C := RX2) (T := TX2) (N := 16) hx hb hts (mc_ inX2) hown hK g rfl 0 (by decide) rfl (hts _ (List.mem_cons_of_mem _ t_416)) (fun _ h9 => h9) 2 rfl dX2_readClassHead_10 ?_
    refine g_calli (va_runV (As := []) (rest := []) ⟨hx, hb, hml, hown, hts⟩ (r_X8_place l dC dI L kd tys fr_1 H.size g.2.2.2.1 q0_ mq0_ kq0_) (cwV 0 hts (gV_ t_1110 t_1111 t_1112 t_184 t_1113) rfl rfl rfl (by decide +kernel) ⟨(Nat.le_of_ble_eq_true rfl), (Nat.le_of_ble_eq_true rfl)⟩) (pre3V g hK mq0_ kq0_ (by decide) (q := (RX8, TX8, 10)) rfl) rfl rfl hl.1 rfl (lv_room (Nat.le_of_ble_eq_true rfl)) dX2_readClassHead_13 ⟨(Nat.le_of_ble_eq_true rfl), (Nat.le_of_ble_eq_true rfl)⟩) g hK (by decide) (by decide) (fx' := [(8, 6, q0_, .int 1201), (8, 8, q0_, .int x_5), (2, 0, a0_, .ref q0_), (2, 1, a0_, .ref q1_), (2, 3, a0_, .ref q2_), (2, 4, a0_, .ref q3_), (5, 1, q1_, .ref q4_)]) rfl (fun r_98 fr_98 H locs hp hMr_98 g => ?_)
    refine lv_istore_n (lv' := [(1, .int r_98), (0, .ref a0_)]) hx hb dX2_readClassHead_16 rfl hl (by decide) rfl (fun ls hl => ?_)
    refine lv_aload_n hx hb dX2_readClassHead_17 rfl (lv_at hl 1 rfl) ?_
    refine g_getk (C := RX2) (T := TX2) (N := 16) hx hb hts (mc_ inX2) hown hK g rfl 0 (by decide) rfl (hts _ (List.mem_cons_of_mem _ t_416)) (fun _ h9 => h9) 2 rfl dX2_readClassHead_18 ?_
    refine g_calll (va_runV (As := []) (rest := []) ⟨hx, hb, hml, hown, hts⟩ (r_X8_value l dC dI L kd tys fr_98 H.size g.2.2.2.1 q0_ mq0_ kq0_) (cwV 0 hts (gV_ t_1114 t_1115 t_1116 t_184 t_1117) rfl rfl rfl (by decide +kernel) ⟨(Nat.le_of_ble_eq_true rfl), (Nat.le_of_ble_eq_true rfl)⟩) (pre3V g hK mq0_ kq0_ (by decide) (q := (RX8, TX8, 10)) rfl) rfl rfl hl.1 rfl (lv_room (Nat.le_of_ble_eq_true rfl)) dX2_readClassHead_21 ⟨(Nat.le_of_ble_eq_true rfl), (Nat.le_of_ble_eq_true rfl)⟩) g hK (by decide) (by decide) (fx' := [(8, 6, q0_, .int 1201), (8, 8, q0_, .int x_5), (2, 0, a0_, .ref q0_), (2, 1, a0_, .ref q1_), (2, 3, a0_, .ref q2_), (2, 4, a0_, .ref q3_), (5, 1, q1_, .ref q4_)]) rfl (fun r_99 fr_99 H locs hp hMr_99 g => ?_)
    refine lv_lstore_n (lv' := [(2, .long r_99), (1, .int r_98), (0, .ref a0_)]) hx hb dX2_readClassHead_24 rfl hl (by decide) rfl (fun ls hl => ?_)
    refine lv_aload_n hx hb dX2_readClassHead_25 rfl (lv_at hl 2 rfl) ?_
    refine g_getk (C := RX2) (T := TX2) (N := 16) hx hb hts (mc_ inX2) hown hK g rfl 0 (by decide) rfl (hts _ (List.mem_cons_of_mem _ t_416)) (fun _ h9 => h9) 2 rfl dX2_readClassHead_26 ?_
    have kb_1201 : bd 1201 1201 (1201 : Int32) := ⟨by decide, by decide⟩
    refine g_calli (va_runV (As := []) (rest := []) ⟨hx, hb, hml, hown, hts⟩ (r_X8_kind_2 l dC dI L kd tys fr_99 H.size g.2.2.2.1 q0_ mq0_ kq0_ 1201 kb_1201 (g.fcts [0] rfl)) (cwV 0 hts (gV_ t_1118 t_1119 t_1120 t_184 t_1121) rfl rfl rfl (by decide +kernel) ⟨(Nat.le_of_ble_eq_true rfl), (Nat.le_of_ble_eq_true rfl)⟩) (pre3V g hK mq0_ kq0_ (by decide) (q := (RX8, TX8, 10)) rfl) rfl rfl hl.1 rfl (lv_room (Nat.le_of_ble_eq_true rfl)) dX2_readClassHead_29 ⟨(Nat.le_of_ble_eq_true rfl), (Nat.le_of_ble_eq_true rfl)⟩) g hK (by decide) (by decide) (fx' := [(8, 6, q0_, .int 1201), (8, 8, q0_, .int x_5), (2, 0, a0_, .ref q0_), (2, 1, a0_, .ref q1_), (2, 3, a0_, .ref q2_), (2, 4, a0_, .ref q3_), (5, 1, q1_, .ref q4_)]) rfl (fun r_100 fr_100 H locs hp hMr_100 g => ?_)
    obtain ⟨h_101, -⟩ := hp
    obtain rfl : r_100 = 0 := h_101
    refine lv_iconst (v := 3) hx hb dX2_readClassHead_32 (by decide) ?_
    refine lv_icmp_eq (tgt := 48) hx hb dX2_readClassHead_33 (by decide) (fun c_ => absurd c_ (by decide)) (fun c_ => ?_)
    refine lv_aload_n hx hb dX2_readClassHead_36 rfl (lv_at hl 2 rfl) ?_
    refine g_getk (C := RX2) (T := TX2) (N := 16) hx hb hts (mc_ inX2) hown hK g rfl 0 (by decide) rfl (hts _ (List.mem_cons_of_mem _ t_416)) (fun _ h9 => h9) 2 rfl dX2_readClassHead_37 ?_
    refine lv_iconst (v := 1) hx hb dX2_readClassHead_40 (by decide) ?_
    refine lv_iload_n hx hb dX2_readClassHead_41 rfl (lv_at hl 1 rfl) ?_
    have kb_1 : bd 1 1 (1 : Int32) := ⟨by decide, by decide⟩
    refine g_callv (va_runV (As := [.int 1, .int r_98]) (rest := []) ⟨hx, hb, hml, hown, hts⟩ (r_X8_fail_2 l dC dI L kd tys fr_100 H.size g.2.2.2.1 q0_ mq0_ kq0_ 1 (bd_sub kb_1 (by decide)) r_98 x_5 h_6 (g.fcts [1] rfl)) (cwV 2 hts (gV_ t_1122 t_1107 t_1108 t_184 t_1109) rfl rfl rfl (by decide +kernel) ⟨(Nat.le_of_ble_eq_true rfl), (Nat.le_of_ble_eq_true rfl)⟩) (pre3V g hK mq0_ kq0_ (by decide) (q := (RX8, TX8, 10)) rfl) rfl rfl hl.1 rfl (lv_room (Nat.le_of_ble_eq_true rfl)) dX2_readClassHead_42 ⟨(Nat.le_of_ble_eq_true rfl), (Nat.le_of_ble_eq_true rfl)⟩) g hK (by decide) (by decide) (fx' := [(8, 8, q0_, .int x_5), (2, 0, a0_, .ref q0_), (2, 1, a0_, .ref q1_), (2, 3, a0_, .ref q2_), (2, 4, a0_, .ref q3_), (5, 1, q1_, .ref q4_)]) rfl (fun fr_102 H locs hp hMr_102 g => ?_)
    have hF_103 := hp
    have g := g.more hF_103
    refine lv_goto (tgt := 162) hx hb dX2_readClassHead_45 (by decide) ?_
    refine lv_aload_n hx hb dX2_readClassHead_162 rfl (lv_at hl 2 rfl) ?_
    refine g_getk (C := RX2) (T := TX2) (N := 16) hx hb hts (mc_ inX2) hown hK g rfl 0 (by decide) rfl (hts _ (List.mem_cons_of_mem _ t_416)) (fun _ h9 => h9) 2 rfl dX2_readClassHead_163 ?_
    refine g_callv (va_runV (As := []) (rest := []) ⟨hx, hb, hml, hown, hts⟩ (r_X8_next_2 l dC dI L kd tys fr_102 H.size g.2.2.2.1 q0_ mq0_ kq0_ 1201 kb_1201 (g.fcts [0] rfl)) (cwV 0 hts (gV_ t_1131 t_1103 t_1104 t_184 t_1105) rfl rfl rfl (by decide +kernel) ⟨(Nat.le_of_ble_eq_true rfl), (Nat.le_of_ble_eq_true rfl)⟩) (pre3V g hK mq0_ kq0_ (by decide) (q := (RX8, TX8, 10)) rfl) rfl rfl hl.1 rfl (lv_room (Nat.le_of_ble_eq_true rfl)) dX2_readClassHead_166 ⟨(Nat.le_of_ble_eq_true rfl), (Nat.le_of_ble_eq_true rfl)⟩) g hK (by decide) (by decide) (fx' := [(8, 6, q0_, .int 1201), (8, 8, q0_, .int x_5), (2, 0, a0_, .ref q0_), (2, 1, a0_, .ref q1_), (2, 3, a0_, .ref q2_), (2, 4, a0_, .ref q3_), (5, 1, q1_, .ref q4_)]) rfl (fun fr_104 H locs hp hMr_104 g => ?_)
    refine lv_aload_n hx hb dX2_readClassHead_169 rfl (lv_at hl 2 rfl) ?_
    refine g_getk (C := RX2) (T := TX2) (N := 16) hx hb hts (mc_ inX2) hown hK g rfl 0 (by decide) rfl (hts _ (List.mem_cons_of_mem _ t_416)) (fun _ h9 => h9) 2 rfl dX2_readClassHead_170 ?_
    refine g_calli (va_runV (As := []) (rest := []) ⟨hx, hb, hml, hown, hts⟩ (r_X8_kind_2 l dC dI L kd tys fr_104 H.size g.2.2.2.1 q0_ mq0_ kq0_ 1201 kb_1201 (g.fcts [0] rfl)) (cwV 0 hts (gV_ t_1118 t_1119 t_1120 t_184 t_1121) rfl rfl rfl (by decide +kernel) ⟨(Nat.le_of_ble_eq_true rfl), (Nat.le_of_ble_eq_true rfl)⟩) (pre3V g hK mq0_ kq0_ (by decide) (q := (RX8, TX8, 10)) rfl) rfl rfl hl.1 rfl (lv_room (Nat.le_of_ble_eq_true rfl)) dX2_readClassHead_173 ⟨(Nat.le_of_ble_eq_true rfl), (Nat.le_of_ble_eq_true rfl)⟩) g hK (by decide) (by decide) (fx' := [(8, 6, q0_, .int 1201), (8, 8, q0_, .int x_5), (2, 0, a0_, .ref q0_), (2, 1, a0_, .ref q1_), (2, 3, a0_, .ref q2_), (2, 4, a0_, .ref q3_), (5, 1, q1_, .ref q4_)]) rfl (fun r_105 fr_105 H locs hp hMr_105 g => ?_)
    obtain ⟨h_106, -⟩ := hp
    obtain rfl : r_105 = 0 := h_106
    refine lv_bipush (v := 11) hx hb dX2_readClassHead_176 (by decide) ?_
    refine lv_icmp_ne (tgt := 185) hx hb dX2_readClassHead_178 (by decide) (fun c_ => ?_) (fun c_ => absurd c_ (by decide))
    refine lv_aload_n hx hb dX2_readClassHead_185 rfl (lv_at hl 2 rfl) ?_
    refine g_getk (C := RX2) (T := TX2) (N := 16) hx hb hts (mc_ inX2) hown hK g rfl 0 (by decide) rfl (hts _ (List.mem_cons_of_mem _ t_416)) (fun _ h9 => h9) 2 rfl dX2_readClassHead_186 ?_
    refine lv_bipush (v := 123) hx hb dX2_readClassHead_189 (by decide) ?_
    refine g_callv (va_runV (As := [.int 123]) (rest := []) ⟨hx, hb, hml, hown, hts⟩ (r_X8_take_2 l dC dI L kd tys fr_105 H.size g.2.2.2.1 q0_ mq0_ kq0_ 123 1201 kb_1201 x_5 h_6 (g.fcts [0, 1] rfl)) (cwV 1 hts (gV_ t_1098 t_1099 t_1100 t_184 t_1101) rfl rfl rfl (by decide +kernel) ⟨(Nat.le_of_ble_eq_true rfl), (Nat.le_of_ble_eq_true rfl)⟩) (pre3V g hK mq0_ kq0_ (by decide) (q := (RX8, TX8, 10)) rfl) rfl rfl hl.1 rfl (lv_room (Nat.le_of_ble_eq_true rfl)) dX2_readClassHead_191 ⟨(Nat.le_of_ble_eq_true rfl), (Nat.le_of_ble_eq_true rfl)⟩) g hK (by decide) (by decide) (fx' := [(8, 8, q0_, .int x_5), (2, 0, a0_, .ref q0_), (2, 1, a0_, .ref q1_), (2, 3, a0_, .ref q2_), (2, 4, a0_, .ref q3_), (5, 1, q1_, .ref q4_)]) rfl (fun fr_107 H locs hp hMr_107 g => ?_)
    obtain ⟨x_108, h_109, hF_110⟩ := hp
    have g := g.more hF_110
    subst hQ
    exact W.vret hx hb hr (fun t ht hW => ⟨⟨_, rfl, Or.inr (⟨x_108, h_109, x_5, h_6, q4_, ⟨mq4_, kq4_⟩, q3_, ⟨mq3_, kq3_⟩, (g.fcts [0, 1, 6, 5] rfl)⟩), q3_of g hK ht hW⟩, g.2.2.1.F ht⟩) g.2.2.1.2.2 dX2_readClassHead_194
set_option maxHeartbeats 4000000 in
set_option maxRecDepth 100000 in
theorem r_X9_fieldNamed (l : Launch) (dC : Nat → ClassId) (dI : Nat → Nat → Nat) (L : List Nat) (kd : Nat → Nat) (tys : List (ClassId × FieldType)) (f0 : Nat → va_E) (sz : Nat) (hWT : WT L kd tys f0) (a0_ : Nat) (ma0_ : a0_ ∈ L) (ka0_ : kd a0_ = 9) (x1_ : Int64) : Met l yX9_fieldNamed (.code yX9_fieldNamed cX9_fieldNamed 4 (some .int) :: lw_g) ({ frames := 0, cells := 0, slots := 0, locals := 0 }) (va_Pc [.ref a0_, .long x1_] (P3 (dC, dI) L tys f0 sz)) (va_Qi (fun (r : Int32) (f : Nat → va_E) => (bd (-1) 9 r ∧ True)) (Q3 (dC, dI) L kd tys [] [] f0 sz) (pA L sz)) 0 0 (pA L sz) := by
  refine Met.ofW (cc := cX9_fieldNamed) (maxL := 4) (ret := (some .int)) (by decide) rfl ?_
  intro p e s m args below meth c s₁ B hml hv
  obtain ⟨rfl, hsz, hP, hK, hD0⟩ := hv
  have hx := B.exec
  have hb := B.bytes
  have hr := B.returns
  have hts := atoms_spec (ws := (.code yX9_fieldNamed cX9_fieldNamed 4 (some .int) :: lw_g)) B.pre
  have hown : s.vm.findClass RX9 = some m.cls := findClass_of_methodNamed B.named
  have hlocks := B.notSynchronized
  subst hsz
  have g : G3 (dC, dI) L kd tys s f0 [] [] f0 s.heap [] [] := G3.start hP hD0 hWT Fs.nil
  have hl := lv_entry ([.ref a0_, .long x1_]) (n := 4) (Nat.le_of_ble_eq_true rfl)
  rw [lg_entry_eq]
  generalize (lg_sl ([.ref a0_, .long x1_]) ++ List.replicate (4 - (lg_sl ([.ref a0_, .long x1_])).length) Slot.unset).toArray = ls at hl ⊢
  have hl : lv_has ls 4 [(0, .ref a0_), (1, .long x1_)] := hl
  refine W_q (fun Q hQ => ?_)
  refine lv_iconst (v := 0) hx hb dX9_fieldNamed_0 (by decide) ?_
  refine lv_istore_n (lv' := [(3, .int 0), (0, .ref a0_), (1, .long x1_)]) hx hb dX9_fieldNamed_1 rfl hl (by decide) rfl (fun ls hl => ?_)
  have loop_1 : ∀ (n : Nat) (v2_3 : Int32), bd 0 10 v2_3 → (10 - v2_3.toInt < (n : Int)) → ∀ (f : Nat → va_E) (H : Heap) (locs : List Loc) (ls : Array Slot), G3 (dC, dI) L kd tys s f0 [] [] f H locs [] → lv_has ls 4 [(3, .int v2_3), (0, .ref a0_), (1, .long x1_)] → W p l e ({ frames := 0, cells := 0, slots := 0, locals := 0 } : Room) s m [.ref a0_, .long x1_].toArray below meth c H locs 0 0 Q (F0 m 2 ls []) := by
    intro n2
    induction n2 with
    | zero =>
      intro v2_3 bv2_3 hm2 f H locs ls g  hl
      exact absurd hm2 (by have h9_v2_3 := bv2_3; unfold bd at h9_v2_3; omega)
    | succ n2 ih2 =>
      intro v2_3 bv2_3 hm2 f H locs ls g  hl
      refine lv_iload_n hx hb dX9_fieldNamed_2 rfl (lv_at hl 0 rfl) ?_
      refine lv_aload_n hx hb dX9_fieldNamed_3 rfl (lv_at hl 1 rfl) ?_
      refine g_geti (C := RX9) (T := TX9) (N := 13) hx hb hts (mc_ inX9) hown hK g ma0_ ka0_ (by decide) rfl 2 (by decide) rfl (hts _ (List.mem_cons_of_mem _ t_485)) (fun _ h9 => h9) rfl dX9_fieldNamed_4 (fun x_2 bx_2 g => ?_)
      refine lv_icmp_ge (tgt := 29) hx hb dX9_fieldNamed_7 (by decide) (fun c_3 => ?_) (fun c_3 => ?_)
      · have fc_3 := le_f c_3
        refine lv_iconst (v := (-1)) hx hb dX9_fieldNamed_29 (by decide) ?_
        have kb_m1 : bd (-1) (-1) ((-1) : Int32) := ⟨by decide, by decide⟩
        subst hQ
        exact W.iret (v := (-1)) hx hb hr (fun t ht hW => ⟨⟨_, _, rfl, ⟨(bd_sub kb_m1 (by decide)), trivial⟩, q3_of g hK ht hW⟩, g.2.2.1.F ht⟩) g.2.2.1.2.2 dX9_fieldNamed_30
      · have fc_3 := nle_f c_3
        have b_4 : bd 0 9 v2_3 := ltL fc_3 bv2_3 bx_2 (by decide)
        have b_5 : bd 1 10 x_2 := ltR fc_3 bv2_3 bx_2 (by decide)
        refine lv_aload_n hx hb dX9_fieldNamed_10 rfl (lv_at hl 1 rfl) ?_
        refine g_getr (K := 152) (C := RX9) (T := TX9) (N := 13) hx hb hts (mc_ inX9) hown hK g ma0_ ka0_ (by decide) rfl 3 (by decide) rfl (hts _ (List.mem_cons_of_mem _ t_488)) (fun _ h9 => h9) rfl dX9_fieldNamed_11 (fun a_6 ma_6 ka_6 g => ?_)
        refine lv_iload_n hx hb dX9_fieldNamed_14 rfl (lv_at hl 0 rfl) ?_
        refine g_lald hx hb hK g ma_6 ka_6 (by decide) rfl (in_bd b_4 (by decide)) dX9_fieldNamed_15 (fun x_7 => ?_)
        refine lv_lload_n hx hb dX9_fieldNamed_16 rfl (lv_at hl 2 rfl) ?_
        refine W.lcmp hx hb dX9_fieldNamed_17 ?_
        refine lv_if_ne (tgt := 23) hx hb dX9_fieldNamed_18 (by decide) (fun c_8 => ?_) (fun c_8 => ?_)
        · have kb_1 : bd 1 1 (1 : Int32) := ⟨by decide, by decide⟩
          obtain ⟨y_9, ey_9⟩ : ∃ z : Int32, z = v2_3 + 1 := ⟨_, rfl⟩
          refine lv_iinc (v := y_9) (lv' := [(3, .int y_9), (0, .ref a0_), (1, .long x1_)]) hx hb dX9_fieldNamed_23 hl (k := 0) rfl (by rw [ey_9]; rfl) (by decide) rfl (fun ls hl => ?_)
          have ty_9 := add_bd ey_9 b_4 kb_1 (by decide)
          have b_10 : bd 1 10 y_9 := add_rg ty_9 b_4 kb_1 (by decide)
          refine lv_goto (tgt := 2) hx hb dX9_fieldNamed_26 (by decide) ?_
          have hl9 := lv_sub hl [0, 1, 2] (by rfl : lv_pick [(3, .int y_9), (0, .ref a0_), (1, .long x1_)] [0, 1, 2] = [(3, .int y_9), (0, .ref a0_), (1, .long x1_)])
          have g9 := g.sub (fx' := []) [] rfl
          exact ih2  y_9 (bd_sub b_10 (by decide)) (by have h9_0 := b_10; unfold bd at h9_0; have h9_1 := bv2_3; unfold bd at h9_1; have h9_2 := kb_1; unfold bd at h9_2; omega) _ _ _ _ g9  hl9
        · refine lv_iload_n hx hb dX9_fieldNamed_21 rfl (lv_at hl 0 rfl) ?_
          subst hQ
          exact W.iret (v := v2_3) hx hb hr (fun t ht hW => ⟨⟨_, _, rfl, ⟨(bd_sub b_4 (by decide)), trivial⟩, q3_of g hK ht hW⟩, g.2.2.1.F ht⟩) g.2.2.1.2.2 dX9_fieldNamed_22
  have kb_0 : bd 0 0 (0 : Int32) := ⟨by decide, by decide⟩
  have hl9 := lv_sub hl [0, 1, 2] (by rfl : lv_pick [(3, .int 0), (0, .ref a0_), (1, .long x1_)] [0, 1, 2] = [(3, .int 0), (0, .ref a0_), (1, .long x1_)])
  have g9 := g.sub (fx' := []) [] rfl
  exact loop_1 (23) 0 (bd_sub kb_0 (by decide)) (by have h9_0 := kb_0; unfold bd at h9_0; omega) _ _ _ _ g9  hl9
set_option maxHeartbeats 4000000 in
set_option maxRecDepth 100000 in
theorem r_X9_addField (l : Launch) (dC : Nat → ClassId) (dI : Nat → Nat → Nat) (L : List Nat) (kd : Nat → Nat) (tys : List (ClassId × FieldType)) (f0 : Nat → va_E) (sz : Nat) (hWT : WT L kd tys f0) (a0_ : Nat) (ma0_ : a0_ ∈ L) (ka0_ : kd a0_ = 9) (x1_ : Int64) (x2_ : Int32) (bx2_ : bd 0 0 x2_) (x3_ : Int32) (bx3_ : bd 0 0 x3_) (y0_ : Int32) (by0_ : bd 0 23 y0_) (y1_ : Int32) (by1_ : bd 0 9 y1_) (hfx : Fs L kd f0 [(9, 7, a0_, .int y0_), (9, 2, a0_, .int y1_)]) : Met l yX9_addField (.code yX9_addField cX9_addField 5 none :: lw_g) ({ frames := 1, cells := 0, slots := 0, locals := 15 }) (va_Pc [.ref a0_, .long x1_, .int x2_, .int x3_] (P3 (dC, dI) L tys f0 sz)) (va_Qv (fun (f : Nat → va_E) => (∃ z0_ : Int32, bd 1 10 z0_ ∧ ∃ z1_ : Int32, bd 1 24 z1_ ∧ Fs L kd f [(9, 2, a0_, .int z0_), (9, 7, a0_, .int z1_)])) (Q3 (dC, dI) L kd tys [(9, 2), (9, 7)] [152, 153, 154, 155] f0 sz) (pA L sz)) 0 0 (pA L sz) := by
  refine Met.ofW (cc := cX9_addField) (maxL := 5) (ret := none) (by decide) rfl ?_
  intro p e s m args below meth c s₁ B hml hv
  obtain ⟨rfl, hsz, hP, hK, hD0⟩ := hv
  have hx := B.exec
  have hb := B.bytes
  have hr := B.returns
  have hts := atoms_spec (ws := (.code yX9_addField cX9_addField 5 none :: lw_g)) B.pre
  have hown : s.vm.findClass RX9 = some m.cls := findClass_of_methodNamed B.named
  have hlocks := B.notSynchronized
  subst hsz
  have g : G3 (dC, dI) L kd tys s f0 [(9, 2), (9, 7)] [152, 153, 154, 155] f0 s.heap [] [(9, 7, a0_, .int y0_), (9, 2, a0_, .int y1_)] := G3.start hP hD0 hWT hfx
  have hl := lv_entry ([.ref a0_, .long x1_, .int x2_, .int x3_]) (n := 5) (Nat.le_of_ble_eq_true rfl)
  rw [lg_entry_eq]
  generalize (lg_sl ([.ref a0_, .long x1_, .int x2_, .int x3_]) ++ List.replicate (5 - (lg_sl ([.ref a0_, .long x1_, .int x2_, .int x3_])).length) Slot.unset).toArray = ls at hl ⊢
  have hl : lv_has ls 5 [(0, .ref a0_), (1, .long x1_), (3, .int x2_), (4, .int x3_)] := hl
  refine W_q (fun Q hQ => ?_)
  refine lv_aload_n hx hb dX9_addField_0 rfl (lv_at hl 0 rfl) ?_
  refine g_getk (C := RX9) (T := TX9) (N := 13) hx hb hts (mc_ inX9) hown hK g rfl 2 (by decide) rfl (hts _ (List.mem_cons_of_mem _ t_485)) (fun _ h9 => h9) 1 rfl dX9_addField_1 ?_
  refine lv_bipush (v := 10) hx hb dX9_addField_4 (by decide) ?_
  have kb_10 : bd 10 10 (10 : Int32) := ⟨by decide, by decide⟩
  refine lv_icmp_ge (tgt := 77) hx hb dX9_addField_6 (by decide) (fun c_1 => ?_) (fun c_1 => ?_)
  · have fc_1 := le_f c_1
    have b_2 : bd 10 9 (10 : Int32) := leL fc_1 kb_10 by1_ (by decide)
    exact bd_no (eqX rfl b_2 kb_10 (lo := 10) (hi := 9) (by decide)) (by decide)
  · have fc_1 := nle_f c_1
    refine lv_aload_n hx hb dX9_addField_9 rfl (lv_at hl 0 rfl) ?_
    refine g_getr (K := 152) (C := RX9) (T := TX9) (N := 13) hx hb hts (mc_ inX9) hown hK g ma0_ ka0_ (by decide) rfl 3 (by decide) rfl (hts _ (List.mem_cons_of_mem _ t_488)) (fun _ h9 => h9) rfl dX9_addField_10 (fun a_3 ma_3 ka_3 g => ?_)
    refine lv_aload_n hx hb dX9_addField_13 rfl (lv_at hl 0 rfl) ?_
    refine g_getk (C := RX9) (T := TX9) (N := 13) hx hb hts (mc_ inX9) hown hK g rfl 2 (by decide) rfl (hts _ (List.mem_cons_of_mem _ t_485)) (fun _ h9 => h9) 2 rfl dX9_addField_14 ?_
    refine lv_lload_n hx hb dX9_addField_17 rfl (lv_at hl 1 rfl) ?_
    refine g_last hx hb hK g ma_3 ka_3 (by decide) rfl (in_bd by1_ (by decide)) (by decide) dX9_addField_18 (fun f H locs hM_4 g => ?_)
    refine lv_aload_n hx hb dX9_addField_19 rfl (lv_at hl 0 rfl) ?_
    refine g_getr (K := 153) (C := RX9) (T := TX9) (N := 13) hx hb hts (mc_ inX9) hown hK g ma0_ ka0_ (by decide) rfl 4 (by decide) rfl (hts _ (List.mem_cons_of_mem _ t_489)) (fun _ h9 => h9) rfl dX9_addField_20 (fun a_5 ma_5 ka_5 g => ?_)
    refine lv_aload_n hx hb dX9_addField_23 rfl (lv_at hl 0 rfl) ?_
    refine g_getk (C := RX9) (T := TX9) (N := 13) hx hb hts (mc_ inX9) hown hK g rfl 2 (by decide) rfl (hts _ (List.mem_cons_of_mem _ t_485)) (fun _ h9 => h9) 3 rfl dX9_addField_24 ?_
    refine lv_aload_n hx hb dX9_addField_27 rfl (lv_at hl 0 rfl) ?_
    refine g_getk (C := RX9) (T := TX9) (N := 13) hx hb hts (mc_ inX9) hown hK g rfl 7 (by decide) rfl (hts _ (List.mem_cons_of_mem _ t_493)) (fun _ h9 => h9) 2 rfl dX9_addField_28 ?_
    refine g_iast hx hb hK g ma_5 ka_5 (by decide) rfl (in_bd by1_ (by decide)) (bd_sub by0_ (by decide)) (by decide) dX9_addField_31 (fun f H locs hM_6 g => ?_)
    refine lv_aload_n hx hb dX9_addField_32 rfl (lv_at hl 0 rfl) ?_
    refine g_getr (K := 154) (C := RX9) (T := TX9) (N := 13) hx hb hts (mc_ inX9) hown hK g ma0_ ka0_ (by decide) rfl 5 (by decide) rfl (hts _ (List.mem_cons_of_mem _ t_490)) (fun _ h9 => h9) rfl dX9_addField_33 (fun a_7 ma_7 ka_7 g => ?_)
    refine lv_aload_n hx hb dX9_addField_36 rfl (lv_at hl 0 rfl) ?_
    refine g_getk (C := RX9) (T := TX9) (N := 13) hx hb hts (mc_ inX9) hown hK g rfl 2 (by decide) rfl (hts _ (List.mem_cons_of_mem _ t_485)) (fun _ h9 => h9) 4 rfl dX9_addField_37 ?_
    refine lv_iload_n hx hb dX9_addField_40 rfl (lv_at hl 2 rfl) ?_
    refine g_iast hx hb hK g ma_7 ka_7 (by decide) rfl (in_bd by1_ (by decide)) (bd_sub bx2_ (by decide)) (by decide) dX9_addField_41 (fun f H locs hM_8 g => ?_)
    refine lv_aload_n hx hb dX9_addField_42 rfl (lv_at hl 0 rfl) ?_
    refine g_getr (K := 155) (C := RX9) (T := TX9) (N := 13) hx hb hts (mc_ inX9) hown hK g ma0_ ka0_ (by decide) rfl 6 (by decide) rfl (hts _ (List.mem_cons_of_mem _ t_492)) (fun _ h9 => h9) rfl dX9_addField_43 (fun a_9 ma_9 ka_9 g => ?_)
    refine lv_aload_n hx hb dX9_addField_46 rfl (lv_at hl 0 rfl) ?_
    refine g_getk (C := RX9) (T := TX9) (N := 13) hx hb hts (mc_ inX9) hown hK g rfl 2 (by decide) rfl (hts _ (List.mem_cons_of_mem _ t_485)) (fun _ h9 => h9) 5 rfl dX9_addField_47 ?_
    refine lv_iload hx hb dX9_addField_50 (lv_at hl 3 rfl) ?_
    refine g_iast hx hb hK g ma_9 ka_9 (by decide) rfl (in_bd by1_ (by decide)) (bd_sub bx3_ (by decide)) (by decide) dX9_addField_52 (fun f H locs hM_10 g => ?_)
    refine lv_aload_n hx hb dX9_addField_53 rfl (lv_at hl 0 rfl) ?_
    refine lv_dup hx hb dX9_addField_54 rfl ?_
    refine g_getk (C := RX9) (T := TX9) (N := 13) hx hb hts (mc_ inX9) hown hK g rfl 7 (by decide) rfl (hts _ (List.mem_cons_of_mem _ t_493)) (fun _ h9 => h9) 4 rfl dX9_addField_55 ?_
    refine lv_iload_n hx hb dX9_addField_58 rfl (lv_at hl 2 rfl) ?_
    refine lv_iconst (v := 1) hx hb dX9_addField_59 (by decide) ?_
    have kb_1 : bd 1 1 (1 : Int32) := ⟨by decide, by decide⟩
    refine va_mmax hx hb (hml.trans hl.1.symm) hown (hts _ (List.mem_cons_of_mem _ t_1168)) (hts _ (List.mem_cons_of_mem _ t_1041)) (hts _ (List.mem_cons_of_mem _ t_204)) (hts _ (List.mem_cons_of_mem _ t_1042)) (Nat.le_of_ble_eq_true rfl) (Nat.le_of_ble_eq_true rfl) (Nat.le_of_ble_eq_true rfl) (Nat.le_of_ble_eq_true rfl) dX9_addField_60 ?_
    refine lv_topi (fun y_11 ey_11 => ?_)
    have ty_11 : y_11.toInt = max x2_.toInt (1 : Int32).toInt := by rw [ey_11]; exact mmax_ok _ _
    have b_12 : bd 1 1 y_11 := max_rg ty_11 bx2_ kb_1 (by decide)
    refine lv_iadd hx hb dX9_addField_63 ?_
    refine lv_topi (fun y_13 ey_13 => ?_)
    have ty_13 := add_bd ey_13 by0_ b_12 (by decide)
    have b_14 : bd 1 24 y_13 := add_rg ty_13 by0_ b_12 (by decide)
    refine g_put (C := RX9) (T := TX9) (N := 13) hx hb hts (mc_ inX9) tyX9 tyX9_ok nmX9 hown hK g ma0_ ka0_ (by decide) rfl 7 (by decide) (hts _ (List.mem_cons_of_mem _ t_493)) (fun _ h9 => h9) rfl rfl (okV_i (bd_sub b_14 (by decide))) rfl rfl (by decide) (Or.inr (Or.inl (by decide))) (fx' := [(9, 6, a0_, .ref a_9), (9, 5, a0_, .ref a_7), (9, 4, a0_, .ref a_5), (9, 3, a0_, .ref a_3), (9, 2, a0_, .int y1_)]) rfl dX9_addField_64 (fun f H locs hM_15 g => ?_)
    refine lv_aload_n hx hb dX9_addField_67 rfl (lv_at hl 0 rfl) ?_
    refine lv_dup hx hb dX9_addField_68 rfl ?_
    refine g_getk (C := RX9) (T := TX9) (N := 13) hx hb hts (mc_ inX9) hown hK g rfl 2 (by decide) rfl (hts _ (List.mem_cons_of_mem _ t_485)) (fun _ h9 => h9) 5 rfl dX9_addField_69 ?_
    refine lv_iconst (v := 1) hx hb dX9_addField_72 (by decide) ?_
    refine lv_iadd hx hb dX9_addField_73 ?_
    refine lv_topi (fun y_16 ey_16 => ?_)
    have ty_16 := add_bd ey_16 by1_ kb_1 (by decide)
    have b_17 : bd 1 10 y_16 := add_rg ty_16 by1_ kb_1 (by decide)
    refine g_put (C := RX9) (T := TX9) (N := 13) hx hb hts (mc_ inX9) tyX9 tyX9_ok nmX9 hown hK g ma0_ ka0_ (by decide) rfl 2 (by decide) (hts _ (List.mem_cons_of_mem _ t_485)) (fun _ h9 => h9) rfl rfl (okV_i (bd_sub b_17 (by decide))) rfl rfl (by decide) (Or.inr (Or.inl (by decide))) (fx' := [(9, 7, a0_, .int y_13), (9, 6, a0_, .ref a_9), (9, 5, a0_, .ref a_7), (9, 4, a0_, .ref a_5), (9, 3, a0_, .ref a_3)]) rfl dX9_addField_74 (fun f H locs hM_18 g => ?_)
    subst hQ
    exact W.vret hx hb hr (fun t ht hW => ⟨⟨_, rfl, ⟨y_16, b_17, y_13, b_14, (g.fcts [0, 1] rfl)⟩, q3_of g hK ht hW⟩, g.2.2.1.F ht⟩) g.2.2.1.2.2 dX9_addField_77
set_option maxHeartbeats 4000000 in
set_option maxRecDepth 100000 in
theorem r_X2_readNumber (l : Launch) (dC : Nat → ClassId) (dI : Nat → Nat → Nat) (L : List Nat) (kd : Nat → Nat) (tys : List (ClassId × FieldType)) (f0 : Nat → va_E) (sz : Nat) (hWT : WT L kd tys f0) (a0_ : Nat) (ma0_ : a0_ ∈ L) (ka0_ : kd a0_ = 2) (x1_ : Int32) (q0_ : Nat) (mq0_ : q0_ ∈ L) (kq0_ : kd q0_ = 8) (y0_ : Int32) (by0_ : bd 0 0 y0_) (hfx : Fs L kd f0 [(2, 0, a0_, .ref q0_), (8, 8, q0_, .int y0_)]) : Met l yX2_readNumber (.code yX2_readNumber cX2_readNumber 4 (some .int) :: lw_g) ({ frames := 1, cells := 0, slots := 0, locals := 23 }) (va_Pc [.ref a0_, .int x1_] (P3 (dC, dI) L tys f0 sz)) (va_Qi (fun (r : Int32) (f : Nat → va_E) => (∃ z0_ : Int32, bd 1 1201 z0_ ∧ Fs L kd f [(8, 6, q0_, .int z0_), (8, 8, q0_, .int y0_)]) ∨ (∃ z1_ : Int32, bd 1 7 z1_ ∧ Fs L kd f [(8, 6, q0_, .int 1201), (8, 8, q0_, .int z1_)])) (Q3 (dC, dI) L kd tys [(8, 6), (8, 8), (8, 9)] [] f0 sz) (pA L sz)) 0 0 (pA L sz) := by
  refine Met.ofW (cc := cX2_readNumber) (maxL := 4) (ret := (some .int)) (by decide) rfl ?_
  intro p e s m args below meth c s₁ B hml hv
  obtain ⟨rfl, hsz, hP, hK, hD0⟩ := hv
  have hx := B.exec
  have hb := B.bytes
  have hr := B.returns
  have hts := atoms_spec (ws := (.code yX2_readNumber cX2_readNumber 4 (some .int) :: lw_g)) B.pre
  have hown : s.vm.findClass RX2 = some m.cls := findClass_of_methodNamed B.named
  have hlocks := B.notSynchronized
  subst hsz
  have g : G3 (dC, dI) L kd tys s f0 [(8, 6), (8, 8), (8, 9)] [] f0 s.heap [] [(2, 0, a0_, .ref q0_), (8, 8, q0_, .int y0_)] := G3.start hP hD0 hWT hfx
  have hl := lv_entry ([.ref a0_, .int x1_]) (n := 4) (Nat.le_of_ble_eq_true rfl)
  rw [lg_entry_eq]
  generalize (lg_sl ([.ref a0_, .int x1_]) ++ List.replicate (4 - (lg_sl ([.ref a0_, .int x1_])).length) Slot.unset).toArray = ls at hl ⊢
  have hl : lv_has ls 4 [(0, .ref a0_), (1, .int x1_)] := hl
  refine W_q (fun Q hQ => ?_)
  refine lv_aload_n hx hb dX2_readNumber_0 rfl (lv_at hl 0 rfl) ?_
  refine g_getk (C := RX2) (T := TX2) (N := 16) hx hb hts (mc_ inX2) hown hK g rfl 0 (by decide) rfl (hts _ (List.mem_cons_of_mem _ t_416)) (fun _ h9 => h9) 0 rfl dX2_readNumber_1 ?_
  refine g_calli (va_runV (As := []) (rest := []) ⟨hx, hb, hml, hown, hts⟩ (r_X8_kind l dC dI L kd tys f0 s.heap.size g.2.2.2.1 q0_ mq0_ kq0_) (cwV 0 hts (gV_ t_1118 t_1119 t_1120 t_184 t_1121) rfl rfl rfl (by decide +kernel) ⟨(Nat.le_of_ble_eq_true rfl), (Nat.le_of_ble_eq_true rfl)⟩) (pre3V g hK mq0_ kq0_ (by decide) (q := (RX8, TX8, 10)) rfl) rfl rfl hl.1 rfl (lv_room (Nat.le_of_ble_eq_true rfl)) dX2_readNumber_4 ⟨(Nat.le_of_ble_eq_true rfl), (Nat.le_of_ble_eq_true rfl)⟩) g hK (by decide) (by decide) (fx' := [(2, 0, a0_, .ref q0_), (8, 8, q0_, .int y0_)]) rfl (fun r_1 fr_1 H locs hp hMr_1 g => ?_)
  refine lv_bipush (v := 45) hx hb dX2_readNumber_7 (by decide) ?_
  have kb_45 : bd 45 45 (45 : Int32) := ⟨by decide, by decide⟩
  refine lv_icmp_ne (tgt := 16) hx hb dX2_readNumber_9 (by decide) (fun c_2 => ?_) (fun c_2 => ?_)
  · have fc_2 := neq_f c_2
    refine lv_iconst (v := 0) hx hb dX2_readNumber_16 (by decide) ?_
    refine lv_istore_n (lv' := [(2, .int 0), (0, .ref a0_), (1, .int x1_)]) hx hb dX2_readNumber_17 rfl hl (by decide) rfl (fun ls hl => ?_)
    refine lv_iload_n hx hb dX2_readNumber_18 rfl (lv_at hl 0 rfl) ?_
    refine lv_if_eq (tgt := 29) hx hb dX2_readNumber_19 (by decide) (fun c_ => ?_) (fun c_ => absurd (by decide) c_)
    refine lv_iload_n hx hb dX2_readNumber_29 rfl (lv_at hl 0 rfl) ?_
    refine lv_if_eq (tgt := 45) hx hb dX2_readNumber_30 (by decide) (fun c_ => ?_) (fun c_ => absurd (by decide) c_)
    refine lv_aload_n hx hb dX2_readNumber_45 rfl (lv_at hl 1 rfl) ?_
    refine g_getk (C := RX2) (T := TX2) (N := 16) hx hb hts (mc_ inX2) hown hK g rfl 0 (by decide) rfl (hts _ (List.mem_cons_of_mem _ t_416)) (fun _ h9 => h9) 0 rfl dX2_readNumber_46 ?_
    refine g_calll (va_runV (As := []) (rest := []) ⟨hx, hb, hml, hown, hts⟩ (r_X8_value l dC dI L kd tys fr_1 H.size g.2.2.2.1 q0_ mq0_ kq0_) (cwV 0 hts (gV_ t_1114 t_1115 t_1116 t_184 t_1117) rfl rfl rfl (by decide +kernel) ⟨(Nat.le_of_ble_eq_true rfl), (Nat.le_of_ble_eq_true rfl)⟩) (pre3V g hK mq0_ kq0_ (by decide) (q := (RX8, TX8, 10)) rfl) rfl rfl hl.1 rfl (lv_room (Nat.le_of_ble_eq_true rfl)) dX2_readNumber_49 ⟨(Nat.le_of_ble_eq_true rfl), (Nat.le_of_ble_eq_true rfl)⟩) g hK (by decide) (by decide) (fx' := [(2, 0, a0_, .ref q0_), (8, 8, q0_, .int y0_)]) rfl (fun r_3 fr_3 H locs hp hMr_3 g => ?_)
    refine lv_l2i hx hb dX2_readNumber_52 rfl ?_
    refine lv_topi (fun y_4 ey_4 => ?_)
    refine lv_istore_n (lv' := [(3, .int y_4), (2, .int 0), (0, .ref a0_), (1, .int x1_)]) hx hb dX2_readNumber_53 rfl hl (by decide) rfl (fun ls hl => ?_)
    refine lv_aload_n hx hb dX2_readNumber_54 rfl (lv_at hl 2 rfl) ?_
    refine g_getk (C := RX2) (T := TX2) (N := 16) hx hb hts (mc_ inX2) hown hK g rfl 0 (by decide) rfl (hts _ (List.mem_cons_of_mem _ t_416)) (fun _ h9 => h9) 0 rfl dX2_readNumber_55 ?_
    refine g_calli (va_runV (As := []) (rest := []) ⟨hx, hb, hml, hown, hts⟩ (r_X8_kind l dC dI L kd tys fr_3 H.size g.2.2.2.1 q0_ mq0_ kq0_) (cwV 0 hts (gV_ t_1118 t_1119 t_1120 t_184 t_1121) rfl rfl rfl (by decide +kernel) ⟨(Nat.le_of_ble_eq_true rfl), (Nat.le_of_ble_eq_true rfl)⟩) (pre3V g hK mq0_ kq0_ (by decide) (q := (RX8, TX8, 10)) rfl) rfl rfl hl.1 rfl (lv_room (Nat.le_of_ble_eq_true rfl)) dX2_readNumber_58 ⟨(Nat.le_of_ble_eq_true rfl), (Nat.le_of_ble_eq_true rfl)⟩) g hK (by decide) (by decide) (fx' := [(2, 0, a0_, .ref q0_), (8, 8, q0_, .int y0_)]) rfl (fun r_5 fr_5 H locs hp hMr_5 g => ?_)
    refine lv_iconst (v := 4) hx hb dX2_readNumber_61 (by decide) ?_
    have kb_4 : bd 4 4 (4 : Int32) := ⟨by decide, by decide⟩
    refine lv_icmp_eq (tgt := 83) hx hb dX2_readNumber_62 (by decide) (fun c_6 => ?_) (fun c_6 => ?_)
    · have fc_6 := eq_f c_6
      have b_7 : bd 4 4 r_5 := eqX fc_6 (bdT r_5) kb_4 (by decide)
      refine lv_iload_n hx hb dX2_readNumber_83 rfl (lv_at hl 0 rfl) ?_
      refine lv_iload_n hx hb dX2_readNumber_84 rfl (lv_at hl 3 rfl) ?_
      refine lv_icmp_ge (tgt := 103) hx hb dX2_readNumber_85 (by decide) (fun c_8 => ?_) (fun c_8 => ?_)
      · have fc_8 := le_f c_8
        refine lv_aload_n hx hb dX2_readNumber_103 rfl (lv_at hl 2 rfl) ?_
        refine g_getk (C := RX2) (T := TX2) (N := 16) hx hb hts (mc_ inX2) hown hK g rfl 0 (by decide) rfl (hts _ (List.mem_cons_of_mem _ t_416)) (fun _ h9 => h9) 0 rfl dX2_readNumber_104 ?_
        refine g_callv (va_runV (As := []) (rest := []) ⟨hx, hb, hml, hown, hts⟩ (r_X8_next l dC dI L kd tys fr_5 H.size g.2.2.2.1 q0_ mq0_ kq0_) (cwV 0 hts (gV_ t_1131 t_1103 t_1104 t_184 t_1105) rfl rfl rfl (by decide +kernel) ⟨(Nat.le_of_ble_eq_true rfl), (Nat.le_of_ble_eq_true rfl)⟩) (pre3V g hK mq0_ kq0_ (by decide) (q := (RX8, TX8, 10)) rfl) rfl rfl hl.1 rfl (lv_room (Nat.le_of_ble_eq_true rfl)) dX2_readNumber_107 ⟨(Nat.le_of_ble_eq_true rfl), (Nat.le_of_ble_eq_true rfl)⟩) g hK (by decide) (by decide) (fx' := [(2, 0, a0_, .ref q0_), (8, 8, q0_, .int y0_)]) rfl (fun fr_9 H locs hp hMr_9 g => ?_)
        obtain ⟨x_10, h_11, hF_12⟩ := hp
        have g := g.more hF_12
        refine lv_iload_n hx hb dX2_readNumber_110 rfl (lv_at hl 0 rfl) ?_
        subst hQ
        exact W.iret (v := y_4) hx hb hr (fun t ht hW => ⟨⟨_, _, rfl, Or.inl ⟨x_10, h_11, (g.fcts [0, 2] rfl)⟩, q3_of g hK ht hW⟩, g.2.2.1.F ht⟩) g.2.2.1.2.2 dX2_readNumber_111
      · have fc_8 := nle_f c_8
        have b_13 : bd (-2147483648) 2147483646 y_4 := ltL fc_8 (bdT y_4) (bdT x1_) (by decide)
        have b_14 : bd (-2147483647) 2147483647 x1_ := ltR fc_8 (bdT y_4) (bdT x1_) (by decide)
        refine lv_aload_n hx hb dX2_readNumber_88 rfl (lv_at hl 2 rfl) ?_
        refine g_getk (C := RX2) (T := TX2) (N := 16) hx hb hts (mc_ inX2) hown hK g rfl 0 (by decide) rfl (hts _ (List.mem_cons_of_mem _ t_416)) (fun _ h9 => h9) 0 rfl dX2_readNumber_89 ?_
        refine lv_iconst (v := 3) hx hb dX2_readNumber_92 (by decide) ?_
        refine lv_aload_n hx hb dX2_readNumber_93 rfl (lv_at hl 2 rfl) ?_
        refine g_getk (C := RX2) (T := TX2) (N := 16) hx hb hts (mc_ inX2) hown hK g rfl 0 (by decide) rfl (hts _ (List.mem_cons_of_mem _ t_416)) (fun _ h9 => h9) 0 rfl dX2_readNumber_94 ?_
        refine g_calli (va_runV (As := []) (rest := [.int 3, .ref q0_]) ⟨hx, hb, hml, hown, hts⟩ (r_X8_place l dC dI L kd tys fr_5 H.size g.2.2.2.1 q0_ mq0_ kq0_) (cwV 0 hts (gV_ t_1110 t_1111 t_1112 t_184 t_1113) rfl rfl rfl (by decide +kernel) ⟨(Nat.le_of_ble_eq_true rfl), (Nat.le_of_ble_eq_true rfl)⟩) (pre3V g hK mq0_ kq0_ (by decide) (q := (RX8, TX8, 10)) rfl) rfl rfl hl.1 rfl (lv_room (Nat.le_of_ble_eq_true rfl)) dX2_readNumber_97 ⟨(Nat.le_of_ble_eq_true rfl), (Nat.le_of_ble_eq_true rfl)⟩) g hK (by decide) (by decide) (fx' := [(2, 0, a0_, .ref q0_), (8, 8, q0_, .int y0_)]) rfl (fun r_15 fr_15 H locs hp hMr_15 g => ?_)
        have kb_3 : bd 3 3 (3 : Int32) := ⟨by decide, by decide⟩
        refine g_callv (va_runV (As := [.int 3, .int r_15]) (rest := []) ⟨hx, hb, hml, hown, hts⟩ (r_X8_fail l dC dI L kd tys fr_15 H.size g.2.2.2.1 q0_ mq0_ kq0_ 3 (bd_sub kb_3 (by decide)) r_15 y0_ by0_ (g.fcts [1] rfl)) (cwV 2 hts (gV_ t_1122 t_1107 t_1108 t_184 t_1109) rfl rfl rfl (by decide +kernel) ⟨(Nat.le_of_ble_eq_true rfl), (Nat.le_of_ble_eq_true rfl)⟩) (pre3V g hK mq0_ kq0_ (by decide) (q := (RX8, TX8, 10)) rfl) rfl rfl hl.1 rfl (lv_room (Nat.le_of_ble_eq_true rfl)) dX2_readNumber_100 ⟨(Nat.le_of_ble_eq_true rfl), (Nat.le_of_ble_eq_true rfl)⟩) g hK (by decide) (by decide) (fx' := [(2, 0, a0_, .ref q0_)]) rfl (fun fr_16 H locs hp hMr_16 g => ?_)
        obtain ⟨x_17, h_18, hF_19⟩ := hp
        have g := g.more hF_19
        refine lv_aload_n hx hb dX2_readNumber_103 rfl (lv_at hl 2 rfl) ?_
        refine g_getk (C := RX2) (T := TX2) (N := 16) hx hb hts (mc_ inX2) hown hK g rfl 0 (by decide) rfl (hts _ (List.mem_cons_of_mem _ t_416)) (fun _ h9 => h9) 2 rfl dX2_readNumber_104 ?_
        have kb_1201 : bd 1201 1201 (1201 : Int32) := ⟨by decide, by decide⟩
        refine g_callv (va_runV (As := []) (rest := []) ⟨hx, hb, hml, hown, hts⟩ (r_X8_next_2 l dC dI L kd tys fr_16 H.size g.2.2.2.1 q0_ mq0_ kq0_ 1201 kb_1201 (g.fcts [0] rfl)) (cwV 0 hts (gV_ t_1131 t_1103 t_1104 t_184 t_1105) rfl rfl rfl (by decide +kernel) ⟨(Nat.le_of_ble_eq_true rfl), (Nat.le_of_ble_eq_true rfl)⟩) (pre3V g hK mq0_ kq0_ (by decide) (q := (RX8, TX8, 10)) rfl) rfl rfl hl.1 rfl (lv_room (Nat.le_of_ble_eq_true rfl)) dX2_readNumber_107 ⟨(Nat.le_of_ble_eq_true rfl), (Nat.le_of_ble_eq_true rfl)⟩) g hK (by decide) (by decide) (fx' := [(8, 6, q0_, .int 1201), (8, 8, q0_, .int x_17), (2, 0, a0_, .ref q0_)]) rfl (fun fr_20 H locs hp hMr_20 g => ?_)
        refine lv_iload_n hx hb dX2_readNumber_110 rfl (lv_at hl 0 rfl) ?_
        subst hQ
        exact W.iret (v := y_4) hx hb hr (fun t ht hW => ⟨⟨_, _, rfl, Or.inr (⟨x_17, h_18, (g.fcts [0, 1] rfl)⟩), q3_of g hK ht hW⟩, g.2.2.1.F ht⟩) g.2.2.1.2.2 dX2_readNumber_111
    · have fc_6 := neq_f c_6
      refine lv_aload_n hx hb dX2_readNumber_65 rfl (lv_at hl 2 rfl) ?_
      refine g_getk (C := RX2) (T := TX2) (N := 16) hx hb hts (mc_ inX2) hown hK g rfl 0 (by decide) rfl (hts _ (List.mem_cons_of_mem _ t_416)) (fun _ h9 => h9) 0 rfl dX2_readNumber_66 ?_
      refine lv_iconst (v := 1) hx hb dX2_readNumber_69 (by decide) ?_
      refine lv_aload_n hx hb dX2_readNumber_70 rfl (lv_at hl 2 rfl) ?_
      refine g_getk (C := RX2) (T := TX2) (N := 16) hx hb hts (mc_ inX2) hown hK g rfl 0 (by decide) rfl (hts _ (List.mem_cons_of_mem _ t_416)) (fun _ h9 => h9) 0 rfl dX2_readNumber_71 ?_
      refine g_calli (va_runV (As := []) (rest := [.int 1, .ref q0_]) ⟨hx, hb, hml, hown, hts⟩ (r_X8_place l dC dI L kd tys fr_5 H.size g.2.2.2.1 q0_ mq0_ kq0_) (cwV 0 hts (gV_ t_1110 t_1111 t_1112 t_184 t_1113) rfl rfl rfl (by decide +kernel) ⟨(Nat.le_of_ble_eq_true rfl), (Nat.le_of_ble_eq_true rfl)⟩) (pre3V g hK mq0_ kq0_ (by decide) (q := (RX8, TX8, 10)) rfl) rfl rfl hl.1 rfl (lv_room (Nat.le_of_ble_eq_true rfl)) dX2_readNumber_74 ⟨(Nat.le_of_ble_eq_true rfl), (Nat.le_of_ble_eq_true rfl)⟩) g hK (by decide) (by decide) (fx' := [(2, 0, a0_, .ref q0_), (8, 8, q0_, .int y0_)]) rfl (fun r_21 fr_21 H locs hp hMr_21 g => ?_)
      have kb_1 : bd 1 1 (1 : Int32) := ⟨by decide, by decide⟩
      refine g_callv (va_runV (As := [.int 1, .int r_21]) (rest := []) ⟨hx, hb, hml, hown, hts⟩ (r_X8_fail l dC dI L kd tys fr_21 H.size g.2.2.2.1 q0_ mq0_ kq0_ 1 (bd_sub kb_1 (by decide)) r_21 y0_ by0_ (g.fcts [1] rfl)) (cwV 2 hts (gV_ t_1122 t_1107 t_1108 t_184 t_1109) rfl rfl rfl (by decide +kernel) ⟨(Nat.le_of_ble_eq_true rfl), (Nat.le_of_ble_eq_true rfl)⟩) (pre3V g hK mq0_ kq0_ (by decide) (q := (RX8, TX8, 10)) rfl) rfl rfl hl.1 rfl (lv_room (Nat.le_of_ble_eq_true rfl)) dX2_readNumber_77 ⟨(Nat.le_of_ble_eq_true rfl), (Nat.le_of_ble_eq_true rfl)⟩) g hK (by decide) (by decide) (fx' := [(2, 0, a0_, .ref q0_)]) rfl (fun fr_22 H locs hp hMr_22 g => ?_)
      obtain ⟨x_23, h_24, hF_25⟩ := hp
      have g := g.more hF_25
      refine lv_goto (tgt := 103) hx hb dX2_readNumber_80 (by decide) ?_
      refine lv_aload_n hx hb dX2_readNumber_103 rfl (lv_at hl 2 rfl) ?_
      refine g_getk (C := RX2) (T := TX2) (N := 16) hx hb hts (mc_ inX2) hown hK g rfl 0 (by decide) rfl (hts _ (List.mem_cons_of_mem _ t_416)) (fun _ h9 => h9) 2 rfl dX2_readNumber_104 ?_
      have kb_1201 : bd 1201 1201 (1201 : Int32) := ⟨by decide, by decide⟩
      refine g_callv (va_runV (As := []) (rest := []) ⟨hx, hb, hml, hown, hts⟩ (r_X8_next_2 l dC dI L kd tys fr_22 H.size g.2.2.2.1 q0_ mq0_ kq0_ 1201 kb_1201 (g.fcts [0] rfl)) (cwV 0 hts (gV_ t_1131 t_1103 t_1104 t_184 t_1105) rfl rfl rfl (by decide +kernel) ⟨(Nat.le_of_ble_eq_true rfl), (Nat.le_of_ble_eq_true rfl)⟩) (pre3V g hK mq0_ kq0_ (by decide) (q := (RX8, TX8, 10)) rfl) rfl rfl hl.1 rfl (lv_room (Nat.le_of_ble_eq_true rfl)) dX2_readNumber_107 ⟨(Nat.le_of_ble_eq_true rfl), (Nat.le_of_ble_eq_true rfl)⟩) g hK (by decide) (by decide) (fx' := [(8, 6, q0_, .int 1201), (8, 8, q0_, .int x_23), (2, 0, a0_, .ref q0_)]) rfl (fun fr_26 H locs hp hMr_26 g => ?_)
      refine lv_iload_n hx hb dX2_readNumber_110 rfl (lv_at hl 0 rfl) ?_
      subst hQ
      exact W.iret (v := y_4) hx hb hr (fun t ht hW => ⟨⟨_, _, rfl, Or.inr (⟨x_23, h_24, (g.fcts [0, 1] rfl)⟩), q3_of g hK ht hW⟩, g.2.2.1.F ht⟩) g.2.2.1.2.2 dX2_readNumber_111
  · have fc_2 := eq_f c_2
    have b_27 : bd 45 45 r_1 := eqX fc_2 (bdT r_1) kb_45 (by decide)
    refine lv_iconst (v := 1) hx hb dX2_readNumber_12 (by decide) ?_
    refine lv_goto (tgt := 17) hx hb dX2_readNumber_13 (by decide) ?_
    refine lv_istore_n (lv' := [(2, .int 1), (0, .ref a0_), (1, .int x1_)]) hx hb dX2_readNumber_17 rfl hl (by decide) rfl (fun ls hl => ?_)
    refine lv_iload_n hx hb dX2_readNumber_18 rfl (lv_at hl 0 rfl) ?_
    refine lv_if_eq (tgt := 29) hx hb dX2_readNumber_19 (by decide) (fun c_ => absurd c_ (by decide)) (fun c_ => ?_)
    refine lv_aload_n hx hb dX2_readNumber_22 rfl (lv_at hl 1 rfl) ?_
    refine g_getk (C := RX2) (T := TX2) (N := 16) hx hb hts (mc_ inX2) hown hK g rfl 0 (by decide) rfl (hts _ (List.mem_cons_of_mem _ t_416)) (fun _ h9 => h9) 0 rfl dX2_readNumber_23 ?_
    refine g_callv (va_runV (As := []) (rest := []) ⟨hx, hb, hml, hown, hts⟩ (r_X8_next l dC dI L kd tys fr_1 H.size g.2.2.2.1 q0_ mq0_ kq0_) (cwV 0 hts (gV_ t_1131 t_1103 t_1104 t_184 t_1105) rfl rfl rfl (by decide +kernel) ⟨(Nat.le_of_ble_eq_true rfl), (Nat.le_of_ble_eq_true rfl)⟩) (pre3V g hK mq0_ kq0_ (by decide) (q := (RX8, TX8, 10)) rfl) rfl rfl hl.1 rfl (lv_room (Nat.le_of_ble_eq_true rfl)) dX2_readNumber_26 ⟨(Nat.le_of_ble_eq_true rfl), (Nat.le_of_ble_eq_true rfl)⟩) g hK (by decide) (by decide) (fx' := [(2, 0, a0_, .ref q0_), (8, 8, q0_, .int y0_)]) rfl (fun fr_28 H locs hp hMr_28 g => ?_)
    obtain ⟨x_29, h_30, hF_31⟩ := hp
    have g := g.more hF_31
    refine lv_iload_n hx hb dX2_readNumber_29 rfl (lv_at hl 0 rfl) ?_
    refine lv_if_eq (tgt := 45) hx hb dX2_readNumber_30 (by decide) (fun c_ => absurd c_ (by decide)) (fun c_ => ?_)
    refine lv_aload_n hx hb dX2_readNumber_33 rfl (lv_at hl 1 rfl) ?_
    refine g_getk (C := RX2) (T := TX2) (N := 16) hx hb hts (mc_ inX2) hown hK g rfl 0 (by decide) rfl (hts _ (List.mem_cons_of_mem _ t_416)) (fun _ h9 => h9) 1 rfl dX2_readNumber_34 ?_
    refine g_calll (va_runV (As := []) (rest := []) ⟨hx, hb, hml, hown, hts⟩ (r_X8_value l dC dI L kd tys fr_28 H.size g.2.2.2.1 q0_ mq0_ kq0_) (cwV 0 hts (gV_ t_1114 t_1115 t_1116 t_184 t_1117) rfl rfl rfl (by decide +kernel) ⟨(Nat.le_of_ble_eq_true rfl), (Nat.le_of_ble_eq_true rfl)⟩) (pre3V g hK mq0_ kq0_ (by decide) (q := (RX8, TX8, 10)) rfl) rfl rfl hl.1 rfl (lv_room (Nat.le_of_ble_eq_true rfl)) dX2_readNumber_37 ⟨(Nat.le_of_ble_eq_true rfl), (Nat.le_of_ble_eq_true rfl)⟩) g hK (by decide) (by decide) (fx' := [(8, 6, q0_, .int x_29), (2, 0, a0_, .ref q0_), (8, 8, q0_, .int y0_)]) rfl (fun r_32 fr_32 H locs hp hMr_32 g => ?_)
    refine lv_lneg hx hb dX2_readNumber_40 ?_
    refine lv_topl (fun y_33 ey_33 => ?_)
    refine lv_l2i hx hb dX2_readNumber_41 rfl ?_
    refine lv_topi (fun y_34 ey_34 => ?_)
    refine lv_goto (tgt := 53) hx hb dX2_readNumber_42 (by decide) ?_
    refine lv_istore_n (lv' := [(3, .int y_34), (2, .int 1), (0, .ref a0_), (1, .int x1_)]) hx hb dX2_readNumber_53 rfl hl (by decide) rfl (fun ls hl => ?_)
    refine lv_aload_n hx hb dX2_readNumber_54 rfl (lv_at hl 2 rfl) ?_
    refine g_getk (C := RX2) (T := TX2) (N := 16) hx hb hts (mc_ inX2) hown hK g rfl 0 (by decide) rfl (hts _ (List.mem_cons_of_mem _ t_416)) (fun _ h9 => h9) 1 rfl dX2_readNumber_55 ?_
    refine g_calli (va_runV (As := []) (rest := []) ⟨hx, hb, hml, hown, hts⟩ (r_X8_kind l dC dI L kd tys fr_32 H.size g.2.2.2.1 q0_ mq0_ kq0_) (cwV 0 hts (gV_ t_1118 t_1119 t_1120 t_184 t_1121) rfl rfl rfl (by decide +kernel) ⟨(Nat.le_of_ble_eq_true rfl), (Nat.le_of_ble_eq_true rfl)⟩) (pre3V g hK mq0_ kq0_ (by decide) (q := (RX8, TX8, 10)) rfl) rfl rfl hl.1 rfl (lv_room (Nat.le_of_ble_eq_true rfl)) dX2_readNumber_58 ⟨(Nat.le_of_ble_eq_true rfl), (Nat.le_of_ble_eq_true rfl)⟩) g hK (by decide) (by decide) (fx' := [(8, 6, q0_, .int x_29), (2, 0, a0_, .ref q0_), (8, 8, q0_, .int y0_)]) rfl (fun r_35 fr_35 H locs hp hMr_35 g => ?_)
    refine lv_iconst (v := 4) hx hb dX2_readNumber_61 (by decide) ?_
    have kb_4 : bd 4 4 (4 : Int32) := ⟨by decide, by decide⟩
    refine lv_icmp_eq (tgt := 83) hx hb dX2_readNumber_62 (by decide) (fun c_36 => ?_) (fun c_36 => ?_)
    · have fc_36 := eq_f c_36
      have b_37 : bd 4 4 r_35 := eqX fc_36 (bdT r_35) kb_4 (by decide)
      refine lv_iload_n hx hb dX2_readNumber_83 rfl (lv_at hl 0 rfl) ?_
      refine lv_iload_n hx hb dX2_readNumber_84 rfl (lv_at hl 3 rfl) ?_
      refine lv_icmp_ge (tgt := 103) hx hb dX2_readNumber_85 (by decide) (fun c_38 => ?_) (fun c_38 => ?_)
      · have fc_38 := le_f c_38
        refine lv_aload_n hx hb dX2_readNumber_103 rfl (lv_at hl 2 rfl) ?_
        refine g_getk (C := RX2) (T := TX2) (N := 16) hx hb hts (mc_ inX2) hown hK g rfl 0 (by decide) rfl (hts _ (List.mem_cons_of_mem _ t_416)) (fun _ h9 => h9) 1 rfl dX2_readNumber_104 ?_
        refine g_callv (va_runV (As := []) (rest := []) ⟨hx, hb, hml, hown, hts⟩ (r_X8_next l dC dI L kd tys fr_35 H.size g.2.2.2.1 q0_ mq0_ kq0_) (cwV 0 hts (gV_ t_1131 t_1103 t_1104 t_184 t_1105) rfl rfl rfl (by decide +kernel) ⟨(Nat.le_of_ble_eq_true rfl), (Nat.le_of_ble_eq_true rfl)⟩) (pre3V g hK mq0_ kq0_ (by decide) (q := (RX8, TX8, 10)) rfl) rfl rfl hl.1 rfl (lv_room (Nat.le_of_ble_eq_true rfl)) dX2_readNumber_107 ⟨(Nat.le_of_ble_eq_true rfl), (Nat.le_of_ble_eq_true rfl)⟩) g hK (by decide) (by decide) (fx' := [(2, 0, a0_, .ref q0_), (8, 8, q0_, .int y0_)]) rfl (fun fr_39 H locs hp hMr_39 g => ?_)
        obtain ⟨x_40, h_41, hF_42⟩ := hp
        have g := g.more hF_42
        refine lv_iload_n hx hb dX2_readNumber_110 rfl (lv_at hl 0 rfl) ?_
        subst hQ
        exact W.iret (v := y_34) hx hb hr (fun t ht hW => ⟨⟨_, _, rfl, Or.inl ⟨x_40, h_41, (g.fcts [0, 2] rfl)⟩, q3_of g hK ht hW⟩, g.2.2.1.F ht⟩) g.2.2.1.2.2 dX2_readNumber_111
      · have fc_38 := nle_f c_38
        have b_43 : bd (-2147483648) 2147483646 y_34 := ltL fc_38 (bdT y_34) (bdT x1_) (by decide)
        have b_44 : bd (-2147483647) 2147483647 x1_ := ltR fc_38 (bdT y_34) (bdT x1_) (by decide)
        refine lv_aload_n hx hb dX2_readNumber_88 rfl (lv_at hl 2 rfl) ?_
        refine g_getk (C := RX2) (T := TX2) (N := 16) hx hb hts (mc_ inX2) hown hK g rfl 0 (by decide) rfl (hts _ (List.mem_cons_of_mem _ t_416)) (fun _ h9 => h9) 1 rfl dX2_readNumber_89 ?_
        refine lv_iconst (v := 3) hx hb dX2_readNumber_92 (by decide) ?_
        refine lv_aload_n hx hb dX2_readNumber_93 rfl (lv_at hl 2 rfl) ?_
        refine g_getk (C := RX2) (T := TX2) (N := 16) hx hb hts (mc_ inX2) hown hK g rfl 0 (by decide) rfl (hts _ (List.mem_cons_of_mem _ t_416)) (fun _ h9 => h9) 1 rfl dX2_readNumber_94 ?_
        refine g_calli (va_runV (As := []) (rest := [.int 3, .ref q0_]) ⟨hx, hb, hml, hown, hts⟩ (r_X8_place l dC dI L kd tys fr_35 H.size g.2.2.2.1 q0_ mq0_ kq0_) (cwV 0 hts (gV_ t_1110 t_1111 t_1112 t_184 t_1113) rfl rfl rfl (by decide +kernel) ⟨(Nat.le_of_ble_eq_true rfl), (Nat.le_of_ble_eq_true rfl)⟩) (pre3V g hK mq0_ kq0_ (by decide) (q := (RX8, TX8, 10)) rfl) rfl rfl hl.1 rfl (lv_room (Nat.le_of_ble_eq_true rfl)) dX2_readNumber_97 ⟨(Nat.le_of_ble_eq_true rfl), (Nat.le_of_ble_eq_true rfl)⟩) g hK (by decide) (by decide) (fx' := [(8, 6, q0_, .int x_29), (2, 0, a0_, .ref q0_), (8, 8, q0_, .int y0_)]) rfl (fun r_45 fr_45 H locs hp hMr_45 g => ?_)
        have kb_3 : bd 3 3 (3 : Int32) := ⟨by decide, by decide⟩
        refine g_callv (va_runV (As := [.int 3, .int r_45]) (rest := []) ⟨hx, hb, hml, hown, hts⟩ (r_X8_fail l dC dI L kd tys fr_45 H.size g.2.2.2.1 q0_ mq0_ kq0_ 3 (bd_sub kb_3 (by decide)) r_45 y0_ by0_ (g.fcts [2] rfl)) (cwV 2 hts (gV_ t_1122 t_1107 t_1108 t_184 t_1109) rfl rfl rfl (by decide +kernel) ⟨(Nat.le_of_ble_eq_true rfl), (Nat.le_of_ble_eq_true rfl)⟩) (pre3V g hK mq0_ kq0_ (by decide) (q := (RX8, TX8, 10)) rfl) rfl rfl hl.1 rfl (lv_room (Nat.le_of_ble_eq_true rfl)) dX2_readNumber_100 ⟨(Nat.le_of_ble_eq_true rfl), (Nat.le_of_ble_eq_true rfl)⟩) g hK (by decide) (by decide) (fx' := [(2, 0, a0_, .ref q0_)]) rfl (fun fr_46 H locs hp hMr_46 g => ?_)
        obtain ⟨x_47, h_48, hF_49⟩ := hp
        have g := g.more hF_49
        refine lv_aload_n hx hb dX2_readNumber_103 rfl (lv_at hl 2 rfl) ?_
        refine g_getk (C := RX2) (T := TX2) (N := 16) hx hb hts (mc_ inX2) hown hK g rfl 0 (by decide) rfl (hts _ (List.mem_cons_of_mem _ t_416)) (fun _ h9 => h9) 2 rfl dX2_readNumber_104 ?_
        have kb_1201 : bd 1201 1201 (1201 : Int32) := ⟨by decide, by decide⟩
        refine g_callv (va_runV (As := []) (rest := []) ⟨hx, hb, hml, hown, hts⟩ (r_X8_next_2 l dC dI L kd tys fr_46 H.size g.2.2.2.1 q0_ mq0_ kq0_ 1201 kb_1201 (g.fcts [0] rfl)) (cwV 0 hts (gV_ t_1131 t_1103 t_1104 t_184 t_1105) rfl rfl rfl (by decide +kernel) ⟨(Nat.le_of_ble_eq_true rfl), (Nat.le_of_ble_eq_true rfl)⟩) (pre3V g hK mq0_ kq0_ (by decide) (q := (RX8, TX8, 10)) rfl) rfl rfl hl.1 rfl (lv_room (Nat.le_of_ble_eq_true rfl)) dX2_readNumber_107 ⟨(Nat.le_of_ble_eq_true rfl), (Nat.le_of_ble_eq_true rfl)⟩) g hK (by decide) (by decide) (fx' := [(8, 6, q0_, .int 1201), (8, 8, q0_, .int x_47), (2, 0, a0_, .ref q0_)]) rfl (fun fr_50 H locs hp hMr_50 g => ?_)
        refine lv_iload_n hx hb dX2_readNumber_110 rfl (lv_at hl 0 rfl) ?_
        subst hQ
        exact W.iret (v := y_34) hx hb hr (fun t ht hW => ⟨⟨_, _, rfl, Or.inr (⟨x_47, h_48, (g.fcts [0, 1] rfl)⟩), q3_of g hK ht hW⟩, g.2.2.1.F ht⟩) g.2.2.1.2.2 dX2_readNumber_111
    · have fc_36 := neq_f c_36
      refine lv_aload_n hx hb dX2_readNumber_65 rfl (lv_at hl 2 rfl) ?_
      refine g_getk (C := RX2) (T := TX2) (N := 16) hx hb hts (mc_ inX2) hown hK g rfl 0 (by decide) rfl (hts _ (List.mem_cons_of_mem _ t_416)) (fun _ h9 => h9) 1 rfl dX2_readNumber_66 ?_
      refine lv_iconst (v := 1) hx hb dX2_readNumber_69 (by decide) ?_
      refine lv_aload_n hx hb dX2_readNumber_70 rfl (lv_at hl 2 rfl) ?_
      refine g_getk (C := RX2) (T := TX2) (N := 16) hx hb hts (mc_ inX2) hown hK g rfl 0 (by decide) rfl (hts _ (List.mem_cons_of_mem _ t_416)) (fun _ h9 => h9) 1 rfl dX2_readNumber_71 ?_
      refine g_calli (va_runV (As := []) (rest := [.int 1, .ref q0_]) ⟨hx, hb, hml, hown, hts⟩ (r_X8_place l dC dI L kd tys fr_35 H.size g.2.2.2.1 q0_ mq0_ kq0_) (cwV 0 hts (gV_ t_1110 t_1111 t_1112 t_184 t_1113) rfl rfl rfl (by decide +kernel) ⟨(Nat.le_of_ble_eq_true rfl), (Nat.le_of_ble_eq_true rfl)⟩) (pre3V g hK mq0_ kq0_ (by decide) (q := (RX8, TX8, 10)) rfl) rfl rfl hl.1 rfl (lv_room (Nat.le_of_ble_eq_true rfl)) dX2_readNumber_74 ⟨(Nat.le_of_ble_eq_true rfl), (Nat.le_of_ble_eq_true rfl)⟩) g hK (by decide) (by decide) (fx' := [(8, 6, q0_, .int x_29), (2, 0, a0_, .ref q0_), (8, 8, q0_, .int y0_)]) rfl (fun r_51 fr_51 H locs hp hMr_51 g => ?_)
      have kb_1 : bd 1 1 (1 : Int32) := ⟨by decide, by decide⟩
      refine g_callv (va_runV (As := [.int 1, .int r_51]) (rest := []) ⟨hx, hb, hml, hown, hts⟩ (r_X8_fail l dC dI L kd tys fr_51 H.size g.2.2.2.1 q0_ mq0_ kq0_ 1 (bd_sub kb_1 (by decide)) r_51 y0_ by0_ (g.fcts [2] rfl)) (cwV 2 hts (gV_ t_1122 t_1107 t_1108 t_184 t_1109) rfl rfl rfl (by decide +kernel) ⟨(Nat.le_of_ble_eq_true rfl), (Nat.le_of_ble_eq_true rfl)⟩) (pre3V g hK mq0_ kq0_ (by decide) (q := (RX8, TX8, 10)) rfl) rfl rfl hl.1 rfl (lv_room (Nat.le_of_ble_eq_true rfl)) dX2_readNumber_77 ⟨(Nat.le_of_ble_eq_true rfl), (Nat.le_of_ble_eq_true rfl)⟩) g hK (by decide) (by decide) (fx' := [(2, 0, a0_, .ref q0_)]) rfl (fun fr_52 H locs hp hMr_52 g => ?_)
      obtain ⟨x_53, h_54, hF_55⟩ := hp
      have g := g.more hF_55
      refine lv_goto (tgt := 103) hx hb dX2_readNumber_80 (by decide) ?_
      refine lv_aload_n hx hb dX2_readNumber_103 rfl (lv_at hl 2 rfl) ?_
      refine g_getk (C := RX2) (T := TX2) (N := 16) hx hb hts (mc_ inX2) hown hK g rfl 0 (by decide) rfl (hts _ (List.mem_cons_of_mem _ t_416)) (fun _ h9 => h9) 2 rfl dX2_readNumber_104 ?_
      have kb_1201 : bd 1201 1201 (1201 : Int32) := ⟨by decide, by decide⟩
      refine g_callv (va_runV (As := []) (rest := []) ⟨hx, hb, hml, hown, hts⟩ (r_X8_next_2 l dC dI L kd tys fr_52 H.size g.2.2.2.1 q0_ mq0_ kq0_ 1201 kb_1201 (g.fcts [0] rfl)) (cwV 0 hts (gV_ t_1131 t_1103 t_1104 t_184 t_1105) rfl rfl rfl (by decide +kernel) ⟨(Nat.le_of_ble_eq_true rfl), (Nat.le_of_ble_eq_true rfl)⟩) (pre3V g hK mq0_ kq0_ (by decide) (q := (RX8, TX8, 10)) rfl) rfl rfl hl.1 rfl (lv_room (Nat.le_of_ble_eq_true rfl)) dX2_readNumber_107 ⟨(Nat.le_of_ble_eq_true rfl), (Nat.le_of_ble_eq_true rfl)⟩) g hK (by decide) (by decide) (fx' := [(8, 6, q0_, .int 1201), (8, 8, q0_, .int x_53), (2, 0, a0_, .ref q0_)]) rfl (fun fr_56 H locs hp hMr_56 g => ?_)
      refine lv_iload_n hx hb dX2_readNumber_110 rfl (lv_at hl 0 rfl) ?_
      subst hQ
      exact W.iret (v := y_34) hx hb hr (fun t ht hW => ⟨⟨_, _, rfl, Or.inr (⟨x_53, h_54, (g.fcts [0, 1] rfl)⟩), q3_of g hK ht hW⟩, g.2.2.1.F ht⟩) g.2.2.1.2.2 dX2_readNumber_111
set_option maxHeartbeats 4000000 in
set_option maxRecDepth 100000 in
theorem r_X9_addField_2 (l : Launch) (dC : Nat → ClassId) (dI : Nat → Nat → Nat) (L : List Nat) (kd : Nat → Nat) (tys : List (ClassId × FieldType)) (f0 : Nat → va_E) (sz : Nat) (hWT : WT L kd tys f0) (a0_ : Nat) (ma0_ : a0_ ∈ L) (ka0_ : kd a0_ = 9) (x1_ : Int64) (x2_ : Int32) (bx2_ : bd 0 0 x2_) (x3_ : Int32) (y0_ : Int32) (by0_ : bd 0 23 y0_) (y1_ : Int32) (by1_ : bd 0 9 y1_) (hfx : Fs L kd f0 [(9, 7, a0_, .int y0_), (9, 2, a0_, .int y1_)]) : Met l yX9_addField (.code yX9_addField cX9_addField 5 none :: lw_g) ({ frames := 1, cells := 0, slots := 0, locals := 15 }) (va_Pc [.ref a0_, .long x1_, .int x2_, .int x3_] (P3 (dC, dI) L tys f0 sz)) (va_Qv (fun (f : Nat → va_E) => (∃ z0_ : Int32, bd 1 10 z0_ ∧ ∃ z1_ : Int32, bd 1 24 z1_ ∧ Fs L kd f [(9, 2, a0_, .int z0_), (9, 7, a0_, .int z1_)])) (Q3 (dC, dI) L kd tys [(9, 2), (9, 7)] [152, 153, 154, 155] f0 sz) (pA L sz)) 0 0 (pA L sz) := by
  refine Met.ofW (cc := cX9_addField) (maxL := 5) (ret := none) (by decide) rfl ?_
  intro p e s m args below meth c s₁ B hml hv
  obtain ⟨rfl, hsz, hP, hK, hD0⟩ := hv
  have hx := B.exec
  have hb := B.bytes
  have hr := B.returns
  have hts := atoms_spec (ws := (.code yX9_addField cX9_addField 5 none :: lw_g)) B.pre
  have hown : s.vm.findClass RX9 = some m.cls := findClass_of_methodNamed B.named
  have hlocks := B.notSynchronized
  subst hsz
  have g : G3 (dC, dI) L kd tys s f0 [(9, 2), (9, 7)] [152, 153, 154, 155] f0 s.heap [] [(9, 7, a0_, .int y0_), (9, 2, a0_, .int y1_)] := G3.start hP hD0 hWT hfx
  have hl := lv_entry ([.ref a0_, .long x1_, .int x2_, .int x3_]) (n := 5) (Nat.le_of_ble_eq_true rfl)
  rw [lg_entry_eq]
  generalize (lg_sl ([.ref a0_, .long x1_, .int x2_, .int x3_]) ++ List.replicate (5 - (lg_sl ([.ref a0_, .long x1_, .int x2_, .int x3_])).length) Slot.unset).toArray = ls at hl ⊢
  have hl : lv_has ls 5 [(0, .ref a0_), (1, .long x1_), (3, .int x2_), (4, .int x3_)] := hl
  refine W_q (fun Q hQ => ?_)
  refine lv_aload_n hx hb dX9_addField_0 rfl (lv_at hl 0 rfl) ?_
  refine g_getk (C := RX9) (T := TX9) (N := 13) hx hb hts (mc_ inX9) hown hK g rfl 2 (by decide) rfl (hts _ (List.mem_cons_of_mem _ t_485)) (fun _ h9 => h9) 1 rfl dX9_addField_1 ?_
  refine lv_bipush (v := 10) hx hb dX9_addField_4 (by decide) ?_
  have kb_10 : bd 10 10 (10 : Int32) := ⟨by decide, by decide⟩
  refine lv_icmp_ge (tgt := 77) hx hb dX9_addField_6 (by decide) (fun c_1 => ?_) (fun c_1 => ?_)
  · have fc_1 := le_f c_1
    have b_2 : bd 10 9 (10 : Int32) := leL fc_1 kb_10 by1_ (by decide)
    exact bd_no (eqX rfl b_2 kb_10 (lo := 10) (hi := 9) (by decide)) (by decide)
  · have fc_1 := nle_f c_1
    refine lv_aload_n hx hb dX9_addField_9 rfl (lv_at hl 0 rfl) ?_
    refine g_getr (K := 152) (C := RX9) (T := TX9) (N := 13) hx hb hts (mc_ inX9) hown hK g ma0_ ka0_ (by decide) rfl 3 (by decide) rfl (hts _ (List.mem_cons_of_mem _ t_488)) (fun _ h9 => h9) rfl dX9_addField_10 (fun a_3 ma_3 ka_3 g => ?_)
    refine lv_aload_n hx hb dX9_addField_13 rfl (lv_at hl 0 rfl) ?_
    refine g_getk (C := RX9) (T := TX9) (N := 13) hx hb hts (mc_ inX9) hown hK g rfl 2 (by decide) rfl (hts _ (List.mem_cons_of_mem _ t_485)) (fun _ h9 => h9) 2 rfl dX9_addField_14 ?_
    refine lv_lload_n hx hb dX9_addField_17 rfl (lv_at hl 1 rfl) ?_
    refine g_last hx hb hK g ma_3 ka_3 (by decide) rfl (in_bd by1_ (by decide)) (by decide) dX9_addField_18 (fun f H locs hM_4 g => ?_)
    refine lv_aload_n hx hb dX9_addField_19 rfl (lv_at hl 0 rfl) ?_
    refine g_getr (K := 153) (C := RX9) (T := TX9) (N := 13) hx hb hts (mc_ inX9) hown hK g ma0_ ka0_ (by decide) rfl 4 (by decide) rfl (hts _ (List.mem_cons_of_mem _ t_489)) (fun _ h9 => h9) rfl dX9_addField_20 (fun a_5 ma_5 ka_5 g => ?_)
    refine lv_aload_n hx hb dX9_addField_23 rfl (lv_at hl 0 rfl) ?_
    refine g_getk (C := RX9) (T := TX9) (N := 13) hx hb hts (mc_ inX9) hown hK g rfl 2 (by decide) rfl (hts _ (List.mem_cons_of_mem _ t_485)) (fun _ h9 => h9) 3 rfl dX9_addField_24 ?_
    refine lv_aload_n hx hb dX9_addField_27 rfl (lv_at hl 0 rfl) ?_
    refine g_getk (C := RX9) (T := TX9) (N := 13) hx hb hts (mc_ inX9) hown hK g rfl 7 (by decide) rfl (hts _ (List.mem_cons_of_mem _ t_493)) (fun _ h9 => h9) 2 rfl dX9_addField_28 ?_
    refine g_iast hx hb hK g ma_5 ka_5 (by decide) rfl (in_bd by1_ (by decide)) (bd_sub by0_ (by decide)) (by decide) dX9_addField_31 (fun f H locs hM_6 g => ?_)
    refine lv_aload_n hx hb dX9_addField_32 rfl (lv_at hl 0 rfl) ?_
    refine g_getr (K := 154) (C := RX9) (T := TX9) (N := 13) hx hb hts (mc_ inX9) hown hK g ma0_ ka0_ (by decide) rfl 5 (by decide) rfl (hts _ (List.mem_cons_of_mem _ t_490)) (fun _ h9 => h9) rfl dX9_addField_33 (fun a_7 ma_7 ka_7 g => ?_)
    refine lv_aload_n hx hb dX9_addField_36 rfl (lv_at hl 0 rfl) ?_
    refine g_getk (C := RX9) (T := TX9) (N := 13) hx hb hts (mc_ inX9) hown hK g rfl 2 (by decide) rfl (hts _ (List.mem_cons_of_mem _ t_485)) (fun _ h9 => h9) 4 rfl dX9_addField_37 ?_
    refine lv_iload_n hx hb dX9_addField_40 rfl (lv_at hl 2 rfl) ?_
    refine g_iast hx hb hK g ma_7 ka_7 (by decide) rfl (in_bd by1_ (by decide)) (bd_sub bx2_ (by decide)) (by decide) dX9_addField_41 (fun f H locs hM_8 g => ?_)
    refine lv_aload_n hx hb dX9_addField_42 rfl (lv_at hl 0 rfl) ?_
    refine g_getr (K := 155) (C := RX9) (T := TX9) (N := 13) hx hb hts (mc_ inX9) hown hK g ma0_ ka0_ (by decide) rfl 6 (by decide) rfl (hts _ (List.mem_cons_of_mem _ t_492)) (fun _ h9 => h9) rfl dX9_addField_43 (fun a_9 ma_9 ka_9 g => ?_)
    refine lv_aload_n hx hb dX9_addField_46 rfl (lv_at hl 0 rfl) ?_
    refine g_getk (C := RX9) (T := TX9) (N := 13) hx hb hts (mc_ inX9) hown hK g rfl 2 (by decide) rfl (hts _ (List.mem_cons_of_mem _ t_485)) (fun _ h9 => h9) 5 rfl dX9_addField_47 ?_
    refine lv_iload hx hb dX9_addField_50 (lv_at hl 3 rfl) ?_
    refine g_iast hx hb hK g ma_9 ka_9 (by decide) rfl (in_bd by1_ (by decide)) (bdT x3_) (by decide) dX9_addField_52 (fun f H locs hM_10 g => ?_)
    refine lv_aload_n hx hb dX9_addField_53 rfl (lv_at hl 0 rfl) ?_
    refine lv_dup hx hb dX9_addField_54 rfl ?_
    refine g_getk (C := RX9) (T := TX9) (N := 13) hx hb hts (mc_ inX9) hown hK g rfl 7 (by decide) rfl (hts _ (List.mem_cons_of_mem _ t_493)) (fun _ h9 => h9) 4 rfl dX9_addField_55 ?_
    refine lv_iload_n hx hb dX9_addField_58 rfl (lv_at hl 2 rfl) ?_
    refine lv_iconst (v := 1) hx hb dX9_addField_59 (by decide) ?_
    have kb_1 : bd 1 1 (1 : Int32) := ⟨by decide, by decide⟩
    refine va_mmax hx hb (hml.trans hl.1.symm) hown (hts _ (List.mem_cons_of_mem _ t_1168)) (hts _ (List.mem_cons_of_mem _ t_1041)) (hts _ (List.mem_cons_of_mem _ t_204)) (hts _ (List.mem_cons_of_mem _ t_1042)) (Nat.le_of_ble_eq_true rfl) (Nat.le_of_ble_eq_true rfl) (Nat.le_of_ble_eq_true rfl) (Nat.le_of_ble_eq_true rfl) dX9_addField_60 ?_
    refine lv_topi (fun y_11 ey_11 => ?_)
    have ty_11 : y_11.toInt = max x2_.toInt (1 : Int32).toInt := by rw [ey_11]; exact mmax_ok _ _
    have b_12 : bd 1 1 y_11 := max_rg ty_11 bx2_ kb_1 (by decide)
    refine lv_iadd hx hb dX9_addField_63 ?_
    refine lv_topi (fun y_13 ey_13 => ?_)
    have ty_13 := add_bd ey_13 by0_ b_12 (by decide)
    have b_14 : bd 1 24 y_13 := add_rg ty_13 by0_ b_12 (by decide)
    refine g_put (C := RX9) (T := TX9) (N := 13) hx hb hts (mc_ inX9) tyX9 tyX9_ok nmX9 hown hK g ma0_ ka0_ (by decide) rfl 7 (by decide) (hts _ (List.mem_cons_of_mem _ t_493)) (fun _ h9 => h9) rfl rfl (okV_i (bd_sub b_14 (by decide))) rfl rfl (by decide) (Or.inr (Or.inl (by decide))) (fx' := [(9, 6, a0_, .ref a_9), (9, 5, a0_, .ref a_7), (9, 4, a0_, .ref a_5), (9, 3, a0_, .ref a_3), (9, 2, a0_, .int y1_)]) rfl dX9_addField_64 (fun f H locs hM_15 g => ?_)
    refine lv_aload_n hx hb dX9_addField_67 rfl (lv_at hl 0 rfl) ?_
    refine lv_dup hx hb dX9_addField_68 rfl ?_
    refine g_getk (C := RX9) (T := TX9) (N := 13) hx hb hts (mc_ inX9) hown hK g rfl 2 (by decide) rfl (hts _ (List.mem_cons_of_mem _ t_485)) (fun _ h9 => h9) 5 rfl dX9_addField_69 ?_
    refine lv_iconst (v := 1) hx hb dX9_addField_72 (by decide) ?_
    refine lv_iadd hx hb dX9_addField_73 ?_
    refine lv_topi (fun y_16 ey_16 => ?_)
    have ty_16 := add_bd ey_16 by1_ kb_1 (by decide)
    have b_17 : bd 1 10 y_16 := add_rg ty_16 by1_ kb_1 (by decide)
    refine g_put (C := RX9) (T := TX9) (N := 13) hx hb hts (mc_ inX9) tyX9 tyX9_ok nmX9 hown hK g ma0_ ka0_ (by decide) rfl 2 (by decide) (hts _ (List.mem_cons_of_mem _ t_485)) (fun _ h9 => h9) rfl rfl (okV_i (bd_sub b_17 (by decide))) rfl rfl (by decide) (Or.inr (Or.inl (by decide))) (fx' := [(9, 7, a0_, .int y_13), (9, 6, a0_, .ref a_9), (9, 5, a0_, .ref a_7), (9, 4, a0_, .ref a_5), (9, 3, a0_, .ref a_3)]) rfl dX9_addField_74 (fun f H locs hM_18 g => ?_)
    subst hQ
    exact W.vret hx hb hr (fun t ht hW => ⟨⟨_, rfl, ⟨y_16, b_17, y_13, b_14, (g.fcts [0, 1] rfl)⟩, q3_of g hK ht hW⟩, g.2.2.1.F ht⟩) g.2.2.1.2.2 dX9_addField_77
