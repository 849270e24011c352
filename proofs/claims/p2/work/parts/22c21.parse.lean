set_option maxHeartbeats 4000000 in
set_option maxRecDepth 100000 in
theorem r_X2_readMemberHead (l : Launch) (dC : Nat → ClassId) (dI : Nat → Nat → Nat) (L : List Nat) (kd : Nat → Nat) (tys : List (ClassId × FieldType)) (f0 : Nat → va_E) (sz : Nat) (hWT : WT L kd tys f0) (a0_ : Nat) (ma0_ : a0_ ∈ L) (ka0_ : kd a0_ = 2) (q0_ : Nat) (mq0_ : q0_ ∈ L) (kq0_ : kd q0_ = 8) (q1_ : Nat) (mq1_ : q1_ ∈ L) (kq1_ : kd q1_ = 5) (q2_ : Nat) (mq2_ : q2_ ∈ L) (kq2_ : kd q2_ = 7) (q3_ : Nat) (mq3_ : q3_ ∈ L) (kq3_ : kd q3_ = 9) (q4_ : Nat) (mq4_ : q4_ ∈ L) (kq4_ : kd q4_ = 6) (q5_ : Nat) (mq5_ : q5_ ∈ L) (kq5_ : kd q5_ = 9) (y0_ : Int32) (by0_ : bd 0 0 y0_) (hfx : Fs L kd f0 [(2, 0, a0_, .ref q0_), (2, 1, a0_, .ref q1_), (2, 3, a0_, .ref q2_), (2, 4, a0_, .ref q3_), (2, 5, a0_, .ref q4_), (5, 1, q1_, .ref q5_), (8, 8, q0_, .int y0_)]) : Met l yX2_readMemberHead (.code yX2_readMemberHead cX2_readMemberHead 8 none :: lw_g) ({ frames := 3, cells := 0, slots := 0, locals := 72 }) (va_Pc [.ref a0_] (P3 (dC, dI) L tys f0 sz)) (va_Qv (fun (f : Nat → va_E) => (∃ z0_ : Int32, bd 1 1201 z0_ ∧ ∃ z3_ : Int32, bd 1 12 z3_ ∧ ∃ z4_ : Nat, (z4_ ∈ L ∧ kd z4_ = 6) ∧ ∃ z5_ : Int32, bd 1 96 z5_ ∧ ∃ z6_ : Int32, bd 0 0 z6_ ∧ Fs L kd f [(8, 6, q0_, .int z0_), (8, 8, q0_, .int y0_), (2, 6, a0_, .int 0), (9, 8, q3_, .int z3_), (2, 5, a0_, .ref z4_), (7, 3, q2_, .int z5_), (6, 12, z4_, .int z6_)]) ∨ (∃ z0_ : Int32, bd 1201 1201 z0_ ∧ ∃ z1_ : Int32, bd 1 7 z1_ ∧ ∃ z2_ : Nat, (z2_ ∈ L ∧ kd z2_ = 6) ∧ Fs L kd f [(8, 6, q0_, .int z0_), (8, 8, q0_, .int z1_), (2, 5, a0_, .ref z2_)])) (Q3 (dC, dI) L kd tys [(2, 5), (2, 6), (5, 4), (6, 0), (6, 1), (6, 2), (6, 3), (6, 6), (6, 7), (6, 8), (6, 9), (6, 10), (6, 11), (6, 12), (7, 3), (8, 6), (8, 8), (8, 9), (9, 8)] [132, 134, 135, 156] f0 sz) (pA L sz)) 0 0 (pA L sz) := by
  refine Met.ofW (cc := cX2_readMemberHead) (maxL := 8) (ret := none) (by decide) rfl ?_
  intro p e s m args below meth c s₁ B hml hv
  obtain ⟨rfl, hsz, hP, hK, hD0⟩ := hv
  have hx := B.exec
  have hb := B.bytes
  have hr := B.returns
  have hts := atoms_spec (ws := (.code yX2_readMemberHead cX2_readMemberHead 8 none :: lw_g)) B.pre
  have hown : s.vm.findClass RX2 = some m.cls := findClass_of_methodNamed B.named
  have hlocks := B.notSynchronized
  subst hsz
  have g : G3 (dC, dI) L kd tys s f0 [(2, 5), (2, 6), (5, 4), (6, 0), (6, 1), (6, 2), (6, 3), (6, 6), (6, 7), (6, 8), (6, 9), (6, 10), (6, 11), (6, 12), (7, 3), (8, 6), (8, 8), (8, 9), (9, 8)] [132, 134, 135, 156] f0 s.heap [] [(2, 0, a0_, .ref q0_), (2, 1, a0_, .ref q1_), (2, 3, a0_, .ref q2_), (2, 4, a0_, .ref q3_), (2, 5, a0_, .ref q4_), (5, 1, q1_, .ref q5_), (8, 8, q0_, .int y0_)] := G3.start hP hD0 hWT hfx
  have hl := lv_entry ([.ref a0_]) (n := 8) (Nat.le_of_ble_eq_true rfl)
  rw [lg_entry_eq]
  generalize (lg_sl ([.ref a0_]) ++ List.replicate (8 - (lg_sl ([.ref a0_])).length) Slot.unset).toArray = ls at hl ⊢
  have hl : lv_has ls 8 [(0, .ref a0_)] := hl
  refine W_q (fun Q hQ => ?_)
  refine lv_aload_n hx hb dX2_readMemberHead_0 rfl (lv_at hl 0 rfl) ?_
  refine g_getk (C := RX2) (T := TX2) (N := 16) hx hb hts (mc_ inX2) hown hK g rfl 0 (by decide) rfl (hts _ (List.mem_cons_of_mem _ t_416)) (fun _ h9 => h9) 0 rfl dX2_readMemberHead_1 ?_
  refine g_callv (va_runV (As := []) (rest := []) ⟨hx, hb, hml, hown, hts⟩ (r_X8_next l dC dI L kd tys f0 s.heap.size g.2.2.2.1 q0_ mq0_ kq0_) (cwV 0 hts (gV_ t_1131 t_1103 t_1104 t_184 t_1105) rfl rfl rfl (by decide +kernel) ⟨(Nat.le_of_ble_eq_true rfl), (Nat.le_of_ble_eq_true rfl)⟩) (pre3V g hK mq0_ kq0_ (by decide) (q := (RX8, TX8, 10)) rfl) rfl rfl hl.1 rfl (lv_room (Nat.le_of_ble_eq_true rfl)) dX2_readMemberHead_4 ⟨(Nat.le_of_ble_eq_true rfl), (Nat.le_of_ble_eq_true rfl)⟩) g hK (by decide) (by decide) (fx' := [(2, 0, a0_, .ref q0_), (2, 1, a0_, .ref q1_), (2, 3, a0_, .ref q2_), (2, 4, a0_, .ref q3_), (2, 5, a0_, .ref q4_), (5, 1, q1_, .ref q5_), (8, 8, q0_, .int y0_)]) rfl (fun fr_1 H locs hp hMr_1 g => ?_)
  obtain ⟨x_2, h_3, hF_4⟩ := hp
  have g := g.more hF_4
  refine lv_aload_n hx hb dX2_readMemberHead_7 rfl (lv_at hl 0 rfl) ?_
  refine g_getk (C := RX2) (T := TX2) (N := 16) hx hb hts (mc_ inX2) hown hK g rfl 0 (by decide) rfl (hts _ (List.mem_cons_of_mem _ t_416)) (fun _ h9 => h9) 1 rfl dX2_readMemberHead_8 ?_
  refine g_calli (va_runV (As := []) (rest := []) ⟨hx, hb, hml, hown, hts⟩ (r_X8_place l dC dI L kd tys fr_1 H.size g.2.2.2.1 q0_ mq0_ kq0_) (cwV 0 hts (gV_ t_1110 t_1111 t_1112 t_184 t_1113) rfl rfl rfl (by decide +kernel) ⟨(Nat.le_of_ble_eq_true rfl), (Nat.le_of_ble_eq_true rfl)⟩) (pre3V g hK mq0_ kq0_ (by decide) (q := (RX8, TX8, 10)) rfl) rfl rfl hl.1 rfl (lv_room (Nat.le_of_ble_eq_true rfl)) dX2_readMemberHead_11 ⟨(Nat.le_of_ble_eq_true rfl), (Nat.le_of_ble_eq_true rfl)⟩) g hK (by decide) (by decide) (fx' := [(8, 6, q0_, .int x_2), (2, 0, a0_, .ref q0_), (2, 1, a0_, .ref q1_), (2, 3, a0_, .ref q2_), (2, 4, a0_, .ref q3_), (2, 5, a0_, .ref q4_), (5, 1, q1_, .ref q5_), (8, 8, q0_, .int y0_)]) rfl (fun r_5 fr_5 H locs hp hMr_5 g => ?_)
  refine lv_istore_n (lv' := [(1, .int r_5), (0, .ref a0_)]) hx hb dX2_readMemberHead_14 rfl hl (by decide) rfl (fun ls hl => ?_)
  refine lv_aload_n hx hb dX2_readMemberHead_15 rfl (lv_at hl 1 rfl) ?_
  refine g_getk (C := RX2) (T := TX2) (N := 16) hx hb hts (mc_ inX2) hown hK g rfl 0 (by decide) rfl (hts _ (List.mem_cons_of_mem _ t_416)) (fun _ h9 => h9) 1 rfl dX2_readMemberHead_16 ?_
  refine g_calll (va_runV (As := []) (rest := []) ⟨hx, hb, hml, hown, hts⟩ (r_X8_value l dC dI L kd tys fr_5 H.size g.2.2.2.1 q0_ mq0_ kq0_) (cwV 0 hts (gV_ t_1114 t_1115 t_1116 t_184 t_1117) rfl rfl rfl (by decide +kernel) ⟨(Nat.le_of_ble_eq_true rfl), (Nat.le_of_ble_eq_true rfl)⟩) (pre3V g hK mq0_ kq0_ (by decide) (q := (RX8, TX8, 10)) rfl) rfl rfl hl.1 rfl (lv_room (Nat.le_of_ble_eq_true rfl)) dX2_readMemberHead_19 ⟨(Nat.le_of_ble_eq_true rfl), (Nat.le_of_ble_eq_true rfl)⟩) g hK (by decide) (by decide) (fx' := [(8, 6, q0_, .int x_2), (2, 0, a0_, .ref q0_), (2, 1, a0_, .ref q1_), (2, 3, a0_, .ref q2_), (2, 4, a0_, .ref q3_), (2, 5, a0_, .ref q4_), (5, 1, q1_, .ref q5_), (8, 8, q0_, .int y0_)]) rfl (fun r_6 fr_6 H locs hp hMr_6 g => ?_)
  refine lv_lstore_n (lv' := [(2, .long r_6), (1, .int r_5), (0, .ref a0_)]) hx hb dX2_readMemberHead_22 rfl hl (by decide) rfl (fun ls hl => ?_)
  refine lv_aload_n hx hb dX2_readMemberHead_23 rfl (lv_at hl 2 rfl) ?_
  refine g_getk (C := RX2) (T := TX2) (N := 16) hx hb hts (mc_ inX2) hown hK g rfl 3 (by decide) rfl (hts _ (List.mem_cons_of_mem _ t_419)) (fun _ h9 => h9) 3 rfl dX2_readMemberHead_24 ?_
  refine lv_aload_n hx hb dX2_readMemberHead_27 rfl (lv_at hl 2 rfl) ?_
  refine g_getk (C := RX2) (T := TX2) (N := 16) hx hb hts (mc_ inX2) hown hK g rfl 4 (by decide) rfl (hts _ (List.mem_cons_of_mem _ t_420)) (fun _ h9 => h9) 4 rfl dX2_readMemberHead_28 ?_
  refine lv_lload_n hx hb dX2_readMemberHead_31 rfl (lv_at hl 0 rfl) ?_
  refine g_calli (va_runV (As := [.ref q3_, .long r_6]) (rest := []) ⟨hx, hb, hml, hown, hts⟩ (r_X7_memberNamed l dC dI L kd tys fr_6 H.size g.2.2.2.1 q2_ mq2_ kq2_ q3_ mq3_ kq3_ r_6) (cwV 2 hts (gV_ t_1306 t_1244 t_1245 t_191 t_1246) rfl rfl rfl (by decide +kernel) ⟨(Nat.le_of_ble_eq_true rfl), (Nat.le_of_ble_eq_true rfl)⟩) (pre3V g hK mq2_ kq2_ (by decide) (q := (RX7, TX7, 19)) rfl) rfl rfl hl.1 rfl (lv_room (Nat.le_of_ble_eq_true rfl)) dX2_readMemberHead_32 ⟨(Nat.le_of_ble_eq_true rfl), (Nat.le_of_ble_eq_true rfl)⟩) g hK (by decide) (by decide) (fx' := [(8, 6, q0_, .int x_2), (2, 0, a0_, .ref q0_), (2, 1, a0_, .ref q1_), (2, 3, a0_, .ref q2_), (2, 4, a0_, .ref q3_), (2, 5, a0_, .ref q4_), (5, 1, q1_, .ref q5_), (8, 8, q0_, .int y0_)]) rfl (fun r_7 fr_7 H locs hp hMr_7 g => ?_)
  obtain ⟨h_8, -⟩ := hp
  refine lv_istore (lv' := [(4, .int r_7), (2, .long r_6), (1, .int r_5), (0, .ref a0_)]) hx hb dX2_readMemberHead_35 hl (by decide) rfl (fun ls hl => ?_)
  refine lv_iload hx hb dX2_readMemberHead_37 (lv_at hl 0 rfl) ?_
  refine lv_iconst (v := (-1)) hx hb dX2_readMemberHead_39 (by decide) ?_
  have kb_m1 : bd (-1) (-1) ((-1) : Int32) := ⟨by decide, by decide⟩
  refine lv_icmp_ne (tgt := 47) hx hb dX2_readMemberHead_40 (by decide) (fun c_9 => ?_) (fun c_9 => ?_)
  · have fc_9 := neq_f c_9
    have b_10 : bd 0 11 r_7 := neX fc_9 h_8 kb_m1 (by decide)
    refine lv_aload_n hx hb dX2_readMemberHead_47 rfl (lv_at hl 3 rfl) ?_
    refine g_getk (C := RX2) (T := TX2) (N := 16) hx hb hts (mc_ inX2) hown hK g rfl 4 (by decide) rfl (hts _ (List.mem_cons_of_mem _ t_420)) (fun _ h9 => h9) 4 rfl dX2_readMemberHead_48 ?_
    refine g_getr (K := 156) (C := RX9) (T := TX9) (N := 13) hx hb hts (mc_ inX9) hown hK g mq3_ kq3_ (by decide) rfl 9 (by decide) rfl (hts _ (List.mem_cons_of_mem _ t_510)) (fun _ h9 => h9) rfl dX2_readMemberHead_51 (fun a_11 ma_11 ka_11 g => ?_)
    refine lv_iload hx hb dX2_readMemberHead_54 (lv_at hl 0 rfl) ?_
    refine g_iald hx hb hK g ma_11 ka_11 (by decide) rfl (in_bd b_10 (by decide)) dX2_readMemberHead_56 (fun x_12 bx_12 cx_12 => ?_)
    refine lv_istore (lv' := [(5, .int x_12), (4, .int r_7), (2, .long r_6), (1, .int r_5), (0, .ref a0_)]) hx hb dX2_readMemberHead_57 hl (by decide) rfl (fun ls hl => ?_)
    refine lv_aload_n hx hb dX2_readMemberHead_59 rfl (lv_at hl 4 rfl) ?_
    refine g_getk (C := RX2) (T := TX2) (N := 16) hx hb hts (mc_ inX2) hown hK g rfl 0 (by decide) rfl (hts _ (List.mem_cons_of_mem _ t_416)) (fun _ h9 => h9) 2 rfl dX2_readMemberHead_60 ?_
    refine g_calli (va_runV (As := []) (rest := []) ⟨hx, hb, hml, hown, hts⟩ (r_X8_kind l dC dI L kd tys fr_7 H.size g.2.2.2.1 q0_ mq0_ kq0_) (cwV 0 hts (gV_ t_1118 t_1119 t_1120 t_184 t_1121) rfl rfl rfl (by decide +kernel) ⟨(Nat.le_of_ble_eq_true rfl), (Nat.le_of_ble_eq_true rfl)⟩) (pre3V g hK mq0_ kq0_ (by decide) (q := (RX8, TX8, 10)) rfl) rfl rfl hl.1 rfl (lv_room (Nat.le_of_ble_eq_true rfl)) dX2_readMemberHead_63 ⟨(Nat.le_of_ble_eq_true rfl), (Nat.le_of_ble_eq_true rfl)⟩) g hK (by decide) (by decide) (fx' := [(9, 9, q3_, .ref a_11), (8, 6, q0_, .int x_2), (2, 0, a0_, .ref q0_), (2, 1, a0_, .ref q1_), (2, 3, a0_, .ref q2_), (2, 4, a0_, .ref q3_), (2, 5, a0_, .ref q4_), (5, 1, q1_, .ref q5_), (8, 8, q0_, .int y0_)]) rfl (fun r_13 fr_13 H locs hp hMr_13 g => ?_)
    refine lv_iconst (v := 3) hx hb dX2_readMemberHead_66 (by decide) ?_
    have kb_3 : bd 3 3 (3 : Int32) := ⟨by decide, by decide⟩
    refine lv_icmp_eq (tgt := 82) hx hb dX2_readMemberHead_67 (by decide) (fun c_14 => ?_) (fun c_14 => ?_)
    · have fc_14 := eq_f c_14
      have b_15 : bd 3 3 r_13 := eqX fc_14 (bdT r_13) kb_3 (by decide)
      refine lv_iload hx hb dX2_readMemberHead_82 (lv_at hl 0 rfl) ?_
      refine lv_iconst (v := (-1)) hx hb dX2_readMemberHead_84 (by decide) ?_
      refine lv_icmp_eq (tgt := 123) hx hb dX2_readMemberHead_85 (by decide) (fun c_16 => ?_) (fun c_16 => ?_)
      · have fc_16 := eq_f c_16
        have b_17 : bd 0 (-1) x_12 := eqX fc_16 bx_12 kb_m1 (by decide)
        exact bd_no b_17 (by decide)
      · have fc_16 := neq_f c_16
        refine lv_aload_n hx hb dX2_readMemberHead_88 rfl (lv_at hl 4 rfl) ?_
        refine g_getk (C := RX2) (T := TX2) (N := 16) hx hb hts (mc_ inX2) hown hK g rfl 3 (by decide) rfl (hts _ (List.mem_cons_of_mem _ t_419)) (fun _ h9 => h9) 4 rfl dX2_readMemberHead_89 ?_
        refine g_getr (K := 137) (C := RX7) (T := TX7) (N := 19) hx hb hts (mc_ inX7) hown hK g mq2_ kq2_ (by decide) rfl 2 (by decide) rfl (hts _ (List.mem_cons_of_mem _ t_630)) (fun _ h9 => h9) rfl dX2_readMemberHead_92 (fun a_18 ma_18 ka_18 g => ?_)
        refine lv_iload hx hb dX2_readMemberHead_95 (lv_at hl 0 rfl) ?_
        refine g_aald hx hb hK g ma_18 ka_18 (by decide) rfl (by decide) (in_bd bx_12 (by decide)) dX2_readMemberHead_97 (fun a_19 ma_19 ua_19 wa_19 => ?_)
        have ka_19 : kd a_19 = 6 := by omega
        refine g_geti (C := RX6) (T := TX6) (N := 13) hx hb hts (mc_ inX6) hown hK g ma_19 ka_19 (by decide) rfl 2 (by decide) rfl (hts _ (List.mem_cons_of_mem _ t_561)) (fun _ h9 => h9) rfl dX2_readMemberHead_98 (fun x_20 bx_20 g => ?_)
        refine lv_aload_n hx hb dX2_readMemberHead_101 rfl (lv_at hl 4 rfl) ?_
        refine g_getk (C := RX2) (T := TX2) (N := 16) hx hb hts (mc_ inX2) hown hK g rfl 1 (by decide) rfl (hts _ (List.mem_cons_of_mem _ t_417)) (fun _ h9 => h9) 5 rfl dX2_readMemberHead_102 ?_
        refine g_geti (C := RX5) (T := TX5) (N := 9) hx hb hts (mc_ inX5) hown hK g mq1_ kq1_ (by decide) rfl 2 (by decide) rfl (hts _ (List.mem_cons_of_mem _ t_333)) (fun _ h9 => h9) rfl dX2_readMemberHead_105 (fun x_21 bx_21 g => ?_)
        refine lv_icmp_ne (tgt := 123) hx hb dX2_readMemberHead_108 (by decide) (fun c_22 => ?_) (fun c_22 => ?_)
        · have fc_22 := neq_f c_22
          refine lv_iload hx hb dX2_readMemberHead_123 (lv_at hl 0 rfl) ?_
          refine lv_iconst (v := (-1)) hx hb dX2_readMemberHead_125 (by decide) ?_
          refine lv_icmp_ne (tgt := 153) hx hb dX2_readMemberHead_126 (by decide) (fun c_23 => ?_) (fun c_23 => ?_)
          · have fc_23 := neq_f c_23
            refine lv_aload_n hx hb dX2_readMemberHead_153 rfl (lv_at hl 4 rfl) ?_
            refine lv_lload_n hx hb dX2_readMemberHead_154 rfl (lv_at hl 2 rfl) ?_
            refine lv_iload_n hx hb dX2_readMemberHead_155 rfl (lv_at hl 3 rfl) ?_
            refine lv_iload hx hb dX2_readMemberHead_156 (lv_at hl 1 rfl) ?_
            refine g_callv (va_runV (As := [.long r_6, .int r_5, .int r_7]) (rest := []) ⟨hx, hb, hml, hown, hts⟩ (r_X2_beginTelling l dC dI L kd tys fr_13 H.size g.2.2.2.1 a0_ ma0_ ka0_ r_6 r_5 r_7 b_10 q0_ mq0_ kq0_ q2_ mq2_ kq2_ q3_ mq3_ kq3_ y0_ by0_ (g.fcts [5, 7, 8, 11] rfl)) (cwV 3 hts (gV_ t_1307 t_1309 t_33 t_183 t_1310) rfl rfl rfl (by decide +kernel) ⟨(Nat.le_of_ble_eq_true rfl), (Nat.le_of_ble_eq_true rfl)⟩) (pre3V g hK ma0_ ka0_ (by decide) (q := (RX2, TX2, 16)) rfl) rfl rfl hl.1 rfl (lv_room (Nat.le_of_ble_eq_true rfl)) dX2_readMemberHead_158 ⟨(Nat.le_of_ble_eq_true rfl), (Nat.le_of_ble_eq_true rfl)⟩) g hK (by decide) (by decide) (fx' := [(5, 2, q1_, .int x_21), (7, 2, q2_, .ref a_18), (9, 9, q3_, .ref a_11), (8, 6, q0_, .int x_2), (2, 0, a0_, .ref q0_), (2, 1, a0_, .ref q1_), (2, 3, a0_, .ref q2_), (2, 4, a0_, .ref q3_), (5, 1, q1_, .ref q5_), (8, 8, q0_, .int y0_)]) rfl (fun fr_24 H locs hp hMr_24 g => ?_)
            obtain ⟨x_25, h_26, a_27, ⟨ma_27, ka_27⟩, x_28, h_29, x_30, h_31, hF_32⟩ := hp
            have g := g.more hF_32
            refine lv_aload_n hx hb dX2_readMemberHead_161 rfl (lv_at hl 4 rfl) ?_
            refine g_getk (C := RX2) (T := TX2) (N := 16) hx hb hts (mc_ inX2) hown hK g rfl 0 (by decide) rfl (hts _ (List.mem_cons_of_mem _ t_416)) (fun _ h9 => h9) 9 rfl dX2_readMemberHead_162 ?_
            refine g_callv (va_runV (As := []) (rest := []) ⟨hx, hb, hml, hown, hts⟩ (r_X8_next l dC dI L kd tys fr_24 H.size g.2.2.2.1 q0_ mq0_ kq0_) (cwV 0 hts (gV_ t_1131 t_1103 t_1104 t_184 t_1105) rfl rfl rfl (by decide +kernel) ⟨(Nat.le_of_ble_eq_true rfl), (Nat.le_of_ble_eq_true rfl)⟩) (pre3V g hK mq0_ kq0_ (by decide) (q := (RX8, TX8, 10)) rfl) rfl rfl hl.1 rfl (lv_room (Nat.le_of_ble_eq_true rfl)) dX2_readMemberHead_165 ⟨(Nat.le_of_ble_eq_true rfl), (Nat.le_of_ble_eq_true rfl)⟩) g hK (by decide) (by decide) (fx' := [(2, 6, a0_, .int 0), (9, 8, q3_, .int x_25), (2, 5, a0_, .ref a_27), (7, 3, q2_, .int x_28), (6, 12, a_27, .int x_30), (5, 2, q1_, .int x_21), (7, 2, q2_, .ref a_18), (9, 9, q3_, .ref a_11), (2, 0, a0_, .ref q0_), (2, 1, a0_, .ref q1_), (2, 3, a0_, .ref q2_), (2, 4, a0_, .ref q3_), (5, 1, q1_, .ref q5_), (8, 8, q0_, .int y0_)]) rfl (fun fr_33 H locs hp hMr_33 g => ?_)
            obtain ⟨x_34, h_35, hF_36⟩ := hp
            have g := g.more hF_36
            refine lv_aload_n hx hb dX2_readMemberHead_168 rfl (lv_at hl 4 rfl) ?_
            refine g_getk (C := RX2) (T := TX2) (N := 16) hx hb hts (mc_ inX2) hown hK g rfl 0 (by decide) rfl (hts _ (List.mem_cons_of_mem _ t_416)) (fun _ h9 => h9) 9 rfl dX2_readMemberHead_169 ?_
            refine lv_bipush (v := 40) hx hb dX2_readMemberHead_172 (by decide) ?_
            refine g_callv (va_runV (As := [.int 40]) (rest := []) ⟨hx, hb, hml, hown, hts⟩ (r_X8_take l dC dI L kd tys fr_33 H.size g.2.2.2.1 q0_ mq0_ kq0_ 40 y0_ by0_ (g.fcts [14] rfl)) (cwV 1 hts (gV_ t_1098 t_1099 t_1100 t_184 t_1101) rfl rfl rfl (by decide +kernel) ⟨(Nat.le_of_ble_eq_true rfl), (Nat.le_of_ble_eq_true rfl)⟩) (pre3V g hK mq0_ kq0_ (by decide) (q := (RX8, TX8, 10)) rfl) rfl rfl hl.1 rfl (lv_room (Nat.le_of_ble_eq_true rfl)) dX2_readMemberHead_174 ⟨(Nat.le_of_ble_eq_true rfl), (Nat.le_of_ble_eq_true rfl)⟩) g hK (by decide) (by decide) (fx' := [(2, 6, a0_, .int 0), (9, 8, q3_, .int x_25), (2, 5, a0_, .ref a_27), (7, 3, q2_, .int x_28), (6, 12, a_27, .int x_30), (5, 2, q1_, .int x_21), (7, 2, q2_, .ref a_18), (9, 9, q3_, .ref a_11), (2, 0, a0_, .ref q0_), (2, 1, a0_, .ref q1_), (2, 3, a0_, .ref q2_), (2, 4, a0_, .ref q3_), (5, 1, q1_, .ref q5_)]) rfl (fun fr_37 H locs hp hMr_37 g => ?_)
            rcases hp with ⟨x_38, h_39, hF_40⟩ | ⟨x_41, h_42, hF_43⟩
            · have g := g.more hF_40
              refine lv_aload_n hx hb dX2_readMemberHead_177 rfl (lv_at hl 4 rfl) ?_
              refine g_getk (C := RX2) (T := TX2) (N := 16) hx hb hts (mc_ inX2) hown hK g rfl 0 (by decide) rfl (hts _ (List.mem_cons_of_mem _ t_416)) (fun _ h9 => h9) 10 rfl dX2_readMemberHead_178 ?_
              refine g_calli (va_runV (As := []) (rest := []) ⟨hx, hb, hml, hown, hts⟩ (r_X8_kind l dC dI L kd tys fr_37 H.size g.2.2.2.1 q0_ mq0_ kq0_) (cwV 0 hts (gV_ t_1118 t_1119 t_1120 t_184 t_1121) rfl rfl rfl (by decide +kernel) ⟨(Nat.le_of_ble_eq_true rfl), (Nat.le_of_ble_eq_true rfl)⟩) (pre3V g hK mq0_ kq0_ (by decide) (q := (RX8, TX8, 10)) rfl) rfl rfl hl.1 rfl (lv_room (Nat.le_of_ble_eq_true rfl)) dX2_readMemberHead_181 ⟨(Nat.le_of_ble_eq_true rfl), (Nat.le_of_ble_eq_true rfl)⟩) g hK (by decide) (by decide) (fx' := [(8, 6, q0_, .int x_38), (8, 8, q0_, .int y0_), (2, 6, a0_, .int 0), (9, 8, q3_, .int x_25), (2, 5, a0_, .ref a_27), (7, 3, q2_, .int x_28), (6, 12, a_27, .int x_30), (5, 2, q1_, .int x_21), (7, 2, q2_, .ref a_18), (9, 9, q3_, .ref a_11), (2, 0, a0_, .ref q0_), (2, 1, a0_, .ref q1_), (2, 3, a0_, .ref q2_), (2, 4, a0_, .ref q3_), (5, 1, q1_, .ref q5_)]) rfl (fun r_44 fr_44 H locs hp hMr_44 g => ?_)
              refine lv_bipush (v := 41) hx hb dX2_readMemberHead_184 (by decide) ?_
              have kb_41 : bd 41 41 (41 : Int32) := ⟨by decide, by decide⟩
              refine lv_icmp_eq (tgt := 193) hx hb dX2_readMemberHead_186 (by decide) (fun c_45 => ?_) (fun c_45 => ?_)
              · have fc_45 := eq_f c_45
                have b_46 : bd 41 41 r_44 := eqX fc_45 (bdT r_44) kb_41 (by decide)
                refine lv_iconst (v := 0) hx hb dX2_readMemberHead_193 (by decide) ?_
                refine lv_istore (lv' := [(6, .int 0), (5, .int x_12), (4, .int r_7), (2, .long r_6), (1, .int r_5), (0, .ref a0_)]) hx hb dX2_readMemberHead_194 hl (by decide) rfl (fun ls hl => ?_)
                refine lv_iconst (v := 0) hx hb dX2_readMemberHead_196 (by decide) ?_
                refine lv_istore (lv' := [(7, .int 0), (6, .int 0), (5, .int x_12), (4, .int r_7), (2, .long r_6), (1, .int r_5), (0, .ref a0_)]) hx hb dX2_readMemberHead_197 hl (by decide) rfl (fun ls hl => ?_)
                refine lv_iload hx hb dX2_readMemberHead_199 (lv_at hl 0 rfl) ?_
                refine lv_iconst (v := 3) hx hb dX2_readMemberHead_201 (by decide) ?_
                refine lv_icmp_gt (tgt := 251) hx hb dX2_readMemberHead_202 (by decide) (fun c_ => absurd c_ (by decide)) (fun c_ => ?_)
                refine lv_iload hx hb dX2_readMemberHead_205 (lv_at hl 1 rfl) ?_
                refine lv_if_eq (tgt := 251) hx hb dX2_readMemberHead_207 (by decide) (fun c_ => ?_) (fun c_ => absurd (by decide) c_)
                refine lv_aload_n hx hb dX2_readMemberHead_251 rfl (lv_at hl 6 rfl) ?_
                refine g_getk (C := RX2) (T := TX2) (N := 16) hx hb hts (mc_ inX2) hown hK g rfl 0 (by decide) rfl (hts _ (List.mem_cons_of_mem _ t_416)) (fun _ h9 => h9) 10 rfl dX2_readMemberHead_252 ?_
                refine g_calli (va_runV (As := []) (rest := []) ⟨hx, hb, hml, hown, hts⟩ (r_X8_place l dC dI L kd tys fr_44 H.size g.2.2.2.1 q0_ mq0_ kq0_) (cwV 0 hts (gV_ t_1110 t_1111 t_1112 t_184 t_1113) rfl rfl rfl (by decide +kernel) ⟨(Nat.le_of_ble_eq_true rfl), (Nat.le_of_ble_eq_true rfl)⟩) (pre3V g hK mq0_ kq0_ (by decide) (q := (RX8, TX8, 10)) rfl) rfl rfl hl.1 rfl (lv_room (Nat.le_of_ble_eq_true rfl)) dX2_readMemberHead_255 ⟨(Nat.le_of_ble_eq_true rfl), (Nat.le_of_ble_eq_true rfl)⟩) g hK (by decide) (by decide) (fx' := [(8, 6, q0_, .int x_38), (8, 8, q0_, .int y0_), (2, 6, a0_, .int 0), (9, 8, q3_, .int x_25), (2, 5, a0_, .ref a_27), (7, 3, q2_, .int x_28), (6, 12, a_27, .int x_30), (5, 2, q1_, .int x_21), (7, 2, q2_, .ref a_18), (9, 9, q3_, .ref a_11), (2, 0, a0_, .ref q0_), (2, 1, a0_, .ref q1_), (2, 3, a0_, .ref q2_), (2, 4, a0_, .ref q3_), (5, 1, q1_, .ref q5_)]) rfl (fun r_47 fr_47 H locs hp hMr_47 g => ?_)
                refine lv_istore (lv' := [(7, .int r_47), (6, .int 0), (5, .int x_12), (4, .int r_7), (2, .long r_6), (1, .int r_5), (0, .ref a0_)]) hx hb dX2_readMemberHead_258 hl (by decide) rfl (fun ls hl => ?_)
                refine lv_aload_n hx hb dX2_readMemberHead_260 rfl (lv_at hl 6 rfl) ?_
                refine g_getk (C := RX2) (T := TX2) (N := 16) hx hb hts (mc_ inX2) hown hK g rfl 0 (by decide) rfl (hts _ (List.mem_cons_of_mem _ t_416)) (fun _ h9 => h9) 10 rfl dX2_readMemberHead_261 ?_
                refine lv_bipush (v := 41) hx hb dX2_readMemberHead_264 (by decide) ?_
                refine g_callv (va_runV (As := [.int 41]) (rest := []) ⟨hx, hb, hml, hown, hts⟩ (r_X8_take l dC dI L kd tys fr_47 H.size g.2.2.2.1 q0_ mq0_ kq0_ 41 y0_ by0_ (g.fcts [1] rfl)) (cwV 1 hts (gV_ t_1098 t_1099 t_1100 t_184 t_1101) rfl rfl rfl (by decide +kernel) ⟨(Nat.le_of_ble_eq_true rfl), (Nat.le_of_ble_eq_true rfl)⟩) (pre3V g hK mq0_ kq0_ (by decide) (q := (RX8, TX8, 10)) rfl) rfl rfl hl.1 rfl (lv_room (Nat.le_of_ble_eq_true rfl)) dX2_readMemberHead_266 ⟨(Nat.le_of_ble_eq_true rfl), (Nat.le_of_ble_eq_true rfl)⟩) g hK (by decide) (by decide) (fx' := [(2, 6, a0_, .int 0), (9, 8, q3_, .int x_25), (2, 5, a0_, .ref a_27), (7, 3, q2_, .int x_28), (6, 12, a_27, .int x_30), (5, 2, q1_, .int x_21), (7, 2, q2_, .ref a_18), (9, 9, q3_, .ref a_11), (2, 0, a0_, .ref q0_), (2, 1, a0_, .ref q1_), (2, 3, a0_, .ref q2_), (2, 4, a0_, .ref q3_), (5, 1, q1_, .ref q5_)]) rfl (fun fr_48 H locs hp hMr_48 g => ?_)
                rcases hp with ⟨x_49, h_50, hF_51⟩ | ⟨x_52, h_53, hF_54⟩
                · have g := g.more hF_51
                  refine lv_iload hx hb dX2_readMemberHead_269 (lv_at hl 2 rfl) ?_
                  refine lv_iconst (v := (-1)) hx hb dX2_readMemberHead_271 (by decide) ?_
                  refine lv_icmp_eq (tgt := 308) hx hb dX2_readMemberHead_272 (by decide) (fun c_55 => ?_) (fun c_55 => ?_)
                  · have fc_55 := eq_f c_55
                    have b_56 : bd 0 (-1) x_12 := eqX fc_55 bx_12 kb_m1 (by decide)
                    exact bd_no b_56 (by decide)
                  · have fc_55 := neq_f c_55
                    refine lv_aload_n hx hb dX2_readMemberHead_275 rfl (lv_at hl 6 rfl) ?_
                    refine g_getk (C := RX2) (T := TX2) (N := 16) hx hb hts (mc_ inX2) hown hK g rfl 3 (by decide) rfl (hts _ (List.mem_cons_of_mem _ t_419)) (fun _ h9 => h9) 12 rfl dX2_readMemberHead_276 ?_
                    refine g_getk (C := RX7) (T := TX7) (N := 19) hx hb hts (mc_ inX7) hown hK g rfl 2 (by decide) rfl (hts _ (List.mem_cons_of_mem _ t_630)) (fun _ h9 => h9) 8 rfl dX2_readMemberHead_279 ?_
                    refine lv_iload hx hb dX2_readMemberHead_282 (lv_at hl 2 rfl) ?_
                    refine g_aald hx hb hK g ma_18 ka_18 (by decide) rfl (by decide) (in_bd bx_12 (by decide)) dX2_readMemberHead_284 (fun a_57 ma_57 ua_57 wa_57 => ?_)
                    have ka_57 : kd a_57 = 6 := by omega
                    refine g_geti (C := RX6) (T := TX6) (N := 13) hx hb hts (mc_ inX6) hown hK g ma_57 ka_57 (by decide) rfl 3 (by decide) rfl (hts _ (List.mem_cons_of_mem _ t_568)) (fun _ h9 => h9) rfl dX2_readMemberHead_285 (fun x_58 bx_58 g => ?_)
                    refine lv_aload_n hx hb dX2_readMemberHead_288 rfl (lv_at hl 6 rfl) ?_
                    refine g_getk (C := RX2) (T := TX2) (N := 16) hx hb hts (mc_ inX2) hown hK g rfl 5 (by decide) rfl (hts _ (List.mem_cons_of_mem _ t_421)) (fun _ h9 => h9) 5 rfl dX2_readMemberHead_289 ?_
                    refine g_geti (C := RX6) (T := TX6) (N := 13) hx hb hts (mc_ inX6) hown hK g ma_27 ka_27 (by decide) rfl 3 (by decide) rfl (hts _ (List.mem_cons_of_mem _ t_568)) (fun _ h9 => h9) rfl dX2_readMemberHead_292 (fun x_59 bx_59 g => ?_)
                    refine lv_icmp_eq (tgt := 308) hx hb dX2_readMemberHead_295 (by decide) (fun c_60 => ?_) (fun c_60 => ?_)
                    · have fc_60 := eq_f c_60
                      subst hQ
                      exact W.vret hx hb hr (fun t ht hW => ⟨⟨_, rfl, Or.inl ⟨x_49, h_50, x_25, h_26, a_27, ⟨ma_27, ka_27⟩, x_28, h_29, x_30, h_31, (g.fcts [2, 3, 4, 5, 6, 7, 8] rfl)⟩, q3_of g hK ht hW⟩, g.2.2.1.F ht⟩) g.2.2.1.2.2 dX2_readMemberHead_308
                    · have fc_60 := neq_f c_60
                      refine lv_aload_n hx hb dX2_readMemberHead_298 rfl (lv_at hl 6 rfl) ?_
                      refine g_getk (C := RX2) (T := TX2) (N := 16) hx hb hts (mc_ inX2) hown hK g rfl 0 (by decide) rfl (hts _ (List.mem_cons_of_mem _ t_416)) (fun _ h9 => h9) 12 rfl dX2_readMemberHead_299 ?_
                      refine lv_iconst (v := 5) hx hb dX2_readMemberHead_302 (by decide) ?_
                      refine lv_iload hx hb dX2_readMemberHead_303 (lv_at hl 0 rfl) ?_
                      have kb_5 : bd 5 5 (5 : Int32) := ⟨by decide, by decide⟩
                      refine g_callv (va_runV (As := [.int 5, .int r_47]) (rest := []) ⟨hx, hb, hml, hown, hts⟩ (r_X8_fail l dC dI L kd tys fr_48 H.size g.2.2.2.1 q0_ mq0_ kq0_ 5 (bd_sub kb_5 (by decide)) r_47 y0_ by0_ (g.fcts [3] rfl)) (cwV 2 hts (gV_ t_1122 t_1107 t_1108 t_184 t_1109) rfl rfl rfl (by decide +kernel) ⟨(Nat.le_of_ble_eq_true rfl), (Nat.le_of_ble_eq_true rfl)⟩) (pre3V g hK mq0_ kq0_ (by decide) (q := (RX8, TX8, 10)) rfl) rfl rfl hl.1 rfl (lv_room (Nat.le_of_ble_eq_true rfl)) dX2_readMemberHead_305 ⟨(Nat.le_of_ble_eq_true rfl), (Nat.le_of_ble_eq_true rfl)⟩) g hK (by decide) (by decide) (fx' := [(6, 3, a_27, .int x_59), (6, 3, a_57, .int x_58), (2, 6, a0_, .int 0), (9, 8, q3_, .int x_25), (2, 5, a0_, .ref a_27), (7, 3, q2_, .int x_28), (6, 12, a_27, .int x_30), (5, 2, q1_, .int x_21), (7, 2, q2_, .ref a_18), (9, 9, q3_, .ref a_11), (2, 0, a0_, .ref q0_), (2, 1, a0_, .ref q1_), (2, 3, a0_, .ref q2_), (2, 4, a0_, .ref q3_), (5, 1, q1_, .ref q5_)]) rfl (fun fr_61 H locs hp hMr_61 g => ?_)
                      obtain ⟨x_62, h_63, hF_64⟩ := hp
                      have g := g.more hF_64
                      have kb_1201 : bd 1201 1201 (1201 : Int32) := ⟨by decide, by decide⟩
                      subst hQ
                      exact W.vret hx hb hr (fun t ht hW => ⟨⟨_, rfl, Or.inr (⟨1201, kb_1201, x_62, h_63, a_27, ⟨ma_27, ka_27⟩, (g.fcts [0, 1, 6] rfl)⟩), q3_of g hK ht hW⟩, g.2.2.1.F ht⟩) g.2.2.1.2.2 dX2_readMemberHead_308
                · have g := g.more hF_54
                  refine lv_iload hx hb dX2_readMemberHead_269 (lv_at hl 2 rfl) ?_
                  refine lv_iconst (v := (-1)) hx hb dX2_readMemberHead_271 (by decide) ?_
                  refine lv_icmp_eq (tgt := 308) hx hb dX2_readMemberHead_272 (by decide) (fun c_65 => ?_) (fun c_65 => ?_)
                  · have fc_65 := eq_f c_65
                    have b_66 : bd 0 (-1) x_12 := eqX fc_65 bx_12 kb_m1 (by decide)
                    exact bd_no b_66 (by decide)
                  · have fc_65 := neq_f c_65
                    refine lv_aload_n hx hb dX2_readMemberHead_275 rfl (lv_at hl 6 rfl) ?_
                    refine g_getk (C := RX2) (T := TX2) (N := 16) hx hb hts (mc_ inX2) hown hK g rfl 3 (by decide) rfl (hts _ (List.mem_cons_of_mem _ t_419)) (fun _ h9 => h9) 12 rfl dX2_readMemberHead_276 ?_
                    refine g_getk (C := RX7) (T := TX7) (N := 19) hx hb hts (mc_ inX7) hown hK g rfl 2 (by decide) rfl (hts _ (List.mem_cons_of_mem _ t_630)) (fun _ h9 => h9) 8 rfl dX2_readMemberHead_279 ?_
                    refine lv_iload hx hb dX2_readMemberHead_282 (lv_at hl 2 rfl) ?_
                    refine g_aald hx hb hK g ma_18 ka_18 (by decide) rfl (by decide) (in_bd bx_12 (by decide)) dX2_readMemberHead_284 (fun a_67 ma_67 ua_67 wa_67 => ?_)
                    have ka_67 : kd a_67 = 6 := by omega
                    refine g_geti (C := RX6) (T := TX6) (N := 13) hx hb hts (mc_ inX6) hown hK g ma_67 ka_67 (by decide) rfl 3 (by decide) rfl (hts _ (List.mem_cons_of_mem _ t_568)) (fun _ h9 => h9) rfl dX2_readMemberHead_285 (fun x_68 bx_68 g => ?_)
                    refine lv_aload_n hx hb dX2_readMemberHead_288 rfl (lv_at hl 6 rfl) ?_
                    refine g_getk (C := RX2) (T := TX2) (N := 16) hx hb hts (mc_ inX2) hown hK g rfl 5 (by decide) rfl (hts _ (List.mem_cons_of_mem _ t_421)) (fun _ h9 => h9) 5 rfl dX2_readMemberHead_289 ?_
                    refine g_geti (C := RX6) (T := TX6) (N := 13) hx hb hts (mc_ inX6) hown hK g ma_27 ka_27 (by decide) rfl 3 (by decide) rfl (hts _ (List.mem_cons_of_mem _ t_568)) (fun _ h9 => h9) rfl dX2_readMemberHead_292 (fun x_69 bx_69 g => ?_)
                    refine lv_icmp_eq (tgt := 308) hx hb dX2_readMemberHead_295 (by decide) (fun c_70 => ?_) (fun c_70 => ?_)
                    · have fc_70 := eq_f c_70
                      have kb_1201 : bd 1201 1201 (1201 : Int32) := ⟨by decide, by decide⟩
                      subst hQ
                      exact W.vret hx hb hr (fun t ht hW => ⟨⟨_, rfl, Or.inr (⟨1201, kb_1201, x_52, h_53, a_27, ⟨ma_27, ka_27⟩, (g.fcts [2, 3, 6] rfl)⟩), q3_of g hK ht hW⟩, g.2.2.1.F ht⟩) g.2.2.1.2.2 dX2_readMemberHead_308
                    · have fc_70 := neq_f c_70
                      refine lv_aload_n hx hb dX2_readMemberHead_298 rfl (lv_at hl 6 rfl) ?_
                      refine g_getk (C := RX2) (T := TX2) (N := 16) hx hb hts (mc_ inX2) hown hK g rfl 0 (by decide) rfl (hts _ (List.mem_cons_of_mem _ t_416)) (fun _ h9 => h9) 12 rfl dX2_readMemberHead_299 ?_
                      refine lv_iconst (v := 5) hx hb dX2_readMemberHead_302 (by decide) ?_
                      refine lv_iload hx hb dX2_readMemberHead_303 (lv_at hl 0 rfl) ?_
                      have kb_5 : bd 5 5 (5 : Int32) := ⟨by decide, by decide⟩
                      refine g_callv (va_runV (As := [.int 5, .int r_47]) (rest := []) ⟨hx, hb, hml, hown, hts⟩ (r_X8_fail_2 l dC dI L kd tys fr_48 H.size g.2.2.2.1 q0_ mq0_ kq0_ 5 (bd_sub kb_5 (by decide)) r_47 x_52 h_53 (g.fcts [3] rfl)) (cwV 2 hts (gV_ t_1122 t_1107 t_1108 t_184 t_1109) rfl rfl rfl (by decide +kernel) ⟨(Nat.le_of_ble_eq_true rfl), (Nat.le_of_ble_eq_true rfl)⟩) (pre3V g hK mq0_ kq0_ (by decide) (q := (RX8, TX8, 10)) rfl) rfl rfl hl.1 rfl (lv_room (Nat.le_of_ble_eq_true rfl)) dX2_readMemberHead_305 ⟨(Nat.le_of_ble_eq_true rfl), (Nat.le_of_ble_eq_true rfl)⟩) g hK (by decide) (by decide) (fx' := [(6, 3, a_27, .int x_69), (6, 3, a_67, .int x_68), (8, 8, q0_, .int x_52), (2, 6, a0_, .int 0), (9, 8, q3_, .int x_25), (2, 5, a0_, .ref a_27), (7, 3, q2_, .int x_28), (6, 12, a_27, .int x_30), (5, 2, q1_, .int x_21), (7, 2, q2_, .ref a_18), (9, 9, q3_, .ref a_11), (2, 0, a0_, .ref q0_), (2, 1, a0_, .ref q1_), (2, 3, a0_, .ref q2_), (2, 4, a0_, .ref q3_), (5, 1, q1_, .ref q5_)]) rfl (fun fr_71 H locs hp hMr_71 g => ?_)
                      have hF_72 := hp
                      have g := g.more hF_72
                      have kb_1201 : bd 1201 1201 (1201 : Int32) := ⟨by decide, by decide⟩
                      subst hQ
                      exact W.vret hx hb hr (fun t ht hW => ⟨⟨_, rfl, Or.inr (⟨1201, kb_1201, x_52, h_53, a_27, ⟨ma_27, ka_27⟩, (g.fcts [0, 3, 6] rfl)⟩), q3_of g hK ht hW⟩, g.2.2.1.F ht⟩) g.2.2.1.2.2 dX2_readMemberHead_308
              · have fc_45 := neq_f c_45
                refine lv_iconst (v := 1) hx hb dX2_readMemberHead_189 (by decide) ?_
                refine lv_goto (tgt := 194) hx hb dX2_readMemberHead_190 (by decide) ?_
                refine lv_istore (lv' := [(6, .int 1), (5, .int x_12), (4, .int r_7), (2, .long r_6), (1, .int r_5), (0, .ref a0_)]) hx hb dX2_readMemberHead_194 hl (by decide) rfl (fun ls hl => ?_)
                refine lv_iconst (v := 0) hx hb dX2_readMemberHead_196 (by decide) ?_
                refine lv_istore (lv' := [(7, .int 0), (6, .int 1), (5, .int x_12), (4, .int r_7), (2, .long r_6), (1, .int r_5), (0, .ref a0_)]) hx hb dX2_readMemberHead_197 hl (by decide) rfl (fun ls hl => ?_)
                have loop_73 : ∀ (n : Nat) (v199_7 : Int32) (v199_6 : Int32) (w199_8_6_q0_ : Int32), bd 0 4 v199_7 → bd 0 1 v199_6 → bd 1 1201 w199_8_6_q0_ → (4 - v199_7.toInt < (n : Int)) → ∀ (f : Nat → va_E) (H : Heap) (locs : List Loc) (ls : Array Slot), G3 (dC, dI) L kd tys s f0 [(2, 5), (2, 6), (5, 4), (6, 0), (6, 1), (6, 2), (6, 3), (6, 6), (6, 7), (6, 8), (6, 9), (6, 10), (6, 11), (6, 12), (7, 3), (8, 6), (8, 8), (8, 9), (9, 8)] [132, 134, 135, 156] f H locs [(8, 6, q0_, .int w199_8_6_q0_), (8, 8, q0_, .int y0_), (2, 6, a0_, .int 0), (9, 8, q3_, .int x_25), (2, 5, a0_, .ref a_27), (7, 3, q2_, .int x_28), (6, 12, a_27, .int x_30), (5, 2, q1_, .int x_21), (7, 2, q2_, .ref a_18), (9, 9, q3_, .ref a_11), (2, 0, a0_, .ref q0_), (2, 1, a0_, .ref q1_), (2, 3, a0_, .ref q2_), (2, 4, a0_, .ref q3_), (5, 1, q1_, .ref q5_)] → lv_has ls 8 [(7, .int v199_7), (6, .int v199_6), (5, .int x_12), (4, .int r_7), (2, .long r_6), (1, .int r_5), (0, .ref a0_)] → W p l e ({ frames := 3, cells := 0, slots := 0, locals := 72 } : Room) s m [.ref a0_].toArray below meth c H locs 0 0 Q (F0 m 199 ls []) := by
                  intro n199
                  induction n199 with
                  | zero =>
                    intro v199_7 v199_6 w199_8_6_q0_ bv199_7 bv199_6 bw199_8_6_q0_ hm199 f H locs ls g  hl
                    exact absurd hm199 (by have h9_v199_7 := bv199_7; unfold bd at h9_v199_7; have h9_v199_6 := bv199_6; unfold bd at h9_v199_6; have h9_w199_8_6_q0_ := bw199_8_6_q0_; unfold bd at h9_w199_8_6_q0_; omega)
                  | succ n199 ih199 =>
                    intro v199_7 v199_6 w199_8_6_q0_ bv199_7 bv199_6 bw199_8_6_q0_ hm199 f H locs ls g  hl
                    refine lv_iload hx hb dX2_readMemberHead_199 (lv_at hl 0 rfl) ?_
                    refine lv_iconst (v := 3) hx hb dX2_readMemberHead_201 (by decide) ?_
                    refine lv_icmp_gt (tgt := 251) hx hb dX2_readMemberHead_202 (by decide) (fun c_74 => ?_) (fun c_74 => ?_)
                    · have fc_74 := lt_f c_74
                      have b_75 : bd 4 4 v199_7 := ltR fc_74 kb_3 bv199_7 (by decide)
                      refine lv_aload_n hx hb dX2_readMemberHead_251 rfl (lv_at hl 6 rfl) ?_
                      refine g_getk (C := RX2) (T := TX2) (N := 16) hx hb hts (mc_ inX2) hown hK g rfl 0 (by decide) rfl (hts _ (List.mem_cons_of_mem _ t_416)) (fun _ h9 => h9) 10 rfl dX2_readMemberHead_252 ?_
                      refine g_calli (va_runV (As := []) (rest := []) ⟨hx, hb, hml, hown, hts⟩ (r_X8_place l dC dI L kd tys f H.size g.2.2.2.1 q0_ mq0_ kq0_) (cwV 0 hts (gV_ t_1110 t_1111 t_1112 t_184 t_1113) rfl rfl rfl (by decide +kernel) ⟨(Nat.le_of_ble_eq_true rfl), (Nat.le_of_ble_eq_true rfl)⟩) (pre3V g hK mq0_ kq0_ (by decide) (q := (RX8, TX8, 10)) rfl) rfl rfl hl.1 rfl (lv_room (Nat.le_of_ble_eq_true rfl)) dX2_readMemberHead_255 ⟨(Nat.le_of_ble_eq_true rfl), (Nat.le_of_ble_eq_true rfl)⟩) g hK (by decide) (by decide) (fx' := [(8, 6, q0_, .int w199_8_6_q0_), (8, 8, q0_, .int y0_), (2, 6, a0_, .int 0), (9, 8, q3_, .int x_25), (2, 5, a0_, .ref a_27), (7, 3, q2_, .int x_28), (6, 12, a_27, .int x_30), (5, 2, q1_, .int x_21), (7, 2, q2_, .ref a_18), (9, 9, q3_, .ref a_11), (2, 0, a0_, .ref q0_), (2, 1, a0_, .ref q1_), (2, 3, a0_, .ref q2_), (2, 4, a0_, .ref q3_), (5, 1, q1_, .ref q5_)]) rfl (fun r_76 fr_76 H locs hp hMr_76 g => ?_)
                      refine lv_istore (lv' := [(7, .int r_76), (6, .int v199_6), (5, .int x_12), (4, .int r_7), (2, .long r_6), (1, .int r_5), (0, .ref a0_)]) hx hb dX2_readMemberHead_258 hl (by decide) rfl (fun ls hl => ?_)
                      refine lv_aload_n hx hb dX2_readMemberHead_260 rfl (lv_at hl 6 rfl) ?_
                      refine g_getk (C := RX2) (T := TX2) (N := 16) hx hb hts (mc_ inX2) hown hK g rfl 0 (by decide) rfl (hts _ (List.mem_cons_of_mem _ t_416)) (fun _ h9 => h9) 10 rfl dX2_readMemberHead_261 ?_
                      refine lv_bipush (v := 41) hx hb dX2_readMemberHead_264 (by decide) ?_
                      refine g_callv (va_runV (As := [.int 41]) (rest := []) ⟨hx, hb, hml, hown, hts⟩ (r_X8_take l dC dI L kd tys fr_76 H.size g.2.2.2.1 q0_ mq0_ kq0_ 41 y0_ by0_ (g.fcts [1] rfl)) (cwV 1 hts (gV_ t_1098 t_1099 t_1100 t_184 t_1101) rfl rfl rfl (by decide +kernel) ⟨(Nat.le_of_ble_eq_true rfl), (Nat.le_of_ble_eq_true rfl)⟩) (pre3V g hK mq0_ kq0_ (by decide) (q := (RX8, TX8, 10)) rfl) rfl rfl hl.1 rfl (lv_room (Nat.le_of_ble_eq_true rfl)) dX2_readMemberHead_266 ⟨(Nat.le_of_ble_eq_true rfl), (Nat.le_of_ble_eq_true rfl)⟩) g hK (by decide) (by decide) (fx' := [(2, 6, a0_, .int 0), (9, 8, q3_, .int x_25), (2, 5, a0_, .ref a_27), (7, 3, q2_, .int x_28), (6, 12, a_27, .int x_30), (5, 2, q1_, .int x_21), (7, 2, q2_, .ref a_18), (9, 9, q3_, .ref a_11), (2, 0, a0_, .ref q0_), (2, 1, a0_, .ref q1_), (2, 3, a0_, .ref q2_), (2, 4, a0_, .ref q3_), (5, 1, q1_, .ref q5_)]) rfl (fun fr_77 H locs hp hMr_77 g => ?_)
                      rcases hp with ⟨x_78, h_79, hF_80⟩ | ⟨x_81, h_82, hF_83⟩
                      · have g := g.more hF_80
                        refine lv_iload hx hb dX2_readMemberHead_269 (lv_at hl 2 rfl) ?_
                        refine lv_iconst (v := (-1)) hx hb dX2_readMemberHead_271 (by decide) ?_
                        refine lv_icmp_eq (tgt := 308) hx hb dX2_readMemberHead_272 (by decide) (fun c_84 => ?_) (fun c_84 => ?_)
                        · have fc_84 := eq_f c_84
                          have b_85 : bd 0 (-1) x_12 := eqX fc_84 bx_12 kb_m1 (by decide)
                          exact bd_no b_85 (by decide)
                        · have fc_84 := neq_f c_84
                          refine lv_aload_n hx hb dX2_readMemberHead_275 rfl (lv_at hl 6 rfl) ?_
                          refine g_getk (C := RX2) (T := TX2) (N := 16) hx hb hts (mc_ inX2) hown hK g rfl 3 (by decide) rfl (hts _ (List.mem_cons_of_mem _ t_419)) (fun _ h9 => h9) 12 rfl dX2_readMemberHead_276 ?_
                          refine g_getk (C := RX7) (T := TX7) (N := 19) hx hb hts (mc_ inX7) hown hK g rfl 2 (by decide) rfl (hts _ (List.mem_cons_of_mem _ t_630)) (fun _ h9 => h9) 8 rfl dX2_readMemberHead_279 ?_
                          refine lv_iload hx hb dX2_readMemberHead_282 (lv_at hl 2 rfl) ?_
                          refine g_aald hx hb hK g ma_18 ka_18 (by decide) rfl (by decide) (in_bd bx_12 (by decide)) dX2_readMemberHead_284 (fun a_86 ma_86 ua_86 wa_86 => ?_)
                          have ka_86 : kd a_86 = 6 := by omega
                          refine g_geti (C := RX6) (T := TX6) (N := 13) hx hb hts (mc_ inX6) hown hK g ma_86 ka_86 (by decide) rfl 3 (by decide) rfl (hts _ (List.mem_cons_of_mem _ t_568)) (fun _ h9 => h9) rfl dX2_readMemberHead_285 (fun x_87 bx_87 g => ?_)
                          refine lv_aload_n hx hb dX2_readMemberHead_288 rfl (lv_at hl 6 rfl) ?_
                          refine g_getk (C := RX2) (T := TX2) (N := 16) hx hb hts (mc_ inX2) hown hK g rfl 5 (by decide) rfl (hts _ (List.mem_cons_of_mem _ t_421)) (fun _ h9 => h9) 5 rfl dX2_readMemberHead_289 ?_
                          refine g_geti (C := RX6) (T := TX6) (N := 13) hx hb hts (mc_ inX6) hown hK g ma_27 ka_27 (by decide) rfl 3 (by decide) rfl (hts _ (List.mem_cons_of_mem _ t_568)) (fun _ h9 => h9) rfl dX2_readMemberHead_292 (fun x_88 bx_88 g => ?_)
                          refine lv_icmp_eq (tgt := 308) hx hb dX2_readMemberHead_295 (by decide) (fun c_89 => ?_) (fun c_89 => ?_)
                          · have fc_89 := eq_f c_89
                            subst hQ
                            exact W.vret hx hb hr (fun t ht hW => ⟨⟨_, rfl, Or.inl ⟨x_78, h_79, x_25, h_26, a_27, ⟨ma_27, ka_27⟩, x_28, h_29, x_30, h_31, (g.fcts [2, 3, 4, 5, 6, 7, 8] rfl)⟩, q3_of g hK ht hW⟩, g.2.2.1.F ht⟩) g.2.2.1.2.2 dX2_readMemberHead_308
                          · have fc_89 := neq_f c_89
                            refine lv_aload_n hx hb dX2_readMemberHead_298 rfl (lv_at hl 6 rfl) ?_
                            refine g_getk (C := RX2) (T := TX2) (N := 16) hx hb hts (mc_ inX2) hown hK g rfl 0 (by decide) rfl (hts _ (List.mem_cons_of_mem _ t_416)) (fun _ h9 => h9) 12 rfl dX2_readMemberHead_299 ?_
                            refine lv_iconst (v := 5) hx hb dX2_readMemberHead_302 (by decide) ?_
                            refine lv_iload hx hb dX2_readMemberHead_303 (lv_at hl 0 rfl) ?_
                            have kb_5 : bd 5 5 (5 : Int32) := ⟨by decide, by decide⟩
                            refine g_callv (va_runV (As := [.int 5, .int r_76]) (rest := []) ⟨hx, hb, hml, hown, hts⟩ (r_X8_fail l dC dI L kd tys fr_77 H.size g.2.2.2.1 q0_ mq0_ kq0_ 5 (bd_sub kb_5 (by decide)) r_76 y0_ by0_ (g.fcts [3] rfl)) (cwV 2 hts (gV_ t_1122 t_1107 t_1108 t_184 t_1109) rfl rfl rfl (by decide +kernel) ⟨(Nat.le_of_ble_eq_true rfl), (Nat.le_of_ble_eq_true rfl)⟩) (pre3V g hK mq0_ kq0_ (by decide) (q := (RX8, TX8, 10)) rfl) rfl rfl hl.1 rfl (lv_room (Nat.le_of_ble_eq_true rfl)) dX2_readMemberHead_305 ⟨(Nat.le_of_ble_eq_true rfl), (Nat.le_of_ble_eq_true rfl)⟩) g hK (by decide) (by decide) (fx' := [(6, 3, a_27, .int x_88), (6, 3, a_86, .int x_87), (2, 6, a0_, .int 0), (9, 8, q3_, .int x_25), (2, 5, a0_, .ref a_27), (7, 3, q2_, .int x_28), (6, 12, a_27, .int x_30), (5, 2, q1_, .int x_21), (7, 2, q2_, .ref a_18), (9, 9, q3_, .ref a_11), (2, 0, a0_, .ref q0_), (2, 1, a0_, .ref q1_), (2, 3, a0_, .ref q2_), (2, 4, a0_, .ref q3_), (5, 1, q1_, .ref q5_)]) rfl (fun fr_90 H locs hp hMr_90 g => ?_)
                            obtain ⟨x_91, h_92, hF_93⟩ := hp
                            have g := g.more hF_93
                            have kb_1201 : bd 1201 1201 (1201 : Int32) := ⟨by decide, by decide⟩
                            subst hQ
                            exact W.vret hx hb hr (fun t ht hW => ⟨⟨_, rfl, Or.inr (⟨1201, kb_1201, x_91, h_92, a_27, ⟨ma_27, ka_27⟩, (g.fcts [0, 1, 6] rfl)⟩), q3_of g hK ht hW⟩, g.2.2.1.F ht⟩) g.2.2.1.2.2 dX2_readMemberHead_308
                      · have g := g.more hF_83
                        refine lv_iload hx hb dX2_readMemberHead_269 (lv_at hl 2 rfl) ?_
                        refine lv_iconst (v := (-1)) hx hb dX2_readMemberHead_271 (by decide) ?_
                        refine lv_icmp_eq (tgt := 308) hx hb dX2_readMemberHead_272 (by decide) (fun c_94 => ?_) (fun c_94 => ?_)
                        · have fc_94 := eq_f c_94
                          have b_95 : bd 0 (-1) x_12 := eqX fc_94 bx_12 kb_m1 (by decide)
                          exact bd_no b_95 (by decide)
                        · have fc_94 := neq_f c_94
                          refine lv_aload_n hx hb dX2_readMemberHead_275 rfl (lv_at hl 6 rfl) ?_
                          refine g_getk (C := RX2) (T := TX2) (N := 16) hx hb hts (mc_ inX2) hown hK g rfl 3 (by decide) rfl (hts _ (List.mem_cons_of_mem _ t_419)) (fun _ h9 => h9) 12 rfl dX2_readMemberHead_276 ?_
                          refine g_getk (C := RX7) (T := TX7) (N := 19) hx hb hts (mc_ inX7) hown hK g rfl 2 (by decide) rfl (hts _ (List.mem_cons_of_mem _ t_630)) (fun _ h9 => h9) 8 rfl dX2_readMemberHead_279 ?_
                          refine lv_iload hx hb dX2_readMemberHead_282 (lv_at hl 2 rfl) ?_
                          refine g_aald hx hb hK g ma_18 ka_18 (by decide) rfl (by decide) (in_bd bx_12 (by decide)) dX2_readMemberHead_284 (fun a_96 ma_96 ua_96 wa_96 => ?_)
                          have ka_96 : kd a_96 = 6 := by omega
                          refine g_geti (C := RX6) (T := TX6) (N := 13) hx hb hts (mc_ inX6) hown hK g ma_96 ka_96 (by decide) rfl 3 (by decide) rfl (hts _ (List.mem_cons_of_mem _ t_568)) (fun _ h9 => h9) rfl dX2_readMemberHead_285 (fun x_97 bx_97 g => ?_)
                          refine lv_aload_n hx hb dX2_readMemberHead_288 rfl (lv_at hl 6 rfl) ?_
                          refine g_getk (C := RX2) (T := TX2) (N := 16) hx hb hts (mc_ inX2) hown hK g rfl 5 (by decide) rfl (hts _ (List.mem_cons_of_mem _ t_421)) (fun _ h9 => h9) 5 rfl dX2_readMemberHead_289 ?_
                          refine g_geti (C := RX6) (T := TX6) (N := 13) hx hb hts (mc_ inX6) hown hK g ma_27 ka_27 (by decide) rfl 3 (by decide) rfl (hts _ (List.mem_cons_of_mem _ t_568)) (fun _ h9 => h9) rfl dX2_readMemberHead_292 (fun x_98 bx_98 g => ?_)
                          refine lv_icmp_eq (tgt := 308) hx hb dX2_readMemberHead_295 (by decide) (fun c_99 => ?_) (fun c_99 => ?_)
                          · have fc_99 := eq_f c_99
                            have kb_1201 : bd 1201 1201 (1201 : Int32) := ⟨by decide, by decide⟩
                            subst hQ
                            exact W.vret hx hb hr (fun t ht hW => ⟨⟨_, rfl, Or.inr (⟨1201, kb_1201, x_81, h_82, a_27, ⟨ma_27, ka_27⟩, (g.fcts [2, 3, 6] rfl)⟩), q3_of g hK ht hW⟩, g.2.2.1.F ht⟩) g.2.2.1.2.2 dX2_readMemberHead_308
                          · have fc_99 := neq_f c_99
                            refine lv_aload_n hx hb dX2_readMemberHead_298 rfl (lv_at hl 6 rfl) ?_
                            refine g_getk (C := RX2) (T := TX2) (N := 16) hx hb hts (mc_ inX2) hown hK g rfl 0 (by decide) rfl (hts _ (List.mem_cons_of_mem _ t_416)) (fun _ h9 => h9) 12 rfl dX2_readMemberHead_299 ?_
                            refine lv_iconst (v := 5) hx hb dX2_readMemberHead_302 (by decide) ?_
                            refine lv_iload hx hb dX2_readMemberHead_303 (lv_at hl 0 rfl) ?_
                            have kb_5 : bd 5 5 (5 : Int32) := ⟨by decide, by decide⟩
                            refine g_callv (va_runV (As := [.int 5, .int r_76]) (rest := []) ⟨hx, hb, hml, hown, hts⟩ (r_X8_fail_2 l dC dI L kd tys fr_77 H.size g.2.2.2.1 q0_ mq0_ kq0_ 5 (bd_sub kb_5 (by decide)) r_76 x_81 h_82 (g.fcts [3] rfl)) (cwV 2 hts (gV_ t_1122 t_1107 t_1108 t_184 t_1109) rfl rfl rfl (by decide +kernel) ⟨(Nat.le_of_ble_eq_true rfl), (Nat.le_of_ble_eq_true rfl)⟩) (pre3V g hK mq0_ kq0_ (by decide) (q := (RX8, TX8, 10)) rfl) rfl rfl hl.1 rfl (lv_room (Nat.le_of_ble_eq_true rfl)) dX2_readMemberHead_305 ⟨(Nat.le_of_ble_eq_true rfl), (Nat.le_of_ble_eq_true rfl)⟩) g hK (by decide) (by decide) (fx' := [(6, 3, a_27, .int x_98), (6, 3, a_96, .int x_97), (8, 8, q0_, .int x_81), (2, 6, a0_, .int 0), (9, 8, q3_, .int x_25), (2, 5, a0_, .ref a_27), (7, 3, q2_, .int x_28), (6, 12, a_27, .int x_30), (5, 2, q1_, .int x_21), (7, 2, q2_, .ref a_18), (9, 9, q3_, .ref a_11), (2, 0, a0_, .ref q0_), (2, 1, a0_, .ref q1_), (2, 3, a0_, .ref q2_), (2, 4, a0_, .ref q3_), (5, 1, q1_, .ref q5_)]) rfl (fun fr_100 H locs hp hMr_100 g => ?_)
                            have hF_101 := hp
                            have g := g.more hF_101
                            have kb_1201 : bd 1201 1201 (1201 : Int32) := ⟨by decide, by decide⟩
                            subst hQ
                            exact W.vret hx hb hr (fun t ht hW => ⟨⟨_, rfl, Or.inr (⟨1201, kb_1201, x_81, h_82, a_27, ⟨ma_27, ka_27⟩, (g.fcts [0, 3, 6] rfl)⟩), q3_of g hK ht hW⟩, g.2.2.1.F ht⟩) g.2.2.1.2.2 dX2_readMemberHead_308
                    · have fc_74 := nlt_f c_74
                      have b_102 : bd 0 3 v199_7 := leL fc_74 bv199_7 kb_3 (by decide)
                      refine lv_iload hx hb dX2_readMemberHead_205 (lv_at hl 1 rfl) ?_
                      have kb_0 : bd 0 0 (0 : Int32) := ⟨by decide, by decide⟩
                      refine lv_if_eq (tgt := 251) hx hb dX2_readMemberHead_207 (by decide) (fun c_103 => ?_) (fun c_103 => ?_)
                      · have fc_103 := eq_f c_103
                        have b_104 : bd 0 0 v199_6 := eqX fc_103 bv199_6 kb_0 (by decide)
                        refine lv_aload_n hx hb dX2_readMemberHead_251 rfl (lv_at hl 6 rfl) ?_
                        refine g_getk (C := RX2) (T := TX2) (N := 16) hx hb hts (mc_ inX2) hown hK g rfl 0 (by decide) rfl (hts _ (List.mem_cons_of_mem _ t_416)) (fun _ h9 => h9) 10 rfl dX2_readMemberHead_252 ?_
                        refine g_calli (va_runV (As := []) (rest := []) ⟨hx, hb, hml, hown, hts⟩ (r_X8_place l dC dI L kd tys f H.size g.2.2.2.1 q0_ mq0_ kq0_) (cwV 0 hts (gV_ t_1110 t_1111 t_1112 t_184 t_1113) rfl rfl rfl (by decide +kernel) ⟨(Nat.le_of_ble_eq_true rfl), (Nat.le_of_ble_eq_true rfl)⟩) (pre3V g hK mq0_ kq0_ (by decide) (q := (RX8, TX8, 10)) rfl) rfl rfl hl.1 rfl (lv_room (Nat.le_of_ble_eq_true rfl)) dX2_readMemberHead_255 ⟨(Nat.le_of_ble_eq_true rfl), (Nat.le_of_ble_eq_true rfl)⟩) g hK (by decide) (by decide) (fx' := [(8, 6, q0_, .int w199_8_6_q0_), (8, 8, q0_, .int y0_), (2, 6, a0_, .int 0), (9, 8, q3_, .int x_25), (2, 5, a0_, .ref a_27), (7, 3, q2_, .int x_28), (6, 12, a_27, .int x_30), (5, 2, q1_, .int x_21), (7, 2, q2_, .ref a_18), (9, 9, q3_, .ref a_11), (2, 0, a0_, .ref q0_), (2, 1, a0_, .ref q1_), (2, 3, a0_, .ref q2_), (2, 4, a0_, .ref q3_), (5, 1, q1_, .ref q5_)]) rfl (fun r_105 fr_105 H locs hp hMr_105 g => ?_)
                        refine lv_istore (lv' := [(7, .int r_105), (6, .int v199_6), (5, .int x_12), (4, .int r_7), (2, .long r_6), (1, .int r_5), (0, .ref a0_)]) hx hb dX2_readMemberHead_258 hl (by decide) rfl (fun ls hl => ?_)
                        refine lv_aload_n hx hb dX2_readMemberHead_260 rfl (lv_at hl 6 rfl) ?_
                        refine g_getk (C := RX2) (T := TX2) (N := 16) hx hb hts (mc_ inX2) hown hK g rfl 0 (by decide) rfl (hts _ (List.mem_cons_of_mem _ t_416)) (fun _ h9 => h9) 10 rfl dX2_readMemberHead_261 ?_
                        refine lv_bipush (v := 41) hx hb dX2_readMemberHead_264 (by decide) ?_
                        refine g_callv (va_runV (As := [.int 41]) (rest := []) ⟨hx, hb, hml, hown, hts⟩ (r_X8_take l dC dI L kd tys fr_105 H.size g.2.2.2.1 q0_ mq0_ kq0_ 41 y0_ by0_ (g.fcts [1] rfl)) (cwV 1 hts (gV_ t_1098 t_1099 t_1100 t_184 t_1101) rfl rfl rfl (by decide +kernel) ⟨(Nat.le_of_ble_eq_true rfl), (Nat.le_of_ble_eq_true rfl)⟩) (pre3V g hK mq0_ kq0_ (by decide) (q := (RX8, TX8, 10)) rfl) rfl rfl hl.1 rfl (lv_room (Nat.le_of_ble_eq_true rfl)) dX2_readMemberHead_266 ⟨(Nat.le_of_ble_eq_true rfl), (Nat.le_of_ble_eq_true rfl)⟩) g hK (by decide) (by decide) (fx' := [(2, 6, a0_, .int 0), (9, 8, q3_, .int x_25), (2, 5, a0_, .ref a_27), (7, 3, q2_, .int x_28), (6, 12, a_27, .int x_30), (5, 2, q1_, .int x_21), (7, 2, q2_, .ref a_18), (9, 9, q3_, .ref a_11), (2, 0, a0_, .ref q0_), (2, 1, a0_, .ref q1_), (2, 3, a0_, .ref q2_), (2, 4, a0_, .ref q3_), (5, 1, q1_, .ref q5_)]) rfl (fun fr_106 H locs hp hMr_106 g => ?_)
                        rcases hp with ⟨x_107, h_108, hF_109⟩ | ⟨x_110, h_111, hF_112⟩
                        · have g := g.more hF_109
                          refine lv_iload hx hb dX2_readMemberHead_269 (lv_at hl 2 rfl) ?_
                          refine lv_iconst (v := (-1)) hx hb dX2_readMemberHead_271 (by decide) ?_
                          refine lv_icmp_eq (tgt := 308) hx hb dX2_readMemberHead_272 (by decide) (fun c_113 => ?_) (fun c_113 => ?_)
                          · have fc_113 := eq_f c_113
                            have b_114 : bd 0 (-1) x_12 := eqX fc_113 bx_12 kb_m1 (by decide)
                            exact bd_no b_114 (by decide)
                          · have fc_113 := neq_f c_113
                            refine lv_aload_n hx hb dX2_readMemberHead_275 rfl (lv_at hl 6 rfl) ?_
                            refine g_getk (C := RX2) (T := TX2) (N := 16) hx hb hts (mc_ inX2) hown hK g rfl 3 (by decide) rfl (hts _ (List.mem_cons_of_mem _ t_419)) (fun _ h9 => h9) 12 rfl dX2_readMemberHead_276 ?_
                            refine g_getk (C := RX7) (T := TX7) (N := 19) hx hb hts (mc_ inX7) hown hK g rfl 2 (by decide) rfl (hts _ (List.mem_cons_of_mem _ t_630)) (fun _ h9 => h9) 8 rfl dX2_readMemberHead_279 ?_
                            refine lv_iload hx hb dX2_readMemberHead_282 (lv_at hl 2 rfl) ?_
                            refine g_aald hx hb hK g ma_18 ka_18 (by decide) rfl (by decide) (in_bd bx_12 (by decide)) dX2_readMemberHead_284 (fun a_115 ma_115 ua_115 wa_115 => ?_)
                            have ka_115 : kd a_115 = 6 := by omega
                            refine g_geti (C := RX6) (T := TX6) (N := 13) hx hb hts (mc_ inX6) hown hK g ma_115 ka_115 (by decide) rfl 3 (by decide) rfl (hts _ (List.mem_cons_of_mem _ t_568)) (fun _ h9 => h9) rfl dX2_readMemberHead_285 (fun x_116 bx_116 g => ?_)
                            refine lv_aload_n hx hb dX2_readMemberHead_288 rfl (lv_at hl 6 rfl) ?_
                            refine g_getk (C := RX2) (T := TX2) (N := 16) hx hb hts (mc_ inX2) hown hK g rfl 5 (by decide) rfl (hts _ (List.mem_cons_of_mem _ t_421)) (fun _ h9 => h9) 5 rfl dX2_readMemberHead_289 ?_
                            refine g_geti (C := RX6) (T := TX6) (N := 13) hx hb hts (mc_ inX6) hown hK g ma_27 ka_27 (by decide) rfl 3 (by decide) rfl (hts _ (List.mem_cons_of_mem _ t_568)) (fun _ h9 => h9) rfl dX2_readMemberHead_292 (fun x_117 bx_117 g => ?_)
                            refine lv_icmp_eq (tgt := 308) hx hb dX2_readMemberHead_295 (by decide) (fun c_118 => ?_) (fun c_118 => ?_)
                            · have fc_118 := eq_f c_118
                              subst hQ
                              exact W.vret hx hb hr (fun t ht hW => ⟨⟨_, rfl, Or.inl ⟨x_107, h_108, x_25, h_26, a_27, ⟨ma_27, ka_27⟩, x_28, h_29, x_30, h_31, (g.fcts [2, 3, 4, 5, 6, 7, 8] rfl)⟩, q3_of g hK ht hW⟩, g.2.2.1.F ht⟩) g.2.2.1.2.2 dX2_readMemberHead_308
                            · have fc_118 := neq_f c_118
                              refine lv_aload_n hx hb dX2_readMemberHead_298 rfl (lv_at hl 6 rfl) ?_
                              refine g_getk (C := RX2) (T := TX2) (N := 16) hx hb hts (mc_ inX2) hown hK g rfl 0 (by decide) rfl (hts _ (List.mem_cons_of_mem _ t_416)) (fun _ h9 => h9) 12 rfl dX2_readMemberHead_299 ?_
                              refine lv_iconst (v := 5) hx hb dX2_readMemberHead_302 (by decide) ?_
                              refine lv_iload hx hb dX2_readMemberHead_303 (lv_at hl 0 rfl) ?_
                              have kb_5 : bd 5 5 (5 : Int32) := ⟨by decide, by decide⟩
                              refine g_callv (va_runV (As := [.int 5, .int r_105]) (rest := []) ⟨hx, hb, hml, hown, hts⟩ (r_X8_fail l dC dI L kd tys fr_106 H.size g.2.2.2.1 q0_ mq0_ kq0_ 5 (bd_sub kb_5 (by decide)) r_105 y0_ by0_ (g.fcts [3] rfl)) (cwV 2 hts (gV_ t_1122 t_1107 t_1108 t_184 t_1109) rfl rfl rfl (by decide +kernel) ⟨(Nat.le_of_ble_eq_true rfl), (Nat.le_of_ble_eq_true rfl)⟩) (pre3V g hK mq0_ kq0_ (by decide) (q := (RX8, TX8, 10)) rfl) rfl rfl hl.1 rfl (lv_room (Nat.le_of_ble_eq_true rfl)) dX2_readMemberHead_305 ⟨(Nat.le_of_ble_eq_true rfl), (Nat.le_of_ble_eq_true rfl)⟩) g hK (by decide) (by decide) (fx' := [(6, 3, a_27, .int x_117), (6, 3, a_115, .int x_116), (2, 6, a0_, .int 0), (9, 8, q3_, .int x_25), (2, 5, a0_, .ref a_27), (7, 3, q2_, .int x_28), (6, 12, a_27, .int x_30), (5, 2, q1_, .int x_21), (7, 2, q2_, .ref a_18), (9, 9, q3_, .ref a_11), (2, 0, a0_, .ref q0_), (2, 1, a0_, .ref q1_), (2, 3, a0_, .ref q2_), (2, 4, a0_, .ref q3_), (5, 1, q1_, .ref q5_)]) rfl (fun fr_119 H locs hp hMr_119 g => ?_)
                              obtain ⟨x_120, h_121, hF_122⟩ := hp
                              have g := g.more hF_122
                              have kb_1201 : bd 1201 1201 (1201 : Int32) := ⟨by decide, by decide⟩
                              subst hQ
                              exact W.vret hx hb hr (fun t ht hW => ⟨⟨_, rfl, Or.inr (⟨1201, kb_1201, x_120, h_121, a_27, ⟨ma_27, ka_27⟩, (g.fcts [0, 1, 6] rfl)⟩), q3_of g hK ht hW⟩, g.2.2.1.F ht⟩) g.2.2.1.2.2 dX2_readMemberHead_308
                        · have g := g.more hF_112
                          refine lv_iload hx hb dX2_readMemberHead_269 (lv_at hl 2 rfl) ?_
                          refine lv_iconst (v := (-1)) hx hb dX2_readMemberHead_271 (by decide) ?_
                          refine lv_icmp_eq (tgt := 308) hx hb dX2_readMemberHead_272 (by decide) (fun c_123 => ?_) (fun c_123 => ?_)
                          · have fc_123 := eq_f c_123
                            have b_124 : bd 0 (-1) x_12 := eqX fc_123 bx_12 kb_m1 (by decide)
                            exact bd_no b_124 (by decide)
                          · have fc_123 := neq_f c_123
                            refine lv_aload_n hx hb dX2_readMemberHead_275 rfl (lv_at hl 6 rfl) ?_
                            refine g_getk (C := RX2) (T := TX2) (N := 16) hx hb hts (mc_ inX2) hown hK g rfl 3 (by decide) rfl (hts _ (List.mem_cons_of_mem _ t_419)) (fun _ h9 => h9) 12 rfl dX2_readMemberHead_276 ?_
                            refine g_getk (C := RX7) (T := TX7) (N := 19) hx hb hts (mc_ inX7) hown hK g rfl 2 (by decide) rfl (hts _ (List.mem_cons_of_mem _ t_630)) (fun _ h9 => h9) 8 rfl dX2_readMemberHead_279 ?_
                            refine lv_iload hx hb dX2_readMemberHead_282 (lv_at hl 2 rfl) ?_
                            refine g_aald hx hb hK g ma_18 ka_18 (by decide) rfl (by decide) (in_bd bx_12 (by decide)) dX2_readMemberHead_284 (fun a_125 ma_125 ua_125 wa_125 => ?_)
                            have ka_125 : kd a_125 = 6 := by omega
                            refine g_geti (C := RX6) (T := TX6) (N := 13) hx hb hts (mc_ inX6) hown hK g ma_125 ka_125 (by decide) rfl 3 (by decide) rfl (hts _ (List.mem_cons_of_mem _ t_568)) (fun _ h9 => h9) rfl dX2_readMemberHead_285 (fun x_126 bx_126 g => ?_)
                            refine lv_aload_n hx hb dX2_readMemberHead_288 rfl (lv_at hl 6 rfl) ?_
                            refine g_getk (C := RX2) (T := TX2) (N := 16) hx hb hts (mc_ inX2) hown hK g rfl 5 (by decide) rfl (hts _ (List.mem_cons_of_mem _ t_421)) (fun _ h9 => h9) 5 rfl dX2_readMemberHead_289 ?_
                            refine g_geti (C := RX6) (T := TX6) (N := 13) hx hb hts (mc_ inX6) hown hK g ma_27 ka_27 (by decide) rfl 3 (by decide) rfl (hts _ (List.mem_cons_of_mem _ t_568)) (fun _ h9 => h9) rfl dX2_readMemberHead_292 (fun x_127 bx_127 g => ?_)
                            refine lv_icmp_eq (tgt := 308) hx hb dX2_readMemberHead_295 (by decide) (fun c_128 => ?_) (fun c_128 => ?_)
                            · have fc_128 := eq_f c_128
                              have kb_1201 : bd 1201 1201 (1201 : Int32) := ⟨by decide, by decide⟩
                              subst hQ
                              exact W.vret hx hb hr (fun t ht hW => ⟨⟨_, rfl, Or.inr (⟨1201, kb_1201, x_110, h_111, a_27, ⟨ma_27, ka_27⟩, (g.fcts [2, 3, 6] rfl)⟩), q3_of g hK ht hW⟩, g.2.2.1.F ht⟩) g.2.2.1.2.2 dX2_readMemberHead_308
                            · have fc_128 := neq_f c_128
                              refine lv_aload_n hx hb dX2_readMemberHead_298 rfl (lv_at hl 6 rfl) ?_
                              refine g_getk (C := RX2) (T := TX2) (N := 16) hx hb hts (mc_ inX2) hown hK g rfl 0 (by decide) rfl (hts _ (List.mem_cons_of_mem _ t_416)) (fun _ h9 => h9) 12 rfl dX2_readMemberHead_299 ?_
                              refine lv_iconst (v := 5) hx hb dX2_readMemberHead_302 (by decide) ?_
                              refine lv_iload hx hb dX2_readMemberHead_303 (lv_at hl 0 rfl) ?_
                              have kb_5 : bd 5 5 (5 : Int32) := ⟨by decide, by decide⟩
                              refine g_callv (va_runV (As := [.int 5, .int r_105]) (rest := []) ⟨hx, hb, hml, hown, hts⟩ (r_X8_fail_2 l dC dI L kd tys fr_106 H.size g.2.2.2.1 q0_ mq0_ kq0_ 5 (bd_sub kb_5 (by decide)) r_105 x_110 h_111 (g.fcts [3] rfl)) (cwV 2 hts (gV_ t_1122 t_1107 t_1108 t_184 t_1109) rfl rfl rfl (by decide +kernel) ⟨(Nat.le_of_ble_eq_true rfl), (Nat.le_of_ble_eq_true rfl)⟩) (pre3V g hK mq0_ kq0_ (by decide) (q := (RX8, TX8, 10)) rfl) rfl rfl hl.1 rfl (lv_room (Nat.le_of_ble_eq_true rfl)) dX2_readMemberHead_305 ⟨(Nat.le_of_ble_eq_true rfl), (Nat.le_of_ble_eq_true rfl)⟩) g hK (by decide) (by decide) (fx' := [(6, 3, a_27, .int x_127), (6, 3, a_125, .int x_126), (8, 8, q0_, .int x_110), (2, 6, a0_, .int 0), (9, 8, q3_, .int x_25), (2, 5, a0_, .ref a_27), (7, 3, q2_, .int x_28), (6, 12, a_27, .int x_30), (5, 2, q1_, .int x_21), (7, 2, q2_, .ref a_18), (9, 9, q3_, .ref a_11), (2, 0, a0_, .ref q0_), (2, 1, a0_, .ref q1_), (2, 3, a0_, .ref q2_), (2, 4, a0_, .ref q3_), (5, 1, q1_, .ref q5_)]) rfl (fun fr_129 H locs hp hMr_129 g => ?_)
                              have hF_130 := hp
                              have g := g.more hF_130
                              have kb_1201 : bd 1201 1201 (1201 : Int32) := ⟨by decide, by decide⟩
                              subst hQ
                              exact W.vret hx hb hr (fun t ht hW => ⟨⟨_, rfl, Or.inr (⟨1201, kb_1201, x_110, h_111, a_27, ⟨ma_27, ka_27⟩, (g.fcts [0, 3, 6] rfl)⟩), q3_of g hK ht hW⟩, g.2.2.1.F ht⟩) g.2.2.1.2.2 dX2_readMemberHead_308
                      · have fc_103 := neq_f c_103
                        have b_131 : bd 1 1 v199_6 := neX fc_103 bv199_6 kb_0 (by decide)
                        refine lv_aload_n hx hb dX2_readMemberHead_210 rfl (lv_at hl 6 rfl) ?_
                        refine g_callv (va_runV (As := []) (rest := []) ⟨hx, hb, hml, hown, hts⟩ (r_X2_readParam l dC dI L kd tys f H.size g.2.2.2.1 a0_ ma0_ ka0_ q0_ mq0_ kq0_ q1_ mq1_ kq1_ a_27 ma_27 ka_27 q5_ mq5_ kq5_ y0_ by0_ (g.fcts [10, 11, 4, 14, 1] rfl)) (cwV 0 hts (gV_ t_1313 t_1315 t_34 t_183 t_1316) rfl rfl rfl (by decide +kernel) ⟨(Nat.le_of_ble_eq_true rfl), (Nat.le_of_ble_eq_true rfl)⟩) (pre3V g hK ma0_ ka0_ (by decide) (q := (RX2, TX2, 16)) rfl) rfl rfl hl.1 rfl (lv_room (Nat.le_of_ble_eq_true rfl)) dX2_readMemberHead_211 ⟨(Nat.le_of_ble_eq_true rfl), (Nat.le_of_ble_eq_true rfl)⟩) g hK (by decide) (by decide) (fx' := [(2, 6, a0_, .int 0), (9, 8, q3_, .int x_25), (2, 5, a0_, .ref a_27), (7, 3, q2_, .int x_28), (6, 12, a_27, .int x_30), (5, 2, q1_, .int x_21), (7, 2, q2_, .ref a_18), (9, 9, q3_, .ref a_11), (2, 0, a0_, .ref q0_), (2, 1, a0_, .ref q1_), (2, 3, a0_, .ref q2_), (2, 4, a0_, .ref q3_), (5, 1, q1_, .ref q5_)]) rfl (fun fr_132 H locs hp hMr_132 g => ?_)
                        rcases hp with ⟨x_133, h_134, x_135, h_136, x_137, h_138, hF_139⟩ | ⟨x_140, h_141, hF_142⟩
                        · have g := g.more hF_139
                          refine lv_aload_n hx hb dX2_readMemberHead_214 rfl (lv_at hl 6 rfl) ?_
                          refine g_getk (C := RX2) (T := TX2) (N := 16) hx hb hts (mc_ inX2) hown hK g rfl 0 (by decide) rfl (hts _ (List.mem_cons_of_mem _ t_416)) (fun _ h9 => h9) 12 rfl dX2_readMemberHead_215 ?_
                          refine g_calli (va_runV (As := []) (rest := []) ⟨hx, hb, hml, hown, hts⟩ (r_X8_kind l dC dI L kd tys fr_132 H.size g.2.2.2.1 q0_ mq0_ kq0_) (cwV 0 hts (gV_ t_1118 t_1119 t_1120 t_184 t_1121) rfl rfl rfl (by decide +kernel) ⟨(Nat.le_of_ble_eq_true rfl), (Nat.le_of_ble_eq_true rfl)⟩) (pre3V g hK mq0_ kq0_ (by decide) (q := (RX8, TX8, 10)) rfl) rfl rfl hl.1 rfl (lv_room (Nat.le_of_ble_eq_true rfl)) dX2_readMemberHead_218 ⟨(Nat.le_of_ble_eq_true rfl), (Nat.le_of_ble_eq_true rfl)⟩) g hK (by decide) (by decide) (fx' := [(6, 3, a_27, .int x_133), (5, 4, q1_, .int x_135), (8, 6, q0_, .int x_137), (8, 8, q0_, .int y0_), (2, 6, a0_, .int 0), (9, 8, q3_, .int x_25), (2, 5, a0_, .ref a_27), (7, 3, q2_, .int x_28), (6, 12, a_27, .int x_30), (5, 2, q1_, .int x_21), (7, 2, q2_, .ref a_18), (9, 9, q3_, .ref a_11), (2, 0, a0_, .ref q0_), (2, 1, a0_, .ref q1_), (2, 3, a0_, .ref q2_), (2, 4, a0_, .ref q3_), (5, 1, q1_, .ref q5_)]) rfl (fun r_143 fr_143 H locs hp hMr_143 g => ?_)
                          refine lv_bipush (v := 44) hx hb dX2_readMemberHead_221 (by decide) ?_
                          have kb_44 : bd 44 44 (44 : Int32) := ⟨by decide, by decide⟩
                          refine lv_icmp_ne (tgt := 230) hx hb dX2_readMemberHead_223 (by decide) (fun c_144 => ?_) (fun c_144 => ?_)
                          · have fc_144 := neq_f c_144
                            refine lv_iconst (v := 0) hx hb dX2_readMemberHead_230 (by decide) ?_
                            refine lv_istore (lv' := [(6, .int 0), (7, .int v199_7), (5, .int x_12), (4, .int r_7), (2, .long r_6), (1, .int r_5), (0, .ref a0_)]) hx hb dX2_readMemberHead_231 hl (by decide) rfl (fun ls hl => ?_)
                            refine lv_iload hx hb dX2_readMemberHead_233 (lv_at hl 0 rfl) ?_
                            refine lv_if_eq (tgt := 245) hx hb dX2_readMemberHead_235 (by decide) (fun c_ => ?_) (fun c_ => absurd (by decide) c_)
                            have kb_1 : bd 1 1 (1 : Int32) := ⟨by decide, by decide⟩
                            obtain ⟨y_145, ey_145⟩ : ∃ z : Int32, z = v199_7 + 1 := ⟨_, rfl⟩
                            refine lv_iinc (v := y_145) (lv' := [(7, .int y_145), (6, .int 0), (5, .int x_12), (4, .int r_7), (2, .long r_6), (1, .int r_5), (0, .ref a0_)]) hx hb dX2_readMemberHead_245 hl (k := 1) rfl (by rw [ey_145]; rfl) (by decide) rfl (fun ls hl => ?_)
                            have ty_145 := add_bd ey_145 b_102 kb_1 (by decide)
                            have b_146 : bd 1 4 y_145 := add_rg ty_145 b_102 kb_1 (by decide)
                            refine lv_goto (tgt := 199) hx hb dX2_readMemberHead_248 (by decide) ?_
                            have hl9 := lv_sub hl [0, 1, 2, 3, 4, 5, 6] (by rfl : lv_pick [(7, .int y_145), (6, .int 0), (5, .int x_12), (4, .int r_7), (2, .long r_6), (1, .int r_5), (0, .ref a0_)] [0, 1, 2, 3, 4, 5, 6] = [(7, .int y_145), (6, .int 0), (5, .int x_12), (4, .int r_7), (2, .long r_6), (1, .int r_5), (0, .ref a0_)])
                            have g9 := g.sub (fx' := [(8, 6, q0_, .int x_137), (8, 8, q0_, .int y0_), (2, 6, a0_, .int 0), (9, 8, q3_, .int x_25), (2, 5, a0_, .ref a_27), (7, 3, q2_, .int x_28), (6, 12, a_27, .int x_30), (5, 2, q1_, .int x_21), (7, 2, q2_, .ref a_18), (9, 9, q3_, .ref a_11), (2, 0, a0_, .ref q0_), (2, 1, a0_, .ref q1_), (2, 3, a0_, .ref q2_), (2, 4, a0_, .ref q3_), (5, 1, q1_, .ref q5_)]) [2, 3, 4, 5, 6, 7, 8, 9, 10, 11, 12, 13, 14, 15, 16] rfl
                            exact ih199  y_145 0 x_137 (bd_sub b_146 (by decide)) (bd_sub kb_0 (by decide)) h_138 (by have h9_0 := b_146; unfold bd at h9_0; have h9_1 := bv199_6; unfold bd at h9_1; have h9_2 := bv199_7; unfold bd at h9_2; have h9_3 := bw199_8_6_q0_; unfold bd at h9_3; have h9_4 := h_138; unfold bd at h9_4; have h9_5 := kb_0; unfold bd at h9_5; have h9_6 := kb_1; unfold bd at h9_6; have h9_7 := kb_3; unfold bd at h9_7; have h9_8 := kb_41; unfold bd at h9_8; have h9_9 := kb_44; unfold bd at h9_9; have h9_10 := kb_m1; unfold bd at h9_10; omega) _ _ _ _ g9  hl9
                          · have fc_144 := eq_f c_144
                            have b_147 : bd 44 44 r_143 := eqX fc_144 (bdT r_143) kb_44 (by decide)
                            refine lv_iconst (v := 1) hx hb dX2_readMemberHead_226 (by decide) ?_
                            refine lv_goto (tgt := 231) hx hb dX2_readMemberHead_227 (by decide) ?_
                            refine lv_istore (lv' := [(6, .int 1), (7, .int v199_7), (5, .int x_12), (4, .int r_7), (2, .long r_6), (1, .int r_5), (0, .ref a0_)]) hx hb dX2_readMemberHead_231 hl (by decide) rfl (fun ls hl => ?_)
                            refine lv_iload hx hb dX2_readMemberHead_233 (lv_at hl 0 rfl) ?_
                            refine lv_if_eq (tgt := 245) hx hb dX2_readMemberHead_235 (by decide) (fun c_ => absurd c_ (by decide)) (fun c_ => ?_)
                            refine lv_aload_n hx hb dX2_readMemberHead_238 rfl (lv_at hl 6 rfl) ?_
                            refine g_getk (C := RX2) (T := TX2) (N := 16) hx hb hts (mc_ inX2) hown hK g rfl 0 (by decide) rfl (hts _ (List.mem_cons_of_mem _ t_416)) (fun _ h9 => h9) 12 rfl dX2_readMemberHead_239 ?_
                            refine g_callv (va_runV (As := []) (rest := []) ⟨hx, hb, hml, hown, hts⟩ (r_X8_next l dC dI L kd tys fr_143 H.size g.2.2.2.1 q0_ mq0_ kq0_) (cwV 0 hts (gV_ t_1131 t_1103 t_1104 t_184 t_1105) rfl rfl rfl (by decide +kernel) ⟨(Nat.le_of_ble_eq_true rfl), (Nat.le_of_ble_eq_true rfl)⟩) (pre3V g hK mq0_ kq0_ (by decide) (q := (RX8, TX8, 10)) rfl) rfl rfl hl.1 rfl (lv_room (Nat.le_of_ble_eq_true rfl)) dX2_readMemberHead_242 ⟨(Nat.le_of_ble_eq_true rfl), (Nat.le_of_ble_eq_true rfl)⟩) g hK (by decide) (by decide) (fx' := [(6, 3, a_27, .int x_133), (5, 4, q1_, .int x_135), (8, 8, q0_, .int y0_), (2, 6, a0_, .int 0), (9, 8, q3_, .int x_25), (2, 5, a0_, .ref a_27), (7, 3, q2_, .int x_28), (6, 12, a_27, .int x_30), (5, 2, q1_, .int x_21), (7, 2, q2_, .ref a_18), (9, 9, q3_, .ref a_11), (2, 0, a0_, .ref q0_), (2, 1, a0_, .ref q1_), (2, 3, a0_, .ref q2_), (2, 4, a0_, .ref q3_), (5, 1, q1_, .ref q5_)]) rfl (fun fr_148 H locs hp hMr_148 g => ?_)
                            obtain ⟨x_149, h_150, hF_151⟩ := hp
                            have g := g.more hF_151
                            have kb_1 : bd 1 1 (1 : Int32) := ⟨by decide, by decide⟩
                            obtain ⟨y_152, ey_152⟩ : ∃ z : Int32, z = v199_7 + 1 := ⟨_, rfl⟩
                            refine lv_iinc (v := y_152) (lv' := [(7, .int y_152), (6, .int 1), (5, .int x_12), (4, .int r_7), (2, .long r_6), (1, .int r_5), (0, .ref a0_)]) hx hb dX2_readMemberHead_245 hl (k := 1) rfl (by rw [ey_152]; rfl) (by decide) rfl (fun ls hl => ?_)
                            have ty_152 := add_bd ey_152 b_102 kb_1 (by decide)
                            have b_153 : bd 1 4 y_152 := add_rg ty_152 b_102 kb_1 (by decide)
                            refine lv_goto (tgt := 199) hx hb dX2_readMemberHead_248 (by decide) ?_
                            have hl9 := lv_sub hl [0, 1, 2, 3, 4, 5, 6] (by rfl : lv_pick [(7, .int y_152), (6, .int 1), (5, .int x_12), (4, .int r_7), (2, .long r_6), (1, .int r_5), (0, .ref a0_)] [0, 1, 2, 3, 4, 5, 6] = [(7, .int y_152), (6, .int 1), (5, .int x_12), (4, .int r_7), (2, .long r_6), (1, .int r_5), (0, .ref a0_)])
                            have g9 := g.sub (fx' := [(8, 6, q0_, .int x_149), (8, 8, q0_, .int y0_), (2, 6, a0_, .int 0), (9, 8, q3_, .int x_25), (2, 5, a0_, .ref a_27), (7, 3, q2_, .int x_28), (6, 12, a_27, .int x_30), (5, 2, q1_, .int x_21), (7, 2, q2_, .ref a_18), (9, 9, q3_, .ref a_11), (2, 0, a0_, .ref q0_), (2, 1, a0_, .ref q1_), (2, 3, a0_, .ref q2_), (2, 4, a0_, .ref q3_), (5, 1, q1_, .ref q5_)]) [0, 3, 4, 5, 6, 7, 8, 9, 10, 11, 12, 13, 14, 15, 16] rfl
                            exact ih199  y_152 1 x_149 (bd_sub b_153 (by decide)) (bd_sub kb_1 (by decide)) h_150 (by have h9_0 := b_153; unfold bd at h9_0; have h9_1 := bv199_6; unfold bd at h9_1; have h9_2 := bv199_7; unfold bd at h9_2; have h9_3 := bw199_8_6_q0_; unfold bd at h9_3; have h9_4 := h_150; unfold bd at h9_4; have h9_5 := kb_0; unfold bd at h9_5; have h9_6 := kb_1; unfold bd at h9_6; have h9_7 := kb_3; unfold bd at h9_7; have h9_8 := kb_41; unfold bd at h9_8; have h9_9 := kb_44; unfold bd at h9_9; have h9_10 := kb_m1; unfold bd at h9_10; omega) _ _ _ _ g9  hl9
                        · have g := g.more hF_142
                          refine lv_aload_n hx hb dX2_readMemberHead_214 rfl (lv_at hl 6 rfl) ?_
                          refine g_getk (C := RX2) (T := TX2) (N := 16) hx hb hts (mc_ inX2) hown hK g rfl 0 (by decide) rfl (hts _ (List.mem_cons_of_mem _ t_416)) (fun _ h9 => h9) 10 rfl dX2_readMemberHead_215 ?_
                          have kb_1201 : bd 1201 1201 (1201 : Int32) := ⟨by decide, by decide⟩
                          refine g_calli (va_runV (As := []) (rest := []) ⟨hx, hb, hml, hown, hts⟩ (r_X8_kind_2 l dC dI L kd tys fr_132 H.size g.2.2.2.1 q0_ mq0_ kq0_ 1201 kb_1201 (g.fcts [0] rfl)) (cwV 0 hts (gV_ t_1118 t_1119 t_1120 t_184 t_1121) rfl rfl rfl (by decide +kernel) ⟨(Nat.le_of_ble_eq_true rfl), (Nat.le_of_ble_eq_true rfl)⟩) (pre3V g hK mq0_ kq0_ (by decide) (q := (RX8, TX8, 10)) rfl) rfl rfl hl.1 rfl (lv_room (Nat.le_of_ble_eq_true rfl)) dX2_readMemberHead_218 ⟨(Nat.le_of_ble_eq_true rfl), (Nat.le_of_ble_eq_true rfl)⟩) g hK (by decide) (by decide) (fx' := [(8, 6, q0_, .int 1201), (8, 8, q0_, .int x_140), (2, 6, a0_, .int 0), (9, 8, q3_, .int x_25), (2, 5, a0_, .ref a_27), (7, 3, q2_, .int x_28), (6, 12, a_27, .int x_30), (5, 2, q1_, .int x_21), (7, 2, q2_, .ref a_18), (9, 9, q3_, .ref a_11), (2, 0, a0_, .ref q0_), (2, 1, a0_, .ref q1_), (2, 3, a0_, .ref q2_), (2, 4, a0_, .ref q3_), (5, 1, q1_, .ref q5_)]) rfl (fun r_154 fr_154 H locs hp hMr_154 g => ?_)
                          obtain ⟨h_155, -⟩ := hp
                          obtain rfl : r_154 = 0 := h_155
                          refine lv_bipush (v := 44) hx hb dX2_readMemberHead_221 (by decide) ?_
                          refine lv_icmp_ne (tgt := 230) hx hb dX2_readMemberHead_223 (by decide) (fun c_ => ?_) (fun c_ => absurd c_ (by decide))
                          refine lv_iconst (v := 0) hx hb dX2_readMemberHead_230 (by decide) ?_
                          refine lv_istore (lv' := [(6, .int 0), (7, .int v199_7), (5, .int x_12), (4, .int r_7), (2, .long r_6), (1, .int r_5), (0, .ref a0_)]) hx hb dX2_readMemberHead_231 hl (by decide) rfl (fun ls hl => ?_)
                          refine lv_iload hx hb dX2_readMemberHead_233 (lv_at hl 0 rfl) ?_
                          refine lv_if_eq (tgt := 245) hx hb dX2_readMemberHead_235 (by decide) (fun c_ => ?_) (fun c_ => absurd (by decide) c_)
                          have kb_1 : bd 1 1 (1 : Int32) := ⟨by decide, by decide⟩
                          obtain ⟨y_156, ey_156⟩ : ∃ z : Int32, z = v199_7 + 1 := ⟨_, rfl⟩
                          refine lv_iinc (v := y_156) (lv' := [(7, .int y_156), (6, .int 0), (5, .int x_12), (4, .int r_7), (2, .long r_6), (1, .int r_5), (0, .ref a0_)]) hx hb dX2_readMemberHead_245 hl (k := 1) rfl (by rw [ey_156]; rfl) (by decide) rfl (fun ls hl => ?_)
                          have ty_156 := add_bd ey_156 b_102 kb_1 (by decide)
                          have b_157 : bd 1 4 y_156 := add_rg ty_156 b_102 kb_1 (by decide)
                          refine lv_goto (tgt := 199) hx hb dX2_readMemberHead_248 (by decide) ?_
                          refine lv_iload hx hb dX2_readMemberHead_199 (lv_at hl 0 rfl) ?_
                          refine lv_iconst (v := 3) hx hb dX2_readMemberHead_201 (by decide) ?_
                          refine lv_icmp_gt (tgt := 251) hx hb dX2_readMemberHead_202 (by decide) (fun c_158 => ?_) (fun c_158 => ?_)
                          · have fc_158 := lt_f c_158
                            have b_159 : bd 4 4 y_156 := ltR fc_158 kb_3 b_157 (by decide)
                            have b_160 : bd 3 3 v199_7 := add_inv ty_156 b_159 b_102 kb_1 (by decide)
                            refine lv_aload_n hx hb dX2_readMemberHead_251 rfl (lv_at hl 6 rfl) ?_
                            refine g_getk (C := RX2) (T := TX2) (N := 16) hx hb hts (mc_ inX2) hown hK g rfl 0 (by decide) rfl (hts _ (List.mem_cons_of_mem _ t_416)) (fun _ h9 => h9) 10 rfl dX2_readMemberHead_252 ?_
                            refine g_calli (va_runV (As := []) (rest := []) ⟨hx, hb, hml, hown, hts⟩ (r_X8_place l dC dI L kd tys fr_154 H.size g.2.2.2.1 q0_ mq0_ kq0_) (cwV 0 hts (gV_ t_1110 t_1111 t_1112 t_184 t_1113) rfl rfl rfl (by decide +kernel) ⟨(Nat.le_of_ble_eq_true rfl), (Nat.le_of_ble_eq_true rfl)⟩) (pre3V g hK mq0_ kq0_ (by decide) (q := (RX8, TX8, 10)) rfl) rfl rfl hl.1 rfl (lv_room (Nat.le_of_ble_eq_true rfl)) dX2_readMemberHead_255 ⟨(Nat.le_of_ble_eq_true rfl), (Nat.le_of_ble_eq_true rfl)⟩) g hK (by decide) (by decide) (fx' := [(8, 6, q0_, .int 1201), (8, 8, q0_, .int x_140), (2, 6, a0_, .int 0), (9, 8, q3_, .int x_25), (2, 5, a0_, .ref a_27), (7, 3, q2_, .int x_28), (6, 12, a_27, .int x_30), (5, 2, q1_, .int x_21), (7, 2, q2_, .ref a_18), (9, 9, q3_, .ref a_11), (2, 0, a0_, .ref q0_), (2, 1, a0_, .ref q1_), (2, 3, a0_, .ref q2_), (2, 4, a0_, .ref q3_), (5, 1, q1_, .ref q5_)]) rfl (fun r_161 fr_161 H locs hp hMr_161 g => ?_)
                            refine lv_istore (lv' := [(7, .int r_161), (6, .int 0), (5, .int x_12), (4, .int r_7), (2, .long r_6), (1, .int r_5), (0, .ref a0_)]) hx hb dX2_readMemberHead_258 hl (by decide) rfl (fun ls hl => ?_)
                            refine lv_aload_n hx hb dX2_readMemberHead_260 rfl (lv_at hl 6 rfl) ?_
                            refine g_getk (C := RX2) (T := TX2) (N := 16) hx hb hts (mc_ inX2) hown hK g rfl 0 (by decide) rfl (hts _ (List.mem_cons_of_mem _ t_416)) (fun _ h9 => h9) 10 rfl dX2_readMemberHead_261 ?_
                            refine lv_bipush (v := 41) hx hb dX2_readMemberHead_264 (by decide) ?_
                            refine g_callv (va_runV (As := [.int 41]) (rest := []) ⟨hx, hb, hml, hown, hts⟩ (r_X8_take_2 l dC dI L kd tys fr_161 H.size g.2.2.2.1 q0_ mq0_ kq0_ 41 1201 kb_1201 x_140 h_141 (g.fcts [0, 1] rfl)) (cwV 1 hts (gV_ t_1098 t_1099 t_1100 t_184 t_1101) rfl rfl rfl (by decide +kernel) ⟨(Nat.le_of_ble_eq_true rfl), (Nat.le_of_ble_eq_true rfl)⟩) (pre3V g hK mq0_ kq0_ (by decide) (q := (RX8, TX8, 10)) rfl) rfl rfl hl.1 rfl (lv_room (Nat.le_of_ble_eq_true rfl)) dX2_readMemberHead_266 ⟨(Nat.le_of_ble_eq_true rfl), (Nat.le_of_ble_eq_true rfl)⟩) g hK (by decide) (by decide) (fx' := [(8, 8, q0_, .int x_140), (2, 6, a0_, .int 0), (9, 8, q3_, .int x_25), (2, 5, a0_, .ref a_27), (7, 3, q2_, .int x_28), (6, 12, a_27, .int x_30), (5, 2, q1_, .int x_21), (7, 2, q2_, .ref a_18), (9, 9, q3_, .ref a_11), (2, 0, a0_, .ref q0_), (2, 1, a0_, .ref q1_), (2, 3, a0_, .ref q2_), (2, 4, a0_, .ref q3_), (5, 1, q1_, .ref q5_)]) rfl (fun fr_162 H locs hp hMr_162 g => ?_)
                            obtain ⟨x_163, h_164, hF_165⟩ := hp
                            have g := g.more hF_165
                            refine lv_iload hx hb dX2_readMemberHead_269 (lv_at hl 2 rfl) ?_
                            refine lv_iconst (v := (-1)) hx hb dX2_readMemberHead_271 (by decide) ?_
                            refine lv_icmp_eq (tgt := 308) hx hb dX2_readMemberHead_272 (by decide) (fun c_166 => ?_) (fun c_166 => ?_)
                            · have fc_166 := eq_f c_166
                              have b_167 : bd 0 (-1) x_12 := eqX fc_166 bx_12 kb_m1 (by decide)
                              exact bd_no b_167 (by decide)
                            · have fc_166 := neq_f c_166
                              refine lv_aload_n hx hb dX2_readMemberHead_275 rfl (lv_at hl 6 rfl) ?_
                              refine g_getk (C := RX2) (T := TX2) (N := 16) hx hb hts (mc_ inX2) hown hK g rfl 3 (by decide) rfl (hts _ (List.mem_cons_of_mem _ t_419)) (fun _ h9 => h9) 12 rfl dX2_readMemberHead_276 ?_
                              refine g_getk (C := RX7) (T := TX7) (N := 19) hx hb hts (mc_ inX7) hown hK g rfl 2 (by decide) rfl (hts _ (List.mem_cons_of_mem _ t_630)) (fun _ h9 => h9) 8 rfl dX2_readMemberHead_279 ?_
                              refine lv_iload hx hb dX2_readMemberHead_282 (lv_at hl 2 rfl) ?_
                              refine g_aald hx hb hK g ma_18 ka_18 (by decide) rfl (by decide) (in_bd bx_12 (by decide)) dX2_readMemberHead_284 (fun a_168 ma_168 ua_168 wa_168 => ?_)
                              have ka_168 : kd a_168 = 6 := by omega
                              refine g_geti (C := RX6) (T := TX6) (N := 13) hx hb hts (mc_ inX6) hown hK g ma_168 ka_168 (by decide) rfl 3 (by decide) rfl (hts _ (List.mem_cons_of_mem _ t_568)) (fun _ h9 => h9) rfl dX2_readMemberHead_285 (fun x_169 bx_169 g => ?_)
                              refine lv_aload_n hx hb dX2_readMemberHead_288 rfl (lv_at hl 6 rfl) ?_
                              refine g_getk (C := RX2) (T := TX2) (N := 16) hx hb hts (mc_ inX2) hown hK g rfl 5 (by decide) rfl (hts _ (List.mem_cons_of_mem _ t_421)) (fun _ h9 => h9) 5 rfl dX2_readMemberHead_289 ?_
                              refine g_geti (C := RX6) (T := TX6) (N := 13) hx hb hts (mc_ inX6) hown hK g ma_27 ka_27 (by decide) rfl 3 (by decide) rfl (hts _ (List.mem_cons_of_mem _ t_568)) (fun _ h9 => h9) rfl dX2_readMemberHead_292 (fun x_170 bx_170 g => ?_)
                              refine lv_icmp_eq (tgt := 308) hx hb dX2_readMemberHead_295 (by decide) (fun c_171 => ?_) (fun c_171 => ?_)
                              · have fc_171 := eq_f c_171
                                subst hQ
                                exact W.vret hx hb hr (fun t ht hW => ⟨⟨_, rfl, Or.inr (⟨x_163, h_164, x_140, h_141, a_27, ⟨ma_27, ka_27⟩, (g.fcts [2, 3, 6] rfl)⟩), q3_of g hK ht hW⟩, g.2.2.1.F ht⟩) g.2.2.1.2.2 dX2_readMemberHead_308
                              · have fc_171 := neq_f c_171
                                refine lv_aload_n hx hb dX2_readMemberHead_298 rfl (lv_at hl 6 rfl) ?_
                                refine g_getk (C := RX2) (T := TX2) (N := 16) hx hb hts (mc_ inX2) hown hK g rfl 0 (by decide) rfl (hts _ (List.mem_cons_of_mem _ t_416)) (fun _ h9 => h9) 12 rfl dX2_readMemberHead_299 ?_
                                refine lv_iconst (v := 5) hx hb dX2_readMemberHead_302 (by decide) ?_
                                refine lv_iload hx hb dX2_readMemberHead_303 (lv_at hl 0 rfl) ?_
                                have kb_5 : bd 5 5 (5 : Int32) := ⟨by decide, by decide⟩
                                refine g_callv (va_runV (As := [.int 5, .int r_161]) (rest := []) ⟨hx, hb, hml, hown, hts⟩ (r_X8_fail_2 l dC dI L kd tys fr_162 H.size g.2.2.2.1 q0_ mq0_ kq0_ 5 (bd_sub kb_5 (by decide)) r_161 x_140 h_141 (g.fcts [3] rfl)) (cwV 2 hts (gV_ t_1122 t_1107 t_1108 t_184 t_1109) rfl rfl rfl (by decide +kernel) ⟨(Nat.le_of_ble_eq_true rfl), (Nat.le_of_ble_eq_true rfl)⟩) (pre3V g hK mq0_ kq0_ (by decide) (q := (RX8, TX8, 10)) rfl) rfl rfl hl.1 rfl (lv_room (Nat.le_of_ble_eq_true rfl)) dX2_readMemberHead_305 ⟨(Nat.le_of_ble_eq_true rfl), (Nat.le_of_ble_eq_true rfl)⟩) g hK (by decide) (by decide) (fx' := [(6, 3, a_27, .int x_170), (6, 3, a_168, .int x_169), (8, 8, q0_, .int x_140), (2, 6, a0_, .int 0), (9, 8, q3_, .int x_25), (2, 5, a0_, .ref a_27), (7, 3, q2_, .int x_28), (6, 12, a_27, .int x_30), (5, 2, q1_, .int x_21), (7, 2, q2_, .ref a_18), (9, 9, q3_, .ref a_11), (2, 0, a0_, .ref q0_), (2, 1, a0_, .ref q1_), (2, 3, a0_, .ref q2_), (2, 4, a0_, .ref q3_), (5, 1, q1_, .ref q5_)]) rfl (fun fr_172 H locs hp hMr_172 g => ?_)
                                have hF_173 := hp
                                have g := g.more hF_173
                                subst hQ
                                exact W.vret hx hb hr (fun t ht hW => ⟨⟨_, rfl, Or.inr (⟨1201, kb_1201, x_140, h_141, a_27, ⟨ma_27, ka_27⟩, (g.fcts [0, 3, 6] rfl)⟩), q3_of g hK ht hW⟩, g.2.2.1.F ht⟩) g.2.2.1.2.2 dX2_readMemberHead_308
                          · have fc_158 := nlt_f c_158
                            have b_174 : bd 1 3 y_156 := leL fc_158 b_157 kb_3 (by decide)
                            have b_175 : bd 0 2 v199_7 := add_inv ty_156 b_174 b_102 kb_1 (by decide)
                            refine lv_iload hx hb dX2_readMemberHead_205 (lv_at hl 1 rfl) ?_
                            refine lv_if_eq (tgt := 251) hx hb dX2_readMemberHead_207 (by decide) (fun c_ => ?_) (fun c_ => absurd (by decide) c_)
                            refine lv_aload_n hx hb dX2_readMemberHead_251 rfl (lv_at hl 6 rfl) ?_
                            refine g_getk (C := RX2) (T := TX2) (N := 16) hx hb hts (mc_ inX2) hown hK g rfl 0 (by decide) rfl (hts _ (List.mem_cons_of_mem _ t_416)) (fun _ h9 => h9) 10 rfl dX2_readMemberHead_252 ?_
                            refine g_calli (va_runV (As := []) (rest := []) ⟨hx, hb, hml, hown, hts⟩ (r_X8_place l dC dI L kd tys fr_154 H.size g.2.2.2.1 q0_ mq0_ kq0_) (cwV 0 hts (gV_ t_1110 t_1111 t_1112 t_184 t_1113) rfl rfl rfl (by decide +kernel) ⟨(Nat.le_of_ble_eq_true rfl), (Nat.le_of_ble_eq_true rfl)⟩) (pre3V g hK mq0_ kq0_ (by decide) (q := (RX8, TX8, 10)) rfl) rfl rfl hl.1 rfl (lv_room (Nat.le_of_ble_eq_true rfl)) dX2_readMemberHead_255 ⟨(Nat.le_of_ble_eq_true rfl), (Nat.le_of_ble_eq_true rfl)⟩) g hK (by decide) (by decide) (fx' := [(8, 6, q0_, .int 1201), (8, 8, q0_, .int x_140), (2, 6, a0_, .int 0), (9, 8, q3_, .int x_25), (2, 5, a0_, .ref a_27), (7, 3, q2_, .int x_28), (6, 12, a_27, .int x_30), (5, 2, q1_, .int x_21), (7, 2, q2_, .ref a_18), (9, 9, q3_, .ref a_11), (2, 0, a0_, .ref q0_), (2, 1, a0_, .ref q1_), (2, 3, a0_, .ref q2_), (2, 4, a0_, .ref q3_), (5, 1, q1_, .ref q5_)]) rfl (fun r_176 fr_176 H locs hp hMr_176 g => ?_)
                            refine lv_istore (lv' := [(7, .int r_176), (6, .int 0), (5, .int x_12), (4, .int r_7), (2, .long r_6), (1, .int r_5), (0, .ref a0_)]) hx hb dX2_readMemberHead_258 hl (by decide) rfl (fun ls hl => ?_)
                            refine lv_aload_n hx hb dX2_readMemberHead_260 rfl (lv_at hl 6 rfl) ?_
                            refine g_getk (C := RX2) (T := TX2) (N := 16) hx hb hts (mc_ inX2) hown hK g rfl 0 (by decide) rfl (hts _ (List.mem_cons_of_mem _ t_416)) (fun _ h9 => h9) 10 rfl dX2_readMemberHead_261 ?_
                            refine lv_bipush (v := 41) hx hb dX2_readMemberHead_264 (by decide) ?_
                            refine g_callv (va_runV (As := [.int 41]) (rest := []) ⟨hx, hb, hml, hown, hts⟩ (r_X8_take_2 l dC dI L kd tys fr_176 H.size g.2.2.2.1 q0_ mq0_ kq0_ 41 1201 kb_1201 x_140 h_141 (g.fcts [0, 1] rfl)) (cwV 1 hts (gV_ t_1098 t_1099 t_1100 t_184 t_1101) rfl rfl rfl (by decide +kernel) ⟨(Nat.le_of_ble_eq_true rfl), (Nat.le_of_ble_eq_true rfl)⟩) (pre3V g hK mq0_ kq0_ (by decide) (q := (RX8, TX8, 10)) rfl) rfl rfl hl.1 rfl (lv_room (Nat.le_of_ble_eq_true rfl)) dX2_readMemberHead_266 ⟨(Nat.le_of_ble_eq_true rfl), (Nat.le_of_ble_eq_true rfl)⟩) g hK (by decide) (by decide) (fx' := [(8, 8, q0_, .int x_140), (2, 6, a0_, .int 0), (9, 8, q3_, .int x_25), (2, 5, a0_, .ref a_27), (7, 3, q2_, .int x_28), (6, 12, a_27, .int x_30), (5, 2, q1_, .int x_21), (7, 2, q2_, .ref a_18), (9, 9, q3_, .ref a_11), (2, 0, a0_, .ref q0_), (2, 1, a0_, .ref q1_), (2, 3, a0_, .ref q2_), (2, 4, a0_, .ref q3_), (5, 1, q1_, .ref q5_)]) rfl (fun fr_177 H locs hp hMr_177 g => ?_)
                            obtain ⟨x_178, h_179, hF_180⟩ := hp
                            have g := g.more hF_180
                            refine lv_iload hx hb dX2_readMemberHead_269 (lv_at hl 2 rfl) ?_
                            refine lv_iconst (v := (-1)) hx hb dX2_readMemberHead_271 (by decide) ?_
                            refine lv_icmp_eq (tgt := 308) hx hb dX2_readMemberHead_272 (by decide) (fun c_181 => ?_) (fun c_181 => ?_)
                            · have fc_181 := eq_f c_181
                              have b_182 : bd 0 (-1) x_12 := eqX fc_181 bx_12 kb_m1 (by decide)
                              exact bd_no b_182 (by decide)
                            · have fc_181 := neq_f c_181
                              refine lv_aload_n hx hb dX2_readMemberHead_275 rfl (lv_at hl 6 rfl) ?_
                              refine g_getk (C := RX2) (T := TX2) (N := 16) hx hb hts (mc_ inX2) hown hK g rfl 3 (by decide) rfl (hts _ (List.mem_cons_of_mem _ t_419)) (fun _ h9 => h9) 12 rfl dX2_readMemberHead_276 ?_
                              refine g_getk (C := RX7) (T := TX7) (N := 19) hx hb hts (mc_ inX7) hown hK g rfl 2 (by decide) rfl (hts _ (List.mem_cons_of_mem _ t_630)) (fun _ h9 => h9) 8 rfl dX2_readMemberHead_279 ?_
                              refine lv_iload hx hb dX2_readMemberHead_282 (lv_at hl 2 rfl) ?_
                              refine g_aald hx hb hK g ma_18 ka_18 (by decide) rfl (by decide) (in_bd bx_12 (by decide)) dX2_readMemberHead_284 (fun a_183 ma_183 ua_183 wa_183 => ?_)
                              have ka_183 : kd a_183 = 6 := by omega
                              refine g_geti (C := RX6) (T := TX6) (N := 13) hx hb hts (mc_ inX6) hown hK g ma_183 ka_183 (by decide) rfl 3 (by decide) rfl (hts _ (List.mem_cons_of_mem _ t_568)) (fun _ h9 => h9) rfl dX2_readMemberHead_285 (fun x_184 bx_184 g => ?_)
                              refine lv_aload_n hx hb dX2_readMemberHead_288 rfl (lv_at hl 6 rfl) ?_
                              refine g_getk (C := RX2) (T := TX2) (N := 16) hx hb hts (mc_ inX2) hown hK g rfl 5 (by decide) rfl (hts _ (List.mem_cons_of_mem _ t_421)) (fun _ h9 => h9) 5 rfl dX2_readMemberHead_289 ?_
                              refine g_geti (C := RX6) (T := TX6) (N := 13) hx hb hts (mc_ inX6) hown hK g ma_27 ka_27 (by decide) rfl 3 (by decide) rfl (hts _ (List.mem_cons_of_mem _ t_568)) (fun _ h9 => h9) rfl dX2_readMemberHead_292 (fun x_185 bx_185 g => ?_)
                              refine lv_icmp_eq (tgt := 308) hx hb dX2_readMemberHead_295 (by decide) (fun c_186 => ?_) (fun c_186 => ?_)
                              · have fc_186 := eq_f c_186
                                subst hQ
                                exact W.vret hx hb hr (fun t ht hW => ⟨⟨_, rfl, Or.inr (⟨x_178, h_179, x_140, h_141, a_27, ⟨ma_27, ka_27⟩, (g.fcts [2, 3, 6] rfl)⟩), q3_of g hK ht hW⟩, g.2.2.1.F ht⟩) g.2.2.1.2.2 dX2_readMemberHead_308
                              · have fc_186 := neq_f c_186
                                refine lv_aload_n hx hb dX2_readMemberHead_298 rfl (lv_at hl 6 rfl) ?_
                                refine g_getk (C := RX2) (T := TX2) (N := 16) hx hb hts (mc_ inX2) hown hK g rfl 0 (by decide) rfl (hts _ (List.mem_cons_of_mem _ t_416)) (fun _ h9 => h9) 12 rfl dX2_readMemberHead_299 ?_
                                refine lv_iconst (v := 5) hx hb dX2_readMemberHead_302 (by decide) ?_
                                refine lv_iload hx hb dX2_readMemberHead_303 (lv_at hl 0 rfl) ?_
                                have kb_5 : bd 5 5 (5 : Int32) := ⟨by decide, by decide⟩
                                refine g_callv (va_runV (As := [.int 5, .int r_176]) (rest := []) ⟨hx, hb, hml, hown, hts⟩ (r_X8_fail_2 l dC dI L kd tys fr_177 H.size g.2.2.2.1 q0_ mq0_ kq0_ 5 (bd_sub kb_5 (by decide)) r_176 x_140 h_141 (g.fcts [3] rfl)) (cwV 2 hts (gV_ t_1122 t_1107 t_1108 t_184 t_1109) rfl rfl rfl (by decide +kernel) ⟨(Nat.le_of_ble_eq_true rfl), (Nat.le_of_ble_eq_true rfl)⟩) (pre3V g hK mq0_ kq0_ (by decide) (q := (RX8, TX8, 10)) rfl) rfl rfl hl.1 rfl (lv_room (Nat.le_of_ble_eq_true rfl)) dX2_readMemberHead_305 ⟨(Nat.le_of_ble_eq_true rfl), (Nat.le_of_ble_eq_true rfl)⟩) g hK (by decide) (by decide) (fx' := [(6, 3, a_27, .int x_185), (6, 3, a_183, .int x_184), (8, 8, q0_, .int x_140), (2, 6, a0_, .int 0), (9, 8, q3_, .int x_25), (2, 5, a0_, .ref a_27), (7, 3, q2_, .int x_28), (6, 12, a_27, .int x_30), (5, 2, q1_, .int x_21), (7, 2, q2_, .ref a_18), (9, 9, q3_, .ref a_11), (2, 0, a0_, .ref q0_), (2, 1, a0_, .ref q1_), (2, 3, a0_, .ref q2_), (2, 4, a0_, .ref q3_), (5, 1, q1_, .ref q5_)]) rfl (fun fr_187 H locs hp hMr_187 g => ?_)
                                have hF_188 := hp
                                have g := g.more hF_188
                                subst hQ
                                exact W.vret hx hb hr (fun t ht hW => ⟨⟨_, rfl, Or.inr (⟨1201, kb_1201, x_140, h_141, a_27, ⟨ma_27, ka_27⟩, (g.fcts [0, 3, 6] rfl)⟩), q3_of g hK ht hW⟩, g.2.2.1.F ht⟩) g.2.2.1.2.2 dX2_readMemberHead_308
                have kb_0 : bd 0 0 (0 : Int32) := ⟨by decide, by decide⟩
                have kb_1 : bd 1 1 (1 : Int32) := ⟨by decide, by decide⟩
                have hl9 := lv_sub hl [0, 1, 2, 3, 4, 5, 6] (by rfl : lv_pick [(7, .int 0), (6, .int 1), (5, .int x_12), (4, .int r_7), (2, .long r_6), (1, .int r_5), (0, .ref a0_)] [0, 1, 2, 3, 4, 5, 6] = [(7, .int 0), (6, .int 1), (5, .int x_12), (4, .int r_7), (2, .long r_6), (1, .int r_5), (0, .ref a0_)])
                have g9 := g.sub (fx' := [(8, 6, q0_, .int x_38), (8, 8, q0_, .int y0_), (2, 6, a0_, .int 0), (9, 8, q3_, .int x_25), (2, 5, a0_, .ref a_27), (7, 3, q2_, .int x_28), (6, 12, a_27, .int x_30), (5, 2, q1_, .int x_21), (7, 2, q2_, .ref a_18), (9, 9, q3_, .ref a_11), (2, 0, a0_, .ref q0_), (2, 1, a0_, .ref q1_), (2, 3, a0_, .ref q2_), (2, 4, a0_, .ref q3_), (5, 1, q1_, .ref q5_)]) [0, 1, 2, 3, 4, 5, 6, 7, 8, 9, 10, 11, 12, 13, 14] rfl
                exact loop_73 (11) 0 1 x_38 (bd_sub kb_0 (by decide)) (bd_sub kb_1 (by decide)) h_39 (by have h9_0 := h_39; unfold bd at h9_0; have h9_1 := kb_0; unfold bd at h9_1; have h9_2 := kb_1; unfold bd at h9_2; have h9_3 := kb_3; unfold bd at h9_3; have h9_4 := kb_41; unfold bd at h9_4; have h9_5 := kb_m1; unfold bd at h9_5; omega) _ _ _ _ g9  hl9
            · have g := g.more hF_43
              refine lv_aload_n hx hb dX2_readMemberHead_177 rfl (lv_at hl 4 rfl) ?_
              refine g_getk (C := RX2) (T := TX2) (N := 16) hx hb hts (mc_ inX2) hown hK g rfl 0 (by decide) rfl (hts _ (List.mem_cons_of_mem _ t_416)) (fun _ h9 => h9) 10 rfl dX2_readMemberHead_178 ?_
              have kb_1201 : bd 1201 1201 (1201 : Int32) := ⟨by decide, by decide⟩
              refine g_calli (va_runV (As := []) (rest := []) ⟨hx, hb, hml, hown, hts⟩ (r_X8_kind_2 l dC dI L kd tys fr_37 H.size g.2.2.2.1 q0_ mq0_ kq0_ 1201 kb_1201 (g.fcts [0] rfl)) (cwV 0 hts (gV_ t_1118 t_1119 t_1120 t_184 t_1121) rfl rfl rfl (by decide +kernel) ⟨(Nat.le_of_ble_eq_true rfl), (Nat.le_of_ble_eq_true rfl)⟩) (pre3V g hK mq0_ kq0_ (by decide) (q := (RX8, TX8, 10)) rfl) rfl rfl hl.1 rfl (lv_room (Nat.le_of_ble_eq_true rfl)) dX2_readMemberHead_181 ⟨(Nat.le_of_ble_eq_true rfl), (Nat.le_of_ble_eq_true rfl)⟩) g hK (by decide) (by decide) (fx' := [(8, 6, q0_, .int 1201), (8, 8, q0_, .int x_41), (2, 6, a0_, .int 0), (9, 8, q3_, .int x_25), (2, 5, a0_, .ref a_27), (7, 3, q2_, .int x_28), (6, 12, a_27, .int x_30), (5, 2, q1_, .int x_21), (7, 2, q2_, .ref a_18), (9, 9, q3_, .ref a_11), (2, 0, a0_, .ref q0_), (2, 1, a0_, .ref q1_), (2, 3, a0_, .ref q2_), (2, 4, a0_, .ref q3_), (5, 1, q1_, .ref q5_)]) rfl (fun r_189 fr_189 H locs hp hMr_189 g => ?_)
              obtain ⟨h_190, -⟩ := hp
              obtain rfl : r_189 = 0 := h_190
              refine lv_bipush (v := 41) hx hb dX2_readMemberHead_184 (by decide) ?_
              refine lv_icmp_eq (tgt := 193) hx hb dX2_readMemberHead_186 (by decide) (fun c_ => absurd c_ (by decide)) (fun c_ => ?_)
              refine lv_iconst (v := 1) hx hb dX2_readMemberHead_189 (by decide) ?_
              refine lv_goto (tgt := 194) hx hb dX2_readMemberHead_190 (by decide) ?_
              refine lv_istore (lv' := [(6, .int 1), (5, .int x_12), (4, .int r_7), (2, .long r_6), (1, .int r_5), (0, .ref a0_)]) hx hb dX2_readMemberHead_194 hl (by decide) rfl (fun ls hl => ?_)
              refine lv_iconst (v := 0) hx hb dX2_readMemberHead_196 (by decide) ?_
              refine lv_istore (lv' := [(7, .int 0), (6, .int 1), (5, .int x_12), (4, .int r_7), (2, .long r_6), (1, .int r_5), (0, .ref a0_)]) hx hb dX2_readMemberHead_197 hl (by decide) rfl (fun ls hl => ?_)
              have loop_191 : ∀ (n : Nat) (v199_7 : Int32) (v199_6 : Int32), bd 0 4 v199_7 → bd 0 1 v199_6 → (4 - v199_7.toInt < (n : Int)) → ∀ (f : Nat → va_E) (H : Heap) (locs : List Loc) (ls : Array Slot), G3 (dC, dI) L kd tys s f0 [(2, 5), (2, 6), (5, 4), (6, 0), (6, 1), (6, 2), (6, 3), (6, 6), (6, 7), (6, 8), (6, 9), (6, 10), (6, 11), (6, 12), (7, 3), (8, 6), (8, 8), (8, 9), (9, 8)] [132, 134, 135, 156] f H locs [(8, 6, q0_, .int 1201), (8, 8, q0_, .int x_41), (2, 6, a0_, .int 0), (9, 8, q3_, .int x_25), (2, 5, a0_, .ref a_27), (7, 3, q2_, .int x_28), (6, 12, a_27, .int x_30), (5, 2, q1_, .int x_21), (7, 2, q2_, .ref a_18), (9, 9, q3_, .ref a_11), (2, 0, a0_, .ref q0_), (2, 1, a0_, .ref q1_), (2, 3, a0_, .ref q2_), (2, 4, a0_, .ref q3_), (5, 1, q1_, .ref q5_)] → lv_has ls 8 [(7, .int v199_7), (6, .int v199_6), (5, .int x_12), (4, .int r_7), (2, .long r_6), (1, .int r_5), (0, .ref a0_)] → W p l e ({ frames := 3, cells := 0, slots := 0, locals := 72 } : Room) s m [.ref a0_].toArray below meth c H locs 0 0 Q (F0 m 199 ls []) := by
                intro n199
                induction n199 with
                | zero =>
                  intro v199_7 v199_6 bv199_7 bv199_6 hm199 f H locs ls g  hl
                  exact absurd hm199 (by have h9_v199_7 := bv199_7; unfold bd at h9_v199_7; have h9_v199_6 := bv199_6; unfold bd at h9_v199_6; omega)
                | succ n199 ih199 =>
                  intro v199_7 v199_6 bv199_7 bv199_6 hm199 f H locs ls g  hl
                  refine lv_iload hx hb dX2_readMemberHead_199 (lv_at hl 0 rfl) ?_
                  refine lv_iconst (v := 3) hx hb dX2_readMemberHead_201 (by decide) ?_
                  refine lv_icmp_gt (tgt := 251) hx hb dX2_readMemberHead_202 (by decide) (fun c_192 => ?_) (fun c_192 => ?_)
                  · have fc_192 := lt_f c_192
                    have b_193 : bd 4 4 v199_7 := ltR fc_192 kb_3 bv199_7 (by decide)
                    refine lv_aload_n hx hb dX2_readMemberHead_251 rfl (lv_at hl 6 rfl) ?_
                    refine g_getk (C := RX2) (T := TX2) (N := 16) hx hb hts (mc_ inX2) hown hK g rfl 0 (by decide) rfl (hts _ (List.mem_cons_of_mem _ t_416)) (fun _ h9 => h9) 10 rfl dX2_readMemberHead_252 ?_
                    refine g_calli (va_runV (As := []) (rest := []) ⟨hx, hb, hml, hown, hts⟩ (r_X8_place l dC dI L kd tys f H.size g.2.2.2.1 q0_ mq0_ kq0_) (cwV 0 hts (gV_ t_1110 t_1111 t_1112 t_184 t_1113) rfl rfl rfl (by decide +kernel) ⟨(Nat.le_of_ble_eq_true rfl), (Nat.le_of_ble_eq_true rfl)⟩) (pre3V g hK mq0_ kq0_ (by decide) (q := (RX8, TX8, 10)) rfl) rfl rfl hl.1 rfl (lv_room (Nat.le_of_ble_eq_true rfl)) dX2_readMemberHead_255 ⟨(Nat.le_of_ble_eq_true rfl), (Nat.le_of_ble_eq_true rfl)⟩) g hK (by decide) (by decide) (fx' := [(8, 6, q0_, .int 1201), (8, 8, q0_, .int x_41), (2, 6, a0_, .int 0), (9, 8, q3_, .int x_25), (2, 5, a0_, .ref a_27), (7, 3, q2_, .int x_28), (6, 12, a_27, .int x_30), (5, 2, q1_, .int x_21), (7, 2, q2_, .ref a_18), (9, 9, q3_, .ref a_11), (2, 0, a0_, .ref q0_), (2, 1, a0_, .ref q1_), (2, 3, a0_, .ref q2_), (2, 4, a0_, .ref q3_), (5, 1, q1_, .ref q5_)]) rfl (fun r_194 fr_194 H locs hp hMr_194 g => ?_)
                    refine lv_istore (lv' := [(7, .int r_194), (6, .int v199_6), (5, .int x_12), (4, .int r_7), (2, .long r_6), (1, .int r_5), (0, .ref a0_)]) hx hb dX2_readMemberHead_258 hl (by decide) rfl (fun ls hl => ?_)
                    refine lv_aload_n hx hb dX2_readMemberHead_260 rfl (lv_at hl 6 rfl) ?_
                    refine g_getk (C := RX2) (T := TX2) (N := 16) hx hb hts (mc_ inX2) hown hK g rfl 0 (by decide) rfl (hts _ (List.mem_cons_of_mem _ t_416)) (fun _ h9 => h9) 10 rfl dX2_readMemberHead_261 ?_
                    refine lv_bipush (v := 41) hx hb dX2_readMemberHead_264 (by decide) ?_
                    refine g_callv (va_runV (As := [.int 41]) (rest := []) ⟨hx, hb, hml, hown, hts⟩ (r_X8_take_2 l dC dI L kd tys fr_194 H.size g.2.2.2.1 q0_ mq0_ kq0_ 41 1201 kb_1201 x_41 h_42 (g.fcts [0, 1] rfl)) (cwV 1 hts (gV_ t_1098 t_1099 t_1100 t_184 t_1101) rfl rfl rfl (by decide +kernel) ⟨(Nat.le_of_ble_eq_true rfl), (Nat.le_of_ble_eq_true rfl)⟩) (pre3V g hK mq0_ kq0_ (by decide) (q := (RX8, TX8, 10)) rfl) rfl rfl hl.1 rfl (lv_room (Nat.le_of_ble_eq_true rfl)) dX2_readMemberHead_266 ⟨(Nat.le_of_ble_eq_true rfl), (Nat.le_of_ble_eq_true rfl)⟩) g hK (by decide) (by decide) (fx' := [(8, 8, q0_, .int x_41), (2, 6, a0_, .int 0), (9, 8, q3_, .int x_25), (2, 5, a0_, .ref a_27), (7, 3, q2_, .int x_28), (6, 12, a_27, .int x_30), (5, 2, q1_, .int x_21), (7, 2, q2_, .ref a_18), (9, 9, q3_, .ref a_11), (2, 0, a0_, .ref q0_), (2, 1, a0_, .ref q1_), (2, 3, a0_, .ref q2_), (2, 4, a0_, .ref q3_), (5, 1, q1_, .ref q5_)]) rfl (fun fr_195 H locs hp hMr_195 g => ?_)
                    obtain ⟨x_196, h_197, hF_198⟩ := hp
                    have g := g.more hF_198
                    refine lv_iload hx hb dX2_readMemberHead_269 (lv_at hl 2 rfl) ?_
                    refine lv_iconst (v := (-1)) hx hb dX2_readMemberHead_271 (by decide) ?_
                    refine lv_icmp_eq (tgt := 308) hx hb dX2_readMemberHead_272 (by decide) (fun c_199 => ?_) (fun c_199 => ?_)
                    · have fc_199 := eq_f c_199
                      have b_200 : bd 0 (-1) x_12 := eqX fc_199 bx_12 kb_m1 (by decide)
                      exact bd_no b_200 (by decide)
                    · have fc_199 := neq_f c_199
                      refine lv_aload_n hx hb dX2_readMemberHead_275 rfl (lv_at hl 6 rfl) ?_
                      refine g_getk (C := RX2) (T := TX2) (N := 16) hx hb hts (mc_ inX2) hown hK g rfl 3 (by decide) rfl (hts _ (List.mem_cons_of_mem _ t_419)) (fun _ h9 => h9) 12 rfl dX2_readMemberHead_276 ?_
                      refine g_getk (C := RX7) (T := TX7) (N := 19) hx hb hts (mc_ inX7) hown hK g rfl 2 (by decide) rfl (hts _ (List.mem_cons_of_mem _ t_630)) (fun _ h9 => h9) 8 rfl dX2_readMemberHead_279 ?_
                      refine lv_iload hx hb dX2_readMemberHead_282 (lv_at hl 2 rfl) ?_
                      refine g_aald hx hb hK g ma_18 ka_18 (by decide) rfl (by decide) (in_bd bx_12 (by decide)) dX2_readMemberHead_284 (fun a_201 ma_201 ua_201 wa_201 => ?_)
                      have ka_201 : kd a_201 = 6 := by omega
                      refine g_geti (C := RX6) (T := TX6) (N := 13) hx hb hts (mc_ inX6) hown hK g ma_201 ka_201 (by decide) rfl 3 (by decide) rfl (hts _ (List.mem_cons_of_mem _ t_568)) (fun _ h9 => h9) rfl dX2_readMemberHead_285 (fun x_202 bx_202 g => ?_)
                      refine lv_aload_n hx hb dX2_readMemberHead_288 rfl (lv_at hl 6 rfl) ?_
                      refine g_getk (C := RX2) (T := TX2) (N := 16) hx hb hts (mc_ inX2) hown hK g rfl 5 (by decide) rfl (hts _ (List.mem_cons_of_mem _ t_421)) (fun _ h9 => h9) 5 rfl dX2_readMemberHead_289 ?_
                      refine g_geti (C := RX6) (T := TX6) (N := 13) hx hb hts (mc_ inX6) hown hK g ma_27 ka_27 (by decide) rfl 3 (by decide) rfl (hts _ (List.mem_cons_of_mem _ t_568)) (fun _ h9 => h9) rfl dX2_readMemberHead_292 (fun x_203 bx_203 g => ?_)
                      refine lv_icmp_eq (tgt := 308) hx hb dX2_readMemberHead_295 (by decide) (fun c_204 => ?_) (fun c_204 => ?_)
                      · have fc_204 := eq_f c_204
                        subst hQ
                        exact W.vret hx hb hr (fun t ht hW => ⟨⟨_, rfl, Or.inr (⟨x_196, h_197, x_41, h_42, a_27, ⟨ma_27, ka_27⟩, (g.fcts [2, 3, 6] rfl)⟩), q3_of g hK ht hW⟩, g.2.2.1.F ht⟩) g.2.2.1.2.2 dX2_readMemberHead_308
                      · have fc_204 := neq_f c_204
                        refine lv_aload_n hx hb dX2_readMemberHead_298 rfl (lv_at hl 6 rfl) ?_
                        refine g_getk (C := RX2) (T := TX2) (N := 16) hx hb hts (mc_ inX2) hown hK g rfl 0 (by decide) rfl (hts _ (List.mem_cons_of_mem _ t_416)) (fun _ h9 => h9) 12 rfl dX2_readMemberHead_299 ?_
                        refine lv_iconst (v := 5) hx hb dX2_readMemberHead_302 (by decide) ?_
                        refine lv_iload hx hb dX2_readMemberHead_303 (lv_at hl 0 rfl) ?_
                        have kb_5 : bd 5 5 (5 : Int32) := ⟨by decide, by decide⟩
                        refine g_callv (va_runV (As := [.int 5, .int r_194]) (rest := []) ⟨hx, hb, hml, hown, hts⟩ (r_X8_fail_2 l dC dI L kd tys fr_195 H.size g.2.2.2.1 q0_ mq0_ kq0_ 5 (bd_sub kb_5 (by decide)) r_194 x_41 h_42 (g.fcts [3] rfl)) (cwV 2 hts (gV_ t_1122 t_1107 t_1108 t_184 t_1109) rfl rfl rfl (by decide +kernel) ⟨(Nat.le_of_ble_eq_true rfl), (Nat.le_of_ble_eq_true rfl)⟩) (pre3V g hK mq0_ kq0_ (by decide) (q := (RX8, TX8, 10)) rfl) rfl rfl hl.1 rfl (lv_room (Nat.le_of_ble_eq_true rfl)) dX2_readMemberHead_305 ⟨(Nat.le_of_ble_eq_true rfl), (Nat.le_of_ble_eq_true rfl)⟩) g hK (by decide) (by decide) (fx' := [(6, 3, a_27, .int x_203), (6, 3, a_201, .int x_202), (8, 8, q0_, .int x_41), (2, 6, a0_, .int 0), (9, 8, q3_, .int x_25), (2, 5, a0_, .ref a_27), (7, 3, q2_, .int x_28), (6, 12, a_27, .int x_30), (5, 2, q1_, .int x_21), (7, 2, q2_, .ref a_18), (9, 9, q3_, .ref a_11), (2, 0, a0_, .ref q0_), (2, 1, a0_, .ref q1_), (2, 3, a0_, .ref q2_), (2, 4, a0_, .ref q3_), (5, 1, q1_, .ref q5_)]) rfl (fun fr_205 H locs hp hMr_205 g => ?_)
                        have hF_206 := hp
                        have g := g.more hF_206
                        subst hQ
                        exact W.vret hx hb hr (fun t ht hW => ⟨⟨_, rfl, Or.inr (⟨1201, kb_1201, x_41, h_42, a_27, ⟨ma_27, ka_27⟩, (g.fcts [0, 3, 6] rfl)⟩), q3_of g hK ht hW⟩, g.2.2.1.F ht⟩) g.2.2.1.2.2 dX2_readMemberHead_308
                  · have fc_192 := nlt_f c_192
                    have b_207 : bd 0 3 v199_7 := leL fc_192 bv199_7 kb_3 (by decide)
                    refine lv_iload hx hb dX2_readMemberHead_205 (lv_at hl 1 rfl) ?_
                    have kb_0 : bd 0 0 (0 : Int32) := ⟨by decide, by decide⟩
                    refine lv_if_eq (tgt := 251) hx hb dX2_readMemberHead_207 (by decide) (fun c_208 => ?_) (fun c_208 => ?_)
                    · have fc_208 := eq_f c_208
                      have b_209 : bd 0 0 v199_6 := eqX fc_208 bv199_6 kb_0 (by decide)
                      refine lv_aload_n hx hb dX2_readMemberHead_251 rfl (lv_at hl 6 rfl) ?_
                      refine g_getk (C := RX2) (T := TX2) (N := 16) hx hb hts (mc_ inX2) hown hK g rfl 0 (by decide) rfl (hts _ (List.mem_cons_of_mem _ t_416)) (fun _ h9 => h9) 10 rfl dX2_readMemberHead_252 ?_
                      refine g_calli (va_runV (As := []) (rest := []) ⟨hx, hb, hml, hown, hts⟩ (r_X8_place l dC dI L kd tys f H.size g.2.2.2.1 q0_ mq0_ kq0_) (cwV 0 hts (gV_ t_1110 t_1111 t_1112 t_184 t_1113) rfl rfl rfl (by decide +kernel) ⟨(Nat.le_of_ble_eq_true rfl), (Nat.le_of_ble_eq_true rfl)⟩) (pre3V g hK mq0_ kq0_ (by decide) (q := (RX8, TX8, 10)) rfl) rfl rfl hl.1 rfl (lv_room (Nat.le_of_ble_eq_true rfl)) dX2_readMemberHead_255 ⟨(Nat.le_of_ble_eq_true rfl), (Nat.le_of_ble_eq_true rfl)⟩) g hK (by decide) (by decide) (fx' := [(8, 6, q0_, .int 1201), (8, 8, q0_, .int x_41), (2, 6, a0_, .int 0), (9, 8, q3_, .int x_25), (2, 5, a0_, .ref a_27), (7, 3, q2_, .int x_28), (6, 12, a_27, .int x_30), (5, 2, q1_, .int x_21), (7, 2, q2_, .ref a_18), (9, 9, q3_, .ref a_11), (2, 0, a0_, .ref q0_), (2, 1, a0_, .ref q1_), (2, 3, a0_, .ref q2_), (2, 4, a0_, .ref q3_), (5, 1, q1_, .ref q5_)]) rfl (fun r_210 fr_210 H locs hp hMr_210 g => ?_)
                      refine lv_istore (lv' := [(7, .int r_210), (6, .int v199_6), (5, .int x_12), (4, .int r_7), (2, .long r_6), (1, .int r_5), (0, .ref a0_)]) hx hb dX2_readMemberHead_258 hl (by decide) rfl (fun ls hl => ?_)
                      refine lv_aload_n hx hb dX2_readMemberHead_260 rfl (lv_at hl 6 rfl) ?_
                      refine g_getk (C := RX2) (T := TX2) (N := 16) hx hb hts (mc_ inX2) hown hK g rfl 0 (by decide) rfl (hts _ (List.mem_cons_of_mem _ t_416)) (fun _ h9 => h9) 10 rfl dX2_readMemberHead_261 ?_
                      refine lv_bipush (v := 41) hx hb dX2_readMemberHead_264 (by decide) ?_
                      refine g_callv (va_runV (As := [.int 41]) (rest := []) ⟨hx, hb, hml, hown, hts⟩ (r_X8_take_2 l dC dI L kd tys fr_210 H.size g.2.2.2.1 q0_ mq0_ kq0_ 41 1201 kb_1201 x_41 h_42 (g.fcts [0, 1] rfl)) (cwV 1 hts (gV_ t_1098 t_1099 t_1100 t_184 t_1101) rfl rfl rfl (by decide +kernel) ⟨(Nat.le_of_ble_eq_true rfl), (Nat.le_of_ble_eq_true rfl)⟩) (pre3V g hK mq0_ kq0_ (by decide) (q := (RX8, TX8, 10)) rfl) rfl rfl hl.1 rfl (lv_room (Nat.le_of_ble_eq_true rfl)) dX2_readMemberHead_266 ⟨(Nat.le_of_ble_eq_true rfl), (Nat.le_of_ble_eq_true rfl)⟩) g hK (by decide) (by decide) (fx' := [(8, 8, q0_, .int x_41), (2, 6, a0_, .int 0), (9, 8, q3_, .int x_25), (2, 5, a0_, .ref a_27), (7, 3, q2_, .int x_28), (6, 12, a_27, .int x_30), (5, 2, q1_, .int x_21), (7, 2, q2_, .ref a_18), (9, 9, q3_, .ref a_11), (2, 0, a0_, .ref q0_), (2, 1, a0_, .ref q1_), (2, 3, a0_, .ref q2_), (2, 4, a0_, .ref q3_), (5, 1, q1_, .ref q5_)]) rfl (fun fr_211 H locs hp hMr_211 g => ?_)
                      obtain ⟨x_212, h_213, hF_214⟩ := hp
                      have g := g.more hF_214
                      refine lv_iload hx hb dX2_readMemberHead_269 (lv_at hl 2 rfl) ?_
                      refine lv_iconst (v := (-1)) hx hb dX2_readMemberHead_271 (by decide) ?_
                      refine lv_icmp_eq (tgt := 308) hx hb dX2_readMemberHead_272 (by decide) (fun c_215 => ?_) (fun c_215 => ?_)
                      · have fc_215 := eq_f c_215
                        have b_216 : bd 0 (-1) x_12 := eqX fc_215 bx_12 kb_m1 (by decide)
                        exact bd_no b_216 (by decide)
                      · have fc_215 := neq_f c_215
                        refine lv_aload_n hx hb dX2_readMemberHead_275 rfl (lv_at hl 6 rfl) ?_
                        refine g_getk (C := RX2) (T := TX2) (N := 16) hx hb hts (mc_ inX2) hown hK g rfl 3 (by decide) rfl (hts _ (List.mem_cons_of_mem _ t_419)) (fun _ h9 => h9) 12 rfl dX2_readMemberHead_276 ?_
                        refine g_getk (C := RX7) (T := TX7) (N := 19) hx hb hts (mc_ inX7) hown hK g rfl 2 (by decide) rfl (hts _ (List.mem_cons_of_mem _ t_630)) (fun _ h9 => h9) 8 rfl dX2_readMemberHead_279 ?_
                        refine lv_iload hx hb dX2_readMemberHead_282 (lv_at hl 2 rfl) ?_
                        refine g_aald hx hb hK g ma_18 ka_18 (by decide) rfl (by decide) (in_bd bx_12 (by decide)) dX2_readMemberHead_284 (fun a_217 ma_217 ua_217 wa_217 => ?_)
                        have ka_217 : kd a_217 = 6 := by omega
                        refine g_geti (C := RX6) (T := TX6) (N := 13) hx hb hts (mc_ inX6) hown hK g ma_217 ka_217 (by decide) rfl 3 (by decide) rfl (hts _ (List.mem_cons_of_mem _ t_568)) (fun _ h9 => h9) rfl dX2_readMemberHead_285 (fun x_218 bx_218 g => ?_)
                        refine lv_aload_n hx hb dX2_readMemberHead_288 rfl (lv_at hl 6 rfl) ?_
                        refine g_getk (C := RX2) (T := TX2) (N := 16) hx hb hts (mc_ inX2) hown hK g rfl 5 (by decide) rfl (hts _ (List.mem_cons_of_mem _ t_421)) (fun _ h9 => h9) 5 rfl dX2_readMemberHead_289 ?_
                        refine g_geti (C := RX6) (T := TX6) (N := 13) hx hb hts (mc_ inX6) hown hK g ma_27 ka_27 (by decide) rfl 3 (by decide) rfl (hts _ (List.mem_cons_of_mem _ t_568)) (fun _ h9 => h9) rfl dX2_readMemberHead_292 (fun x_219 bx_219 g => ?_)
                        refine lv_icmp_eq (tgt := 308) hx hb dX2_readMemberHead_295 (by decide) (fun c_220 => ?_) (fun c_220 => ?_)
                        · have fc_220 := eq_f c_220
                          subst hQ
                          exact W.vret hx hb hr (fun t ht hW => ⟨⟨_, rfl, Or.inr (⟨x_212, h_213, x_41, h_42, a_27, ⟨ma_27, ka_27⟩, (g.fcts [2, 3, 6] rfl)⟩), q3_of g hK ht hW⟩, g.2.2.1.F ht⟩) g.2.2.1.2.2 dX2_readMemberHead_308
                        · have fc_220 := neq_f c_220
                          refine lv_aload_n hx hb dX2_readMemberHead_298 rfl (lv_at hl 6 rfl) ?_
                          refine g_getk (C := RX2) (T := TX2) (N := 16) hx hb hts (mc_ inX2) hown hK g rfl 0 (by decide) rfl (hts _ (List.mem_cons_of_mem _ t_416)) (fun _ h9 => h9) 12 rfl dX2_readMemberHead_299 ?_
                          refine lv_iconst (v := 5) hx hb dX2_readMemberHead_302 (by decide) ?_
                          refine lv_iload hx hb dX2_readMemberHead_303 (lv_at hl 0 rfl) ?_
                          have kb_5 : bd 5 5 (5 : Int32) := ⟨by decide, by decide⟩
                          refine g_callv (va_runV (As := [.int 5, .int r_210]) (rest := []) ⟨hx, hb, hml, hown, hts⟩ (r_X8_fail_2 l dC dI L kd tys fr_211 H.size g.2.2.2.1 q0_ mq0_ kq0_ 5 (bd_sub kb_5 (by decide)) r_210 x_41 h_42 (g.fcts [3] rfl)) (cwV 2 hts (gV_ t_1122 t_1107 t_1108 t_184 t_1109) rfl rfl rfl (by decide +kernel) ⟨(Nat.le_of_ble_eq_true rfl), (Nat.le_of_ble_eq_true rfl)⟩) (pre3V g hK mq0_ kq0_ (by decide) (q := (RX8, TX8, 10)) rfl) rfl rfl hl.1 rfl (lv_room (Nat.le_of_ble_eq_true rfl)) dX2_readMemberHead_305 ⟨(Nat.le_of_ble_eq_true rfl), (Nat.le_of_ble_eq_true rfl)⟩) g hK (by decide) (by decide) (fx' := [(6, 3, a_27, .int x_219), (6, 3, a_217, .int x_218), (8, 8, q0_, .int x_41), (2, 6, a0_, .int 0), (9, 8, q3_, .int x_25), (2, 5, a0_, .ref a_27), (7, 3, q2_, .int x_28), (6, 12, a_27, .int x_30), (5, 2, q1_, .int x_21), (7, 2, q2_, .ref a_18), (9, 9, q3_, .ref a_11), (2, 0, a0_, .ref q0_), (2, 1, a0_, .ref q1_), (2, 3, a0_, .ref q2_), (2, 4, a0_, .ref q3_), (5, 1, q1_, .ref q5_)]) rfl (fun fr_221 H locs hp hMr_221 g => ?_)
                          have hF_222 := hp
                          have g := g.more hF_222
                          subst hQ
                          exact W.vret hx hb hr (fun t ht hW => ⟨⟨_, rfl, Or.inr (⟨1201, kb_1201, x_41, h_42, a_27, ⟨ma_27, ka_27⟩, (g.fcts [0, 3, 6] rfl)⟩), q3_of g hK ht hW⟩, g.2.2.1.F ht⟩) g.2.2.1.2.2 dX2_readMemberHead_308
                    · have fc_208 := neq_f c_208
                      have b_223 : bd 1 1 v199_6 := neX fc_208 bv199_6 kb_0 (by decide)
                      refine lv_aload_n hx hb dX2_readMemberHead_210 rfl (lv_at hl 6 rfl) ?_
                      refine g_callv (va_runV (As := []) (rest := []) ⟨hx, hb, hml, hown, hts⟩ (r_X2_readParam_2 l dC dI L kd tys f H.size g.2.2.2.1 a0_ ma0_ ka0_ q0_ mq0_ kq0_ q1_ mq1_ kq1_ a_27 ma_27 ka_27 q5_ mq5_ kq5_ 1201 kb_1201 x_41 h_42 (g.fcts [10, 11, 4, 14, 0, 1] rfl)) (cwV 0 hts (gV_ t_1313 t_1315 t_34 t_183 t_1316) rfl rfl rfl (by decide +kernel) ⟨(Nat.le_of_ble_eq_true rfl), (Nat.le_of_ble_eq_true rfl)⟩) (pre3V g hK ma0_ ka0_ (by decide) (q := (RX2, TX2, 16)) rfl) rfl rfl hl.1 rfl (lv_room (Nat.le_of_ble_eq_true rfl)) dX2_readMemberHead_211 ⟨(Nat.le_of_ble_eq_true rfl), (Nat.le_of_ble_eq_true rfl)⟩) g hK (by decide) (by decide) (fx' := [(8, 8, q0_, .int x_41), (2, 6, a0_, .int 0), (9, 8, q3_, .int x_25), (2, 5, a0_, .ref a_27), (7, 3, q2_, .int x_28), (6, 12, a_27, .int x_30), (5, 2, q1_, .int x_21), (7, 2, q2_, .ref a_18), (9, 9, q3_, .ref a_11), (2, 0, a0_, .ref q0_), (2, 1, a0_, .ref q1_), (2, 3, a0_, .ref q2_), (2, 4, a0_, .ref q3_), (5, 1, q1_, .ref q5_)]) rfl (fun fr_224 H locs hp hMr_224 g => ?_)
                      have hF_225 := hp
                      have g := g.more hF_225
                      refine lv_aload_n hx hb dX2_readMemberHead_214 rfl (lv_at hl 6 rfl) ?_
                      refine g_getk (C := RX2) (T := TX2) (N := 16) hx hb hts (mc_ inX2) hown hK g rfl 0 (by decide) rfl (hts _ (List.mem_cons_of_mem _ t_416)) (fun _ h9 => h9) 10 rfl dX2_readMemberHead_215 ?_
                      refine g_calli (va_runV (As := []) (rest := []) ⟨hx, hb, hml, hown, hts⟩ (r_X8_kind_2 l dC dI L kd tys fr_224 H.size g.2.2.2.1 q0_ mq0_ kq0_ 1201 kb_1201 (g.fcts [0] rfl)) (cwV 0 hts (gV_ t_1118 t_1119 t_1120 t_184 t_1121) rfl rfl rfl (by decide +kernel) ⟨(Nat.le_of_ble_eq_true rfl), (Nat.le_of_ble_eq_true rfl)⟩) (pre3V g hK mq0_ kq0_ (by decide) (q := (RX8, TX8, 10)) rfl) rfl rfl hl.1 rfl (lv_room (Nat.le_of_ble_eq_true rfl)) dX2_readMemberHead_218 ⟨(Nat.le_of_ble_eq_true rfl), (Nat.le_of_ble_eq_true rfl)⟩) g hK (by decide) (by decide) (fx' := [(8, 6, q0_, .int 1201), (8, 8, q0_, .int x_41), (2, 6, a0_, .int 0), (9, 8, q3_, .int x_25), (2, 5, a0_, .ref a_27), (7, 3, q2_, .int x_28), (6, 12, a_27, .int x_30), (5, 2, q1_, .int x_21), (7, 2, q2_, .ref a_18), (9, 9, q3_, .ref a_11), (2, 0, a0_, .ref q0_), (2, 1, a0_, .ref q1_), (2, 3, a0_, .ref q2_), (2, 4, a0_, .ref q3_), (5, 1, q1_, .ref q5_)]) rfl (fun r_226 fr_226 H locs hp hMr_226 g => ?_)
                      obtain ⟨h_227, -⟩ := hp
                      obtain rfl : r_226 = 0 := h_227
                      refine lv_bipush (v := 44) hx hb dX2_readMemberHead_221 (by decide) ?_
                      refine lv_icmp_ne (tgt := 230) hx hb dX2_readMemberHead_223 (by decide) (fun c_ => ?_) (fun c_ => absurd c_ (by decide))
                      refine lv_iconst (v := 0) hx hb dX2_readMemberHead_230 (by decide) ?_
                      refine lv_istore (lv' := [(6, .int 0), (7, .int v199_7), (5, .int x_12), (4, .int r_7), (2, .long r_6), (1, .int r_5), (0, .ref a0_)]) hx hb dX2_readMemberHead_231 hl (by decide) rfl (fun ls hl => ?_)
                      refine lv_iload hx hb dX2_readMemberHead_233 (lv_at hl 0 rfl) ?_
                      refine lv_if_eq (tgt := 245) hx hb dX2_readMemberHead_235 (by decide) (fun c_ => ?_) (fun c_ => absurd (by decide) c_)
                      have kb_1 : bd 1 1 (1 : Int32) := ⟨by decide, by decide⟩
                      obtain ⟨y_228, ey_228⟩ : ∃ z : Int32, z = v199_7 + 1 := ⟨_, rfl⟩
                      refine lv_iinc (v := y_228) (lv' := [(7, .int y_228), (6, .int 0), (5, .int x_12), (4, .int r_7), (2, .long r_6), (1, .int r_5), (0, .ref a0_)]) hx hb dX2_readMemberHead_245 hl (k := 1) rfl (by rw [ey_228]; rfl) (by decide) rfl (fun ls hl => ?_)
                      have ty_228 := add_bd ey_228 b_207 kb_1 (by decide)
                      have b_229 : bd 1 4 y_228 := add_rg ty_228 b_207 kb_1 (by decide)
                      refine lv_goto (tgt := 199) hx hb dX2_readMemberHead_248 (by decide) ?_
                      have hl9 := lv_sub hl [0, 1, 2, 3, 4, 5, 6] (by rfl : lv_pick [(7, .int y_228), (6, .int 0), (5, .int x_12), (4, .int r_7), (2, .long r_6), (1, .int r_5), (0, .ref a0_)] [0, 1, 2, 3, 4, 5, 6] = [(7, .int y_228), (6, .int 0), (5, .int x_12), (4, .int r_7), (2, .long r_6), (1, .int r_5), (0, .ref a0_)])
                      have g9 := g.sub (fx' := [(8, 6, q0_, .int 1201), (8, 8, q0_, .int x_41), (2, 6, a0_, .int 0), (9, 8, q3_, .int x_25), (2, 5, a0_, .ref a_27), (7, 3, q2_, .int x_28), (6, 12, a_27, .int x_30), (5, 2, q1_, .int x_21), (7, 2, q2_, .ref a_18), (9, 9, q3_, .ref a_11), (2, 0, a0_, .ref q0_), (2, 1, a0_, .ref q1_), (2, 3, a0_, .ref q2_), (2, 4, a0_, .ref q3_), (5, 1, q1_, .ref q5_)]) [0, 1, 2, 3, 4, 5, 6, 7, 8, 9, 10, 11, 12, 13, 14] rfl
                      exact ih199  y_228 0 (bd_sub b_229 (by decide)) (bd_sub kb_0 (by decide)) (by have h9_0 := b_229; unfold bd at h9_0; have h9_1 := bv199_6; unfold bd at h9_1; have h9_2 := bv199_7; unfold bd at h9_2; have h9_3 := kb_0; unfold bd at h9_3; have h9_4 := kb_1; unfold bd at h9_4; have h9_5 := kb_1201; unfold bd at h9_5; have h9_6 := kb_3; unfold bd at h9_6; have h9_7 := kb_m1; unfold bd at h9_7; omega) _ _ _ _ g9  hl9
              have kb_0 : bd 0 0 (0 : Int32) := ⟨by decide, by decide⟩
              have kb_1 : bd 1 1 (1 : Int32) := ⟨by decide, by decide⟩
              have hl9 := lv_sub hl [0, 1, 2, 3, 4, 5, 6] (by rfl : lv_pick [(7, .int 0), (6, .int 1), (5, .int x_12), (4, .int r_7), (2, .long r_6), (1, .int r_5), (0, .ref a0_)] [0, 1, 2, 3, 4, 5, 6] = [(7, .int 0), (6, .int 1), (5, .int x_12), (4, .int r_7), (2, .long r_6), (1, .int r_5), (0, .ref a0_)])
              have g9 := g.sub (fx' := [(8, 6, q0_, .int 1201), (8, 8, q0_, .int x_41), (2, 6, a0_, .int 0), (9, 8, q3_, .int x_25), (2, 5, a0_, .ref a_27), (7, 3, q2_, .int x_28), (6, 12, a_27, .int x_30), (5, 2, q1_, .int x_21), (7, 2, q2_, .ref a_18), (9, 9, q3_, .ref a_11), (2, 0, a0_, .ref q0_), (2, 1, a0_, .ref q1_), (2, 3, a0_, .ref q2_), (2, 4, a0_, .ref q3_), (5, 1, q1_, .ref q5_)]) [0, 1, 2, 3, 4, 5, 6, 7, 8, 9, 10, 11, 12, 13, 14] rfl
              exact loop_191 (11) 0 1 (bd_sub kb_0 (by decide)) (bd_sub kb_1 (by decide)) (by have h9_0 := kb_0; unfold bd at h9_0; have h9_1 := kb_1; unfold bd at h9_1; have h9_2 := kb_1201; unfold bd at h9_2; have h9_3 := kb_3; unfold bd at h9_3; have h9_4 := kb_m1; unfold bd at h9_4; omega) _ _ _ _ g9  hl9
          · have fc_23 := eq_f c_23
            have b_230 : bd 0 (-1) x_12 := eqX fc_23 bx_12 kb_m1 (by decide)
            exact bd_no b_230 (by decide)
        · have fc_22 := eq_f c_22
          refine lv_aload_n hx hb dX2_readMemberHead_111 rfl (lv_at hl 4 rfl) ?_
          refine g_getk (C := RX2) (T := TX2) (N := 16) hx hb hts (mc_ inX2) hown hK g rfl 0 (by decide) rfl (hts _ (List.mem_cons_of_mem _ t_416)) (fun _ h9 => h9) 5 rfl dX2_readMemberHead_112 ?_
          refine lv_iconst (v := 2) hx hb dX2_readMemberHead_115 (by decide) ?_
          refine lv_iload_n hx hb dX2_readMemberHead_116 rfl (lv_at hl 3 rfl) ?_
          have kb_2 : bd 2 2 (2 : Int32) := ⟨by decide, by decide⟩
          refine g_callv (va_runV (As := [.int 2, .int r_5]) (rest := []) ⟨hx, hb, hml, hown, hts⟩ (r_X8_fail l dC dI L kd tys fr_13 H.size g.2.2.2.1 q0_ mq0_ kq0_ 2 (bd_sub kb_2 (by decide)) r_5 y0_ by0_ (g.fcts [11] rfl)) (cwV 2 hts (gV_ t_1122 t_1107 t_1108 t_184 t_1109) rfl rfl rfl (by decide +kernel) ⟨(Nat.le_of_ble_eq_true rfl), (Nat.le_of_ble_eq_true rfl)⟩) (pre3V g hK mq0_ kq0_ (by decide) (q := (RX8, TX8, 10)) rfl) rfl rfl hl.1 rfl (lv_room (Nat.le_of_ble_eq_true rfl)) dX2_readMemberHead_117 ⟨(Nat.le_of_ble_eq_true rfl), (Nat.le_of_ble_eq_true rfl)⟩) g hK (by decide) (by decide) (fx' := [(5, 2, q1_, .int x_21), (6, 2, a_19, .int x_20), (7, 2, q2_, .ref a_18), (9, 9, q3_, .ref a_11), (2, 0, a0_, .ref q0_), (2, 1, a0_, .ref q1_), (2, 3, a0_, .ref q2_), (2, 4, a0_, .ref q3_), (2, 5, a0_, .ref q4_), (5, 1, q1_, .ref q5_)]) rfl (fun fr_231 H locs hp hMr_231 g => ?_)
          obtain ⟨x_232, h_233, hF_234⟩ := hp
          have g := g.more hF_234
          refine lv_goto (tgt := 161) hx hb dX2_readMemberHead_120 (by decide) ?_
          refine lv_aload_n hx hb dX2_readMemberHead_161 rfl (lv_at hl 4 rfl) ?_
          refine g_getk (C := RX2) (T := TX2) (N := 16) hx hb hts (mc_ inX2) hown hK g rfl 0 (by decide) rfl (hts _ (List.mem_cons_of_mem _ t_416)) (fun _ h9 => h9) 6 rfl dX2_readMemberHead_162 ?_
          have kb_1201 : bd 1201 1201 (1201 : Int32) := ⟨by decide, by decide⟩
          refine g_callv (va_runV (As := []) (rest := []) ⟨hx, hb, hml, hown, hts⟩ (r_X8_next_2 l dC dI L kd tys fr_231 H.size g.2.2.2.1 q0_ mq0_ kq0_ 1201 kb_1201 (g.fcts [0] rfl)) (cwV 0 hts (gV_ t_1131 t_1103 t_1104 t_184 t_1105) rfl rfl rfl (by decide +kernel) ⟨(Nat.le_of_ble_eq_true rfl), (Nat.le_of_ble_eq_true rfl)⟩) (pre3V g hK mq0_ kq0_ (by decide) (q := (RX8, TX8, 10)) rfl) rfl rfl hl.1 rfl (lv_room (Nat.le_of_ble_eq_true rfl)) dX2_readMemberHead_165 ⟨(Nat.le_of_ble_eq_true rfl), (Nat.le_of_ble_eq_true rfl)⟩) g hK (by decide) (by decide) (fx' := [(8, 6, q0_, .int 1201), (8, 8, q0_, .int x_232), (5, 2, q1_, .int x_21), (6, 2, a_19, .int x_20), (7, 2, q2_, .ref a_18), (9, 9, q3_, .ref a_11), (2, 0, a0_, .ref q0_), (2, 1, a0_, .ref q1_), (2, 3, a0_, .ref q2_), (2, 4, a0_, .ref q3_), (2, 5, a0_, .ref q4_), (5, 1, q1_, .ref q5_)]) rfl (fun fr_235 H locs hp hMr_235 g => ?_)
          refine lv_aload_n hx hb dX2_readMemberHead_168 rfl (lv_at hl 4 rfl) ?_
          refine g_getk (C := RX2) (T := TX2) (N := 16) hx hb hts (mc_ inX2) hown hK g rfl 0 (by decide) rfl (hts _ (List.mem_cons_of_mem _ t_416)) (fun _ h9 => h9) 6 rfl dX2_readMemberHead_169 ?_
          refine lv_bipush (v := 40) hx hb dX2_readMemberHead_172 (by decide) ?_
          refine g_callv (va_runV (As := [.int 40]) (rest := []) ⟨hx, hb, hml, hown, hts⟩ (r_X8_take_2 l dC dI L kd tys fr_235 H.size g.2.2.2.1 q0_ mq0_ kq0_ 40 1201 kb_1201 x_232 h_233 (g.fcts [0, 1] rfl)) (cwV 1 hts (gV_ t_1098 t_1099 t_1100 t_184 t_1101) rfl rfl rfl (by decide +kernel) ⟨(Nat.le_of_ble_eq_true rfl), (Nat.le_of_ble_eq_true rfl)⟩) (pre3V g hK mq0_ kq0_ (by decide) (q := (RX8, TX8, 10)) rfl) rfl rfl hl.1 rfl (lv_room (Nat.le_of_ble_eq_true rfl)) dX2_readMemberHead_174 ⟨(Nat.le_of_ble_eq_true rfl), (Nat.le_of_ble_eq_true rfl)⟩) g hK (by decide) (by decide) (fx' := [(8, 8, q0_, .int x_232), (5, 2, q1_, .int x_21), (6, 2, a_19, .int x_20), (7, 2, q2_, .ref a_18), (9, 9, q3_, .ref a_11), (2, 0, a0_, .ref q0_), (2, 1, a0_, .ref q1_), (2, 3, a0_, .ref q2_), (2, 4, a0_, .ref q3_), (2, 5, a0_, .ref q4_), (5, 1, q1_, .ref q5_)]) rfl (fun fr_236 H locs hp hMr_236 g => ?_)
          obtain ⟨x_237, h_238, hF_239⟩ := hp
          have g := g.more hF_239
          refine lv_aload_n hx hb dX2_readMemberHead_177 rfl (lv_at hl 4 rfl) ?_
          refine g_getk (C := RX2) (T := TX2) (N := 16) hx hb hts (mc_ inX2) hown hK g rfl 0 (by decide) rfl (hts _ (List.mem_cons_of_mem _ t_416)) (fun _ h9 => h9) 6 rfl dX2_readMemberHead_178 ?_
          refine g_calli (va_runV (As := []) (rest := []) ⟨hx, hb, hml, hown, hts⟩ (r_X8_kind_2 l dC dI L kd tys fr_236 H.size g.2.2.2.1 q0_ mq0_ kq0_ x_237 h_238 (g.fcts [0] rfl)) (cwV 0 hts (gV_ t_1118 t_1119 t_1120 t_184 t_1121) rfl rfl rfl (by decide +kernel) ⟨(Nat.le_of_ble_eq_true rfl), (Nat.le_of_ble_eq_true rfl)⟩) (pre3V g hK mq0_ kq0_ (by decide) (q := (RX8, TX8, 10)) rfl) rfl rfl hl.1 rfl (lv_room (Nat.le_of_ble_eq_true rfl)) dX2_readMemberHead_181 ⟨(Nat.le_of_ble_eq_true rfl), (Nat.le_of_ble_eq_true rfl)⟩) g hK (by decide) (by decide) (fx' := [(8, 6, q0_, .int x_237), (8, 8, q0_, .int x_232), (5, 2, q1_, .int x_21), (6, 2, a_19, .int x_20), (7, 2, q2_, .ref a_18), (9, 9, q3_, .ref a_11), (2, 0, a0_, .ref q0_), (2, 1, a0_, .ref q1_), (2, 3, a0_, .ref q2_), (2, 4, a0_, .ref q3_), (2, 5, a0_, .ref q4_), (5, 1, q1_, .ref q5_)]) rfl (fun r_240 fr_240 H locs hp hMr_240 g => ?_)
          obtain ⟨h_241, -⟩ := hp
          obtain rfl : r_240 = 0 := h_241
          refine lv_bipush (v := 41) hx hb dX2_readMemberHead_184 (by decide) ?_
          refine lv_icmp_eq (tgt := 193) hx hb dX2_readMemberHead_186 (by decide) (fun c_ => absurd c_ (by decide)) (fun c_ => ?_)
          refine lv_iconst (v := 1) hx hb dX2_readMemberHead_189 (by decide) ?_
          refine lv_goto (tgt := 194) hx hb dX2_readMemberHead_190 (by decide) ?_
          refine lv_istore (lv' := [(6, .int 1), (5, .int x_12), (4, .int r_7), (2, .long r_6), (1, .int r_5), (0, .ref a0_)]) hx hb dX2_readMemberHead_194 hl (by decide) rfl (fun ls hl => ?_)
          refine lv_iconst (v := 0) hx hb dX2_readMemberHead_196 (by decide) ?_
          refine lv_istore (lv' := [(7, .int 0), (6, .int 1), (5, .int x_12), (4, .int r_7), (2, .long r_6), (1, .int r_5), (0, .ref a0_)]) hx hb dX2_readMemberHead_197 hl (by decide) rfl (fun ls hl => ?_)
          have loop_242 : ∀ (n : Nat) (v199_7 : Int32) (v199_6 : Int32) (w199_8_6_q0_ : Int32), bd 0 4 v199_7 → bd 0 1 v199_6 → bd 1201 1201 w199_8_6_q0_ → (4 - v199_7.toInt < (n : Int)) → ∀ (f : Nat → va_E) (H : Heap) (locs : List Loc) (ls : Array Slot), G3 (dC, dI) L kd tys s f0 [(2, 5), (2, 6), (5, 4), (6, 0), (6, 1), (6, 2), (6, 3), (6, 6), (6, 7), (6, 8), (6, 9), (6, 10), (6, 11), (6, 12), (7, 3), (8, 6), (8, 8), (8, 9), (9, 8)] [132, 134, 135, 156] f H locs [(8, 6, q0_, .int w199_8_6_q0_), (8, 8, q0_, .int x_232), (5, 2, q1_, .int x_21), (6, 2, a_19, .int x_20), (7, 2, q2_, .ref a_18), (9, 9, q3_, .ref a_11), (2, 0, a0_, .ref q0_), (2, 1, a0_, .ref q1_), (2, 3, a0_, .ref q2_), (2, 4, a0_, .ref q3_), (2, 5, a0_, .ref q4_), (5, 1, q1_, .ref q5_)] → lv_has ls 8 [(7, .int v199_7), (6, .int v199_6), (5, .int x_12), (4, .int r_7), (2, .long r_6), (1, .int r_5), (0, .ref a0_)] → W p l e ({ frames := 3, cells := 0, slots := 0, locals := 72 } : Room) s m [.ref a0_].toArray below meth c H locs 0 0 Q (F0 m 199 ls []) := by
            intro n199
            induction n199 with
            | zero =>
              intro v199_7 v199_6 w199_8_6_q0_ bv199_7 bv199_6 bw199_8_6_q0_ hm199 f H locs ls g  hl
              exact absurd hm199 (by have h9_v199_7 := bv199_7; unfold bd at h9_v199_7; have h9_v199_6 := bv199_6; unfold bd at h9_v199_6; have h9_w199_8_6_q0_ := bw199_8_6_q0_; unfold bd at h9_w199_8_6_q0_; omega)
            | succ n199 ih199 =>
              intro v199_7 v199_6 w199_8_6_q0_ bv199_7 bv199_6 bw199_8_6_q0_ hm199 f H locs ls g  hl
              refine lv_iload hx hb dX2_readMemberHead_199 (lv_at hl 0 rfl) ?_
              refine lv_iconst (v := 3) hx hb dX2_readMemberHead_201 (by decide) ?_
              refine lv_icmp_gt (tgt := 251) hx hb dX2_readMemberHead_202 (by decide) (fun c_243 => ?_) (fun c_243 => ?_)
              · have fc_243 := lt_f c_243
                have b_244 : bd 4 4 v199_7 := ltR fc_243 kb_3 bv199_7 (by decide)
                refine lv_aload_n hx hb dX2_readMemberHead_251 rfl (lv_at hl 6 rfl) ?_
                refine g_getk (C := RX2) (T := TX2) (N := 16) hx hb hts (mc_ inX2) hown hK g rfl 0 (by decide) rfl (hts _ (List.mem_cons_of_mem _ t_416)) (fun _ h9 => h9) 6 rfl dX2_readMemberHead_252 ?_
                refine g_calli (va_runV (As := []) (rest := []) ⟨hx, hb, hml, hown, hts⟩ (r_X8_place l dC dI L kd tys f H.size g.2.2.2.1 q0_ mq0_ kq0_) (cwV 0 hts (gV_ t_1110 t_1111 t_1112 t_184 t_1113) rfl rfl rfl (by decide +kernel) ⟨(Nat.le_of_ble_eq_true rfl), (Nat.le_of_ble_eq_true rfl)⟩) (pre3V g hK mq0_ kq0_ (by decide) (q := (RX8, TX8, 10)) rfl) rfl rfl hl.1 rfl (lv_room (Nat.le_of_ble_eq_true rfl)) dX2_readMemberHead_255 ⟨(Nat.le_of_ble_eq_true rfl), (Nat.le_of_ble_eq_true rfl)⟩) g hK (by decide) (by decide) (fx' := [(8, 6, q0_, .int w199_8_6_q0_), (8, 8, q0_, .int x_232), (5, 2, q1_, .int x_21), (6, 2, a_19, .int x_20), (7, 2, q2_, .ref a_18), (9, 9, q3_, .ref a_11), (2, 0, a0_, .ref q0_), (2, 1, a0_, .ref q1_), (2, 3, a0_, .ref q2_), (2, 4, a0_, .ref q3_), (2, 5, a0_, .ref q4_), (5, 1, q1_, .ref q5_)]) rfl (fun r_245 fr_245 H locs hp hMr_245 g => ?_)
                refine lv_istore (lv' := [(7, .int r_245), (6, .int v199_6), (5, .int x_12), (4, .int r_7), (2, .long r_6), (1, .int r_5), (0, .ref a0_)]) hx hb dX2_readMemberHead_258 hl (by decide) rfl (fun ls hl => ?_)
                refine lv_aload_n hx hb dX2_readMemberHead_260 rfl (lv_at hl 6 rfl) ?_
                refine g_getk (C := RX2) (T := TX2) (N := 16) hx hb hts (mc_ inX2) hown hK g rfl 0 (by decide) rfl (hts _ (List.mem_cons_of_mem _ t_416)) (fun _ h9 => h9) 6 rfl dX2_readMemberHead_261 ?_
                refine lv_bipush (v := 41) hx hb dX2_readMemberHead_264 (by decide) ?_
                refine g_callv (va_runV (As := [.int 41]) (rest := []) ⟨hx, hb, hml, hown, hts⟩ (r_X8_take_2 l dC dI L kd tys fr_245 H.size g.2.2.2.1 q0_ mq0_ kq0_ 41 w199_8_6_q0_ bw199_8_6_q0_ x_232 h_233 (g.fcts [0, 1] rfl)) (cwV 1 hts (gV_ t_1098 t_1099 t_1100 t_184 t_1101) rfl rfl rfl (by decide +kernel) ⟨(Nat.le_of_ble_eq_true rfl), (Nat.le_of_ble_eq_true rfl)⟩) (pre3V g hK mq0_ kq0_ (by decide) (q := (RX8, TX8, 10)) rfl) rfl rfl hl.1 rfl (lv_room (Nat.le_of_ble_eq_true rfl)) dX2_readMemberHead_266 ⟨(Nat.le_of_ble_eq_true rfl), (Nat.le_of_ble_eq_true rfl)⟩) g hK (by decide) (by decide) (fx' := [(8, 8, q0_, .int x_232), (5, 2, q1_, .int x_21), (6, 2, a_19, .int x_20), (7, 2, q2_, .ref a_18), (9, 9, q3_, .ref a_11), (2, 0, a0_, .ref q0_), (2, 1, a0_, .ref q1_), (2, 3, a0_, .ref q2_), (2, 4, a0_, .ref q3_), (2, 5, a0_, .ref q4_), (5, 1, q1_, .ref q5_)]) rfl (fun fr_246 H locs hp hMr_246 g => ?_)
                obtain ⟨x_247, h_248, hF_249⟩ := hp
                have g := g.more hF_249
                refine lv_iload hx hb dX2_readMemberHead_269 (lv_at hl 2 rfl) ?_
                refine lv_iconst (v := (-1)) hx hb dX2_readMemberHead_271 (by decide) ?_
                refine lv_icmp_eq (tgt := 308) hx hb dX2_readMemberHead_272 (by decide) (fun c_250 => ?_) (fun c_250 => ?_)
                · have fc_250 := eq_f c_250
                  have b_251 : bd 0 (-1) x_12 := eqX fc_250 bx_12 kb_m1 (by decide)
                  exact bd_no b_251 (by decide)
                · have fc_250 := neq_f c_250
                  refine lv_aload_n hx hb dX2_readMemberHead_275 rfl (lv_at hl 6 rfl) ?_
                  refine g_getk (C := RX2) (T := TX2) (N := 16) hx hb hts (mc_ inX2) hown hK g rfl 3 (by decide) rfl (hts _ (List.mem_cons_of_mem _ t_419)) (fun _ h9 => h9) 8 rfl dX2_readMemberHead_276 ?_
                  refine g_getk (C := RX7) (T := TX7) (N := 19) hx hb hts (mc_ inX7) hown hK g rfl 2 (by decide) rfl (hts _ (List.mem_cons_of_mem _ t_630)) (fun _ h9 => h9) 4 rfl dX2_readMemberHead_279 ?_
                  refine lv_iload hx hb dX2_readMemberHead_282 (lv_at hl 2 rfl) ?_
                  refine g_aald hx hb hK g ma_18 ka_18 (by decide) rfl (by decide) (in_bd bx_12 (by decide)) dX2_readMemberHead_284 (fun a_252 ma_252 ua_252 wa_252 => ?_)
                  have ka_252 : kd a_252 = 6 := by omega
                  refine g_geti (C := RX6) (T := TX6) (N := 13) hx hb hts (mc_ inX6) hown hK g ma_252 ka_252 (by decide) rfl 3 (by decide) rfl (hts _ (List.mem_cons_of_mem _ t_568)) (fun _ h9 => h9) rfl dX2_readMemberHead_285 (fun x_253 bx_253 g => ?_)
                  refine lv_aload_n hx hb dX2_readMemberHead_288 rfl (lv_at hl 6 rfl) ?_
                  refine g_getk (C := RX2) (T := TX2) (N := 16) hx hb hts (mc_ inX2) hown hK g rfl 5 (by decide) rfl (hts _ (List.mem_cons_of_mem _ t_421)) (fun _ h9 => h9) 11 rfl dX2_readMemberHead_289 ?_
                  refine g_geti (C := RX6) (T := TX6) (N := 13) hx hb hts (mc_ inX6) hown hK g mq4_ kq4_ (by decide) rfl 3 (by decide) rfl (hts _ (List.mem_cons_of_mem _ t_568)) (fun _ h9 => h9) rfl dX2_readMemberHead_292 (fun x_254 bx_254 g => ?_)
                  refine lv_icmp_eq (tgt := 308) hx hb dX2_readMemberHead_295 (by decide) (fun c_255 => ?_) (fun c_255 => ?_)
                  · have fc_255 := eq_f c_255
                    subst hQ
                    exact W.vret hx hb hr (fun t ht hW => ⟨⟨_, rfl, Or.inr (⟨x_247, h_248, x_232, h_233, q4_, ⟨mq4_, kq4_⟩, (g.fcts [2, 3, 12] rfl)⟩), q3_of g hK ht hW⟩, g.2.2.1.F ht⟩) g.2.2.1.2.2 dX2_readMemberHead_308
                  · have fc_255 := neq_f c_255
                    refine lv_aload_n hx hb dX2_readMemberHead_298 rfl (lv_at hl 6 rfl) ?_
                    refine g_getk (C := RX2) (T := TX2) (N := 16) hx hb hts (mc_ inX2) hown hK g rfl 0 (by decide) rfl (hts _ (List.mem_cons_of_mem _ t_416)) (fun _ h9 => h9) 8 rfl dX2_readMemberHead_299 ?_
                    refine lv_iconst (v := 5) hx hb dX2_readMemberHead_302 (by decide) ?_
                    refine lv_iload hx hb dX2_readMemberHead_303 (lv_at hl 0 rfl) ?_
                    have kb_5 : bd 5 5 (5 : Int32) := ⟨by decide, by decide⟩
                    refine g_callv (va_runV (As := [.int 5, .int r_245]) (rest := []) ⟨hx, hb, hml, hown, hts⟩ (r_X8_fail_2 l dC dI L kd tys fr_246 H.size g.2.2.2.1 q0_ mq0_ kq0_ 5 (bd_sub kb_5 (by decide)) r_245 x_232 h_233 (g.fcts [3] rfl)) (cwV 2 hts (gV_ t_1122 t_1107 t_1108 t_184 t_1109) rfl rfl rfl (by decide +kernel) ⟨(Nat.le_of_ble_eq_true rfl), (Nat.le_of_ble_eq_true rfl)⟩) (pre3V g hK mq0_ kq0_ (by decide) (q := (RX8, TX8, 10)) rfl) rfl rfl hl.1 rfl (lv_room (Nat.le_of_ble_eq_true rfl)) dX2_readMemberHead_305 ⟨(Nat.le_of_ble_eq_true rfl), (Nat.le_of_ble_eq_true rfl)⟩) g hK (by decide) (by decide) (fx' := [(6, 3, q4_, .int x_254), (6, 3, a_252, .int x_253), (8, 8, q0_, .int x_232), (5, 2, q1_, .int x_21), (6, 2, a_19, .int x_20), (7, 2, q2_, .ref a_18), (9, 9, q3_, .ref a_11), (2, 0, a0_, .ref q0_), (2, 1, a0_, .ref q1_), (2, 3, a0_, .ref q2_), (2, 4, a0_, .ref q3_), (2, 5, a0_, .ref q4_), (5, 1, q1_, .ref q5_)]) rfl (fun fr_256 H locs hp hMr_256 g => ?_)
                    have hF_257 := hp
                    have g := g.more hF_257
                    subst hQ
                    exact W.vret hx hb hr (fun t ht hW => ⟨⟨_, rfl, Or.inr (⟨1201, kb_1201, x_232, h_233, q4_, ⟨mq4_, kq4_⟩, (g.fcts [0, 3, 12] rfl)⟩), q3_of g hK ht hW⟩, g.2.2.1.F ht⟩) g.2.2.1.2.2 dX2_readMemberHead_308
              · have fc_243 := nlt_f c_243
                have b_258 : bd 0 3 v199_7 := leL fc_243 bv199_7 kb_3 (by decide)
                refine lv_iload hx hb dX2_readMemberHead_205 (lv_at hl 1 rfl) ?_
                have kb_0 : bd 0 0 (0 : Int32) := ⟨by decide, by decide⟩
                refine lv_if_eq (tgt := 251) hx hb dX2_readMemberHead_207 (by decide) (fun c_259 => ?_) (fun c_259 => ?_)
                · have fc_259 := eq_f c_259
                  have b_260 : bd 0 0 v199_6 := eqX fc_259 bv199_6 kb_0 (by decide)
                  refine lv_aload_n hx hb dX2_readMemberHead_251 rfl (lv_at hl 6 rfl) ?_
                  refine g_getk (C := RX2) (T := TX2) (N := 16) hx hb hts (mc_ inX2) hown hK g rfl 0 (by decide) rfl (hts _ (List.mem_cons_of_mem _ t_416)) (fun _ h9 => h9) 6 rfl dX2_readMemberHead_252 ?_
                  refine g_calli (va_runV (As := []) (rest := []) ⟨hx, hb, hml, hown, hts⟩ (r_X8_place l dC dI L kd tys f H.size g.2.2.2.1 q0_ mq0_ kq0_) (cwV 0 hts (gV_ t_1110 t_1111 t_1112 t_184 t_1113) rfl rfl rfl (by decide +kernel) ⟨(Nat.le_of_ble_eq_true rfl), (Nat.le_of_ble_eq_true rfl)⟩) (pre3V g hK mq0_ kq0_ (by decide) (q := (RX8, TX8, 10)) rfl) rfl rfl hl.1 rfl (lv_room (Nat.le_of_ble_eq_true rfl)) dX2_readMemberHead_255 ⟨(Nat.le_of_ble_eq_true rfl), (Nat.le_of_ble_eq_true rfl)⟩) g hK (by decide) (by decide) (fx' := [(8, 6, q0_, .int w199_8_6_q0_), (8, 8, q0_, .int x_232), (5, 2, q1_, .int x_21), (6, 2, a_19, .int x_20), (7, 2, q2_, .ref a_18), (9, 9, q3_, .ref a_11), (2, 0, a0_, .ref q0_), (2, 1, a0_, .ref q1_), (2, 3, a0_, .ref q2_), (2, 4, a0_, .ref q3_), (2, 5, a0_, .ref q4_), (5, 1, q1_, .ref q5_)]) rfl (fun r_261 fr_261 H locs hp hMr_261 g => ?_)
                  refine lv_istore (lv' := [(7, .int r_261), (6, .int v199_6), (5, .int x_12), (4, .int r_7), (2, .long r_6), (1, .int r_5), (0, .ref a0_)]) hx hb dX2_readMemberHead_258 hl (by decide) rfl (fun ls hl => ?_)
                  refine lv_aload_n hx hb dX2_readMemberHead_260 rfl (lv_at hl 6 rfl) ?_
                  refine g_getk (C := RX2) (T := TX2) (N := 16) hx hb hts (mc_ inX2) hown hK g rfl 0 (by decide) rfl (hts _ (List.mem_cons_of_mem _ t_416)) (fun _ h9 => h9) 6 rfl dX2_readMemberHead_261 ?_
                  refine lv_bipush (v := 41) hx hb dX2_readMemberHead_264 (by decide) ?_
                  refine g_callv (va_runV (As := [.int 41]) (rest := []) ⟨hx, hb, hml, hown, hts⟩ (r_X8_take_2 l dC dI L kd tys fr_261 H.size g.2.2.2.1 q0_ mq0_ kq0_ 41 w199_8_6_q0_ bw199_8_6_q0_ x_232 h_233 (g.fcts [0, 1] rfl)) (cwV 1 hts (gV_ t_1098 t_1099 t_1100 t_184 t_1101) rfl rfl rfl (by decide +kernel) ⟨(Nat.le_of_ble_eq_true rfl), (Nat.le_of_ble_eq_true rfl)⟩) (pre3V g hK mq0_ kq0_ (by decide) (q := (RX8, TX8, 10)) rfl) rfl rfl hl.1 rfl (lv_room (Nat.le_of_ble_eq_true rfl)) dX2_readMemberHead_266 ⟨(Nat.le_of_ble_eq_true rfl), (Nat.le_of_ble_eq_true rfl)⟩) g hK (by decide) (by decide) (fx' := [(8, 8, q0_, .int x_232), (5, 2, q1_, .int x_21), (6, 2, a_19, .int x_20), (7, 2, q2_, .ref a_18), (9, 9, q3_, .ref a_11), (2, 0, a0_, .ref q0_), (2, 1, a0_, .ref q1_), (2, 3, a0_, .ref q2_), (2, 4, a0_, .ref q3_), (2, 5, a0_, .ref q4_), (5, 1, q1_, .ref q5_)]) rfl (fun fr_262 H locs hp hMr_262 g => ?_)
                  obtain ⟨x_263, h_264, hF_265⟩ := hp
                  have g := g.more hF_265
                  refine lv_iload hx hb dX2_readMemberHead_269 (lv_at hl 2 rfl) ?_
                  refine lv_iconst (v := (-1)) hx hb dX2_readMemberHead_271 (by decide) ?_
                  refine lv_icmp_eq (tgt := 308) hx hb dX2_readMemberHead_272 (by decide) (fun c_266 => ?_) (fun c_266 => ?_)
                  · have fc_266 := eq_f c_266
                    have b_267 : bd 0 (-1) x_12 := eqX fc_266 bx_12 kb_m1 (by decide)
                    exact bd_no b_267 (by decide)
                  · have fc_266 := neq_f c_266
                    refine lv_aload_n hx hb dX2_readMemberHead_275 rfl (lv_at hl 6 rfl) ?_
                    refine g_getk (C := RX2) (T := TX2) (N := 16) hx hb hts (mc_ inX2) hown hK g rfl 3 (by decide) rfl (hts _ (List.mem_cons_of_mem _ t_419)) (fun _ h9 => h9) 8 rfl dX2_readMemberHead_276 ?_
                    refine g_getk (C := RX7) (T := TX7) (N := 19) hx hb hts (mc_ inX7) hown hK g rfl 2 (by decide) rfl (hts _ (List.mem_cons_of_mem _ t_630)) (fun _ h9 => h9) 4 rfl dX2_readMemberHead_279 ?_
                    refine lv_iload hx hb dX2_readMemberHead_282 (lv_at hl 2 rfl) ?_
                    refine g_aald hx hb hK g ma_18 ka_18 (by decide) rfl (by decide) (in_bd bx_12 (by decide)) dX2_readMemberHead_284 (fun a_268 ma_268 ua_268 wa_268 => ?_)
                    have ka_268 : kd a_268 = 6 := by omega
                    refine g_geti (C := RX6) (T := TX6) (N := 13) hx hb hts (mc_ inX6) hown hK g ma_268 ka_268 (by decide) rfl 3 (by decide) rfl (hts _ (List.mem_cons_of_mem _ t_568)) (fun _ h9 => h9) rfl dX2_readMemberHead_285 (fun x_269 bx_269 g => ?_)
                    refine lv_aload_n hx hb dX2_readMemberHead_288 rfl (lv_at hl 6 rfl) ?_
                    refine g_getk (C := RX2) (T := TX2) (N := 16) hx hb hts (mc_ inX2) hown hK g rfl 5 (by decide) rfl (hts _ (List.mem_cons_of_mem _ t_421)) (fun _ h9 => h9) 11 rfl dX2_readMemberHead_289 ?_
                    refine g_geti (C := RX6) (T := TX6) (N := 13) hx hb hts (mc_ inX6) hown hK g mq4_ kq4_ (by decide) rfl 3 (by decide) rfl (hts _ (List.mem_cons_of_mem _ t_568)) (fun _ h9 => h9) rfl dX2_readMemberHead_292 (fun x_270 bx_270 g => ?_)
                    refine lv_icmp_eq (tgt := 308) hx hb dX2_readMemberHead_295 (by decide) (fun c_271 => ?_) (fun c_271 => ?_)
                    · have fc_271 := eq_f c_271
                      subst hQ
                      exact W.vret hx hb hr (fun t ht hW => ⟨⟨_, rfl, Or.inr (⟨x_263, h_264, x_232, h_233, q4_, ⟨mq4_, kq4_⟩, (g.fcts [2, 3, 12] rfl)⟩), q3_of g hK ht hW⟩, g.2.2.1.F ht⟩) g.2.2.1.2.2 dX2_readMemberHead_308
                    · have fc_271 := neq_f c_271
                      refine lv_aload_n hx hb dX2_readMemberHead_298 rfl (lv_at hl 6 rfl) ?_
                      refine g_getk (C := RX2) (T := TX2) (N := 16) hx hb hts (mc_ inX2) hown hK g rfl 0 (by decide) rfl (hts _ (List.mem_cons_of_mem _ t_416)) (fun _ h9 => h9) 8 rfl dX2_readMemberHead_299 ?_
                      refine lv_iconst (v := 5) hx hb dX2_readMemberHead_302 (by decide) ?_
                      refine lv_iload hx hb dX2_readMemberHead_303 (lv_at hl 0 rfl) ?_
                      have kb_5 : bd 5 5 (5 : Int32) := ⟨by decide, by decide⟩
                      refine g_callv (va_runV (As := [.int 5, .int r_261]) (rest := []) ⟨hx, hb, hml, hown, hts⟩ (r_X8_fail_2 l dC dI L kd tys fr_262 H.size g.2.2.2.1 q0_ mq0_ kq0_ 5 (bd_sub kb_5 (by decide)) r_261 x_232 h_233 (g.fcts [3] rfl)) (cwV 2 hts (gV_ t_1122 t_1107 t_1108 t_184 t_1109) rfl rfl rfl (by decide +kernel) ⟨(Nat.le_of_ble_eq_true rfl), (Nat.le_of_ble_eq_true rfl)⟩) (pre3V g hK mq0_ kq0_ (by decide) (q := (RX8, TX8, 10)) rfl) rfl rfl hl.1 rfl (lv_room (Nat.le_of_ble_eq_true rfl)) dX2_readMemberHead_305 ⟨(Nat.le_of_ble_eq_true rfl), (Nat.le_of_ble_eq_true rfl)⟩) g hK (by decide) (by decide) (fx' := [(6, 3, q4_, .int x_270), (6, 3, a_268, .int x_269), (8, 8, q0_, .int x_232), (5, 2, q1_, .int x_21), (6, 2, a_19, .int x_20), (7, 2, q2_, .ref a_18), (9, 9, q3_, .ref a_11), (2, 0, a0_, .ref q0_), (2, 1, a0_, .ref q1_), (2, 3, a0_, .ref q2_), (2, 4, a0_, .ref q3_), (2, 5, a0_, .ref q4_), (5, 1, q1_, .ref q5_)]) rfl (fun fr_272 H locs hp hMr_272 g => ?_)
                      have hF_273 := hp
                      have g := g.more hF_273
                      subst hQ
                      exact W.vret hx hb hr (fun t ht hW => ⟨⟨_, rfl, Or.inr (⟨1201, kb_1201, x_232, h_233, q4_, ⟨mq4_, kq4_⟩, (g.fcts [0, 3, 12] rfl)⟩), q3_of g hK ht hW⟩, g.2.2.1.F ht⟩) g.2.2.1.2.2 dX2_readMemberHead_308
                · have fc_259 := neq_f c_259
                  have b_274 : bd 1 1 v199_6 := neX fc_259 bv199_6 kb_0 (by decide)
                  refine lv_aload_n hx hb dX2_readMemberHead_210 rfl (lv_at hl 6 rfl) ?_
                  refine g_callv (va_runV (As := []) (rest := []) ⟨hx, hb, hml, hown, hts⟩ (r_X2_readParam_2 l dC dI L kd tys f H.size g.2.2.2.1 a0_ ma0_ ka0_ q0_ mq0_ kq0_ q1_ mq1_ kq1_ q4_ mq4_ kq4_ q5_ mq5_ kq5_ w199_8_6_q0_ bw199_8_6_q0_ x_232 h_233 (g.fcts [6, 7, 10, 11, 0, 1] rfl)) (cwV 0 hts (gV_ t_1313 t_1315 t_34 t_183 t_1316) rfl rfl rfl (by decide +kernel) ⟨(Nat.le_of_ble_eq_true rfl), (Nat.le_of_ble_eq_true rfl)⟩) (pre3V g hK ma0_ ka0_ (by decide) (q := (RX2, TX2, 16)) rfl) rfl rfl hl.1 rfl (lv_room (Nat.le_of_ble_eq_true rfl)) dX2_readMemberHead_211 ⟨(Nat.le_of_ble_eq_true rfl), (Nat.le_of_ble_eq_true rfl)⟩) g hK (by decide) (by decide) (fx' := [(8, 8, q0_, .int x_232), (5, 2, q1_, .int x_21), (6, 2, a_19, .int x_20), (7, 2, q2_, .ref a_18), (9, 9, q3_, .ref a_11), (2, 0, a0_, .ref q0_), (2, 1, a0_, .ref q1_), (2, 3, a0_, .ref q2_), (2, 4, a0_, .ref q3_), (2, 5, a0_, .ref q4_), (5, 1, q1_, .ref q5_)]) rfl (fun fr_275 H locs hp hMr_275 g => ?_)
                  have hF_276 := hp
                  have g := g.more hF_276
                  refine lv_aload_n hx hb dX2_readMemberHead_214 rfl (lv_at hl 6 rfl) ?_
                  refine g_getk (C := RX2) (T := TX2) (N := 16) hx hb hts (mc_ inX2) hown hK g rfl 0 (by decide) rfl (hts _ (List.mem_cons_of_mem _ t_416)) (fun _ h9 => h9) 6 rfl dX2_readMemberHead_215 ?_
                  refine g_calli (va_runV (As := []) (rest := []) ⟨hx, hb, hml, hown, hts⟩ (r_X8_kind_2 l dC dI L kd tys fr_275 H.size g.2.2.2.1 q0_ mq0_ kq0_ 1201 kb_1201 (g.fcts [0] rfl)) (cwV 0 hts (gV_ t_1118 t_1119 t_1120 t_184 t_1121) rfl rfl rfl (by decide +kernel) ⟨(Nat.le_of_ble_eq_true rfl), (Nat.le_of_ble_eq_true rfl)⟩) (pre3V g hK mq0_ kq0_ (by decide) (q := (RX8, TX8, 10)) rfl) rfl rfl hl.1 rfl (lv_room (Nat.le_of_ble_eq_true rfl)) dX2_readMemberHead_218 ⟨(Nat.le_of_ble_eq_true rfl), (Nat.le_of_ble_eq_true rfl)⟩) g hK (by decide) (by decide) (fx' := [(8, 6, q0_, .int 1201), (8, 8, q0_, .int x_232), (5, 2, q1_, .int x_21), (6, 2, a_19, .int x_20), (7, 2, q2_, .ref a_18), (9, 9, q3_, .ref a_11), (2, 0, a0_, .ref q0_), (2, 1, a0_, .ref q1_), (2, 3, a0_, .ref q2_), (2, 4, a0_, .ref q3_), (2, 5, a0_, .ref q4_), (5, 1, q1_, .ref q5_)]) rfl (fun r_277 fr_277 H locs hp hMr_277 g => ?_)
                  obtain ⟨h_278, -⟩ := hp
                  obtain rfl : r_277 = 0 := h_278
                  refine lv_bipush (v := 44) hx hb dX2_readMemberHead_221 (by decide) ?_
                  refine lv_icmp_ne (tgt := 230) hx hb dX2_readMemberHead_223 (by decide) (fun c_ => ?_) (fun c_ => absurd c_ (by decide))
                  refine lv_iconst (v := 0) hx hb dX2_readMemberHead_230 (by decide) ?_
                  refine lv_istore (lv' := [(6, .int 0), (7, .int v199_7), (5, .int x_12), (4, .int r_7), (2, .long r_6), (1, .int r_5), (0, .ref a0_)]) hx hb dX2_readMemberHead_231 hl (by decide) rfl (fun ls hl => ?_)
                  refine lv_iload hx hb dX2_readMemberHead_233 (lv_at hl 0 rfl) ?_
                  refine lv_if_eq (tgt := 245) hx hb dX2_readMemberHead_235 (by decide) (fun c_ => ?_) (fun c_ => absurd (by decide) c_)
                  have kb_1 : bd 1 1 (1 : Int32) := ⟨by decide, by decide⟩
                  obtain ⟨y_279, ey_279⟩ : ∃ z : Int32, z = v199_7 + 1 := ⟨_, rfl⟩
                  refine lv_iinc (v := y_279) (lv' := [(7, .int y_279), (6, .int 0), (5, .int x_12), (4, .int r_7), (2, .long r_6), (1, .int r_5), (0, .ref a0_)]) hx hb dX2_readMemberHead_245 hl (k := 1) rfl (by rw [ey_279]; rfl) (by decide) rfl (fun ls hl => ?_)
                  have ty_279 := add_bd ey_279 b_258 kb_1 (by decide)
                  have b_280 : bd 1 4 y_279 := add_rg ty_279 b_258 kb_1 (by decide)
                  refine lv_goto (tgt := 199) hx hb dX2_readMemberHead_248 (by decide) ?_
                  have hl9 := lv_sub hl [0, 1, 2, 3, 4, 5, 6] (by rfl : lv_pick [(7, .int y_279), (6, .int 0), (5, .int x_12), (4, .int r_7), (2, .long r_6), (1, .int r_5), (0, .ref a0_)] [0, 1, 2, 3, 4, 5, 6] = [(7, .int y_279), (6, .int 0), (5, .int x_12), (4, .int r_7), (2, .long r_6), (1, .int r_5), (0, .ref a0_)])
                  have g9 := g.sub (fx' := [(8, 6, q0_, .int 1201), (8, 8, q0_, .int x_232), (5, 2, q1_, .int x_21), (6, 2, a_19, .int x_20), (7, 2, q2_, .ref a_18), (9, 9, q3_, .ref a_11), (2, 0, a0_, .ref q0_), (2, 1, a0_, .ref q1_), (2, 3, a0_, .ref q2_), (2, 4, a0_, .ref q3_), (2, 5, a0_, .ref q4_), (5, 1, q1_, .ref q5_)]) [0, 1, 2, 3, 4, 5, 6, 7, 8, 9, 10, 11] rfl
                  exact ih199  y_279 0 1201 (bd_sub b_280 (by decide)) (bd_sub kb_0 (by decide)) kb_1201 (by have h9_0 := b_280; unfold bd at h9_0; have h9_1 := bv199_6; unfold bd at h9_1; have h9_2 := bv199_7; unfold bd at h9_2; have h9_3 := bw199_8_6_q0_; unfold bd at h9_3; have h9_4 := kb_0; unfold bd at h9_4; have h9_5 := kb_1; unfold bd at h9_5; have h9_6 := kb_1201; unfold bd at h9_6; have h9_7 := kb_2; unfold bd at h9_7; have h9_8 := kb_3; unfold bd at h9_8; have h9_9 := kb_m1; unfold bd at h9_9; omega) _ _ _ _ g9  hl9
          have kb_0 : bd 0 0 (0 : Int32) := ⟨by decide, by decide⟩
          have kb_1 : bd 1 1 (1 : Int32) := ⟨by decide, by decide⟩
          have hl9 := lv_sub hl [0, 1, 2, 3, 4, 5, 6] (by rfl : lv_pick [(7, .int 0), (6, .int 1), (5, .int x_12), (4, .int r_7), (2, .long r_6), (1, .int r_5), (0, .ref a0_)] [0, 1, 2, 3, 4, 5, 6] = [(7, .int 0), (6, .int 1), (5, .int x_12), (4, .int r_7), (2, .long r_6), (1, .int r_5), (0, .ref a0_)])
          have g9 := g.sub (fx' := [(8, 6, q0_, .int x_237), (8, 8, q0_, .int x_232), (5, 2, q1_, .int x_21), (6, 2, a_19, .int x_20), (7, 2, q2_, .ref a_18), (9, 9, q3_, .ref a_11), (2, 0, a0_, .ref q0_), (2, 1, a0_, .ref q1_), (2, 3, a0_, .ref q2_), (2, 4, a0_, .ref q3_), (2, 5, a0_, .ref q4_), (5, 1, q1_, .ref q5_)]) [0, 1, 2, 3, 4, 5, 6, 7, 8, 9, 10, 11] rfl
          exact loop_242 (11) 0 1 x_237 (bd_sub kb_0 (by decide)) (bd_sub kb_1 (by decide)) h_238 (by have h9_0 := h_238; unfold bd at h9_0; have h9_1 := kb_0; unfold bd at h9_1; have h9_2 := kb_1; unfold bd at h9_2; have h9_3 := kb_1201; unfold bd at h9_3; have h9_4 := kb_2; unfold bd at h9_4; have h9_5 := kb_3; unfold bd at h9_5; have h9_6 := kb_m1; unfold bd at h9_6; omega) _ _ _ _ g9  hl9
    · have fc_14 := neq_f c_14
      refine lv_aload_n hx hb dX2_readMemberHead_70 rfl (lv_at hl 4 rfl) ?_
      refine g_getk (C := RX2) (T := TX2) (N := 16) hx hb hts (mc_ inX2) hown hK g rfl 0 (by decide) rfl (hts _ (List.mem_cons_of_mem _ t_416)) (fun _ h9 => h9) 2 rfl dX2_readMemberHead_71 ?_
      refine lv_iconst (v := 1) hx hb dX2_readMemberHead_74 (by decide) ?_
      refine lv_iload_n hx hb dX2_readMemberHead_75 rfl (lv_at hl 3 rfl) ?_
      have kb_1 : bd 1 1 (1 : Int32) := ⟨by decide, by decide⟩
      refine g_callv (va_runV (As := [.int 1, .int r_5]) (rest := []) ⟨hx, hb, hml, hown, hts⟩ (r_X8_fail l dC dI L kd tys fr_13 H.size g.2.2.2.1 q0_ mq0_ kq0_ 1 (bd_sub kb_1 (by decide)) r_5 y0_ by0_ (g.fcts [8] rfl)) (cwV 2 hts (gV_ t_1122 t_1107 t_1108 t_184 t_1109) rfl rfl rfl (by decide +kernel) ⟨(Nat.le_of_ble_eq_true rfl), (Nat.le_of_ble_eq_true rfl)⟩) (pre3V g hK mq0_ kq0_ (by decide) (q := (RX8, TX8, 10)) rfl) rfl rfl hl.1 rfl (lv_room (Nat.le_of_ble_eq_true rfl)) dX2_readMemberHead_76 ⟨(Nat.le_of_ble_eq_true rfl), (Nat.le_of_ble_eq_true rfl)⟩) g hK (by decide) (by decide) (fx' := [(9, 9, q3_, .ref a_11), (2, 0, a0_, .ref q0_), (2, 1, a0_, .ref q1_), (2, 3, a0_, .ref q2_), (2, 4, a0_, .ref q3_), (2, 5, a0_, .ref q4_), (5, 1, q1_, .ref q5_)]) rfl (fun fr_281 H locs hp hMr_281 g => ?_)
      obtain ⟨x_282, h_283, hF_284⟩ := hp
      have g := g.more hF_284
      refine lv_goto (tgt := 161) hx hb dX2_readMemberHead_79 (by decide) ?_
      refine lv_aload_n hx hb dX2_readMemberHead_161 rfl (lv_at hl 4 rfl) ?_
      refine g_getk (C := RX2) (T := TX2) (N := 16) hx hb hts (mc_ inX2) hown hK g rfl 0 (by decide) rfl (hts _ (List.mem_cons_of_mem _ t_416)) (fun _ h9 => h9) 3 rfl dX2_readMemberHead_162 ?_
      have kb_1201 : bd 1201 1201 (1201 : Int32) := ⟨by decide, by decide⟩
      refine g_callv (va_runV (As := []) (rest := []) ⟨hx, hb, hml, hown, hts⟩ (r_X8_next_2 l dC dI L kd tys fr_281 H.size g.2.2.2.1 q0_ mq0_ kq0_ 1201 kb_1201 (g.fcts [0] rfl)) (cwV 0 hts (gV_ t_1131 t_1103 t_1104 t_184 t_1105) rfl rfl rfl (by decide +kernel) ⟨(Nat.le_of_ble_eq_true rfl), (Nat.le_of_ble_eq_true rfl)⟩) (pre3V g hK mq0_ kq0_ (by decide) (q := (RX8, TX8, 10)) rfl) rfl rfl hl.1 rfl (lv_room (Nat.le_of_ble_eq_true rfl)) dX2_readMemberHead_165 ⟨(Nat.le_of_ble_eq_true rfl), (Nat.le_of_ble_eq_true rfl)⟩) g hK (by decide) (by decide) (fx' := [(8, 6, q0_, .int 1201), (8, 8, q0_, .int x_282), (9, 9, q3_, .ref a_11), (2, 0, a0_, .ref q0_), (2, 1, a0_, .ref q1_), (2, 3, a0_, .ref q2_), (2, 4, a0_, .ref q3_), (2, 5, a0_, .ref q4_), (5, 1, q1_, .ref q5_)]) rfl (fun fr_285 H locs hp hMr_285 g => ?_)
      refine lv_aload_n hx hb dX2_readMemberHead_168 rfl (lv_at hl 4 rfl) ?_
      refine g_getk (C := RX2) (T := TX2) (N := 16) hx hb hts (mc_ inX2) hown hK g rfl 0 (by decide) rfl (hts _ (List.mem_cons_of_mem _ t_416)) (fun _ h9 => h9) 3 rfl dX2_readMemberHead_169 ?_
      refine lv_bipush (v := 40) hx hb dX2_readMemberHead_172 (by decide) ?_
      refine g_callv (va_runV (As := [.int 40]) (rest := []) ⟨hx, hb, hml, hown, hts⟩ (r_X8_take_2 l dC dI L kd tys fr_285 H.size g.2.2.2.1 q0_ mq0_ kq0_ 40 1201 kb_1201 x_282 h_283 (g.fcts [0, 1] rfl)) (cwV 1 hts (gV_ t_1098 t_1099 t_1100 t_184 t_1101) rfl rfl rfl (by decide +kernel) ⟨(Nat.le_of_ble_eq_true rfl), (Nat.le_of_ble_eq_true rfl)⟩) (pre3V g hK mq0_ kq0_ (by decide) (q := (RX8, TX8, 10)) rfl) rfl rfl hl.1 rfl (lv_room (Nat.le_of_ble_eq_true rfl)) dX2_readMemberHead_174 ⟨(Nat.le_of_ble_eq_true rfl), (Nat.le_of_ble_eq_true rfl)⟩) g hK (by decide) (by decide) (fx' := [(8, 8, q0_, .int x_282), (9, 9, q3_, .ref a_11), (2, 0, a0_, .ref q0_), (2, 1, a0_, .ref q1_), (2, 3, a0_, .ref q2_), (2, 4, a0_, .ref q3_), (2, 5, a0_, .ref q4_), (5, 1, q1_, .ref q5_)]) rfl (fun fr_286 H locs hp hMr_286 g => ?_)
      obtain ⟨x_287, h_288, hF_289⟩ := hp
      have g := g.more hF_289
      refine lv_aload_n hx hb dX2_readMemberHead_177 rfl (lv_at hl 4 rfl) ?_
      refine g_getk (C := RX2) (T := TX2) (N := 16) hx hb hts (mc_ inX2) hown hK g rfl 0 (by decide) rfl (hts _ (List.mem_cons_of_mem _ t_416)) (fun _ h9 => h9) 3 rfl dX2_readMemberHead_178 ?_
      refine g_calli (va_runV (As := []) (rest := []) ⟨hx, hb, hml, hown, hts⟩ (r_X8_kind_2 l dC dI L kd tys fr_286 H.size g.2.2.2.1 q0_ mq0_ kq0_ x_287 h_288 (g.fcts [0] rfl)) (cwV 0 hts (gV_ t_1118 t_1119 t_1120 t_184 t_1121) rfl rfl rfl (by decide +kernel) ⟨(Nat.le_of_ble_eq_true rfl), (Nat.le_of_ble_eq_true rfl)⟩) (pre3V g hK mq0_ kq0_ (by decide) (q := (RX8, TX8, 10)) rfl) rfl rfl hl.1 rfl (lv_room (Nat.le_of_ble_eq_true rfl)) dX2_readMemberHead_181 ⟨(Nat.le_of_ble_eq_true rfl), (Nat.le_of_ble_eq_true rfl)⟩) g hK (by decide) (by decide) (fx' := [(8, 6, q0_, .int x_287), (8, 8, q0_, .int x_282), (9, 9, q3_, .ref a_11), (2, 0, a0_, .ref q0_), (2, 1, a0_, .ref q1_), (2, 3, a0_, .ref q2_), (2, 4, a0_, .ref q3_), (2, 5, a0_, .ref q4_), (5, 1, q1_, .ref q5_)]) rfl (fun r_290 fr_290 H locs hp hMr_290 g => ?_)
      obtain ⟨h_291, -⟩ := hp
      obtain rfl : r_290 = 0 := h_291
      refine lv_bipush (v := 41) hx hb dX2_readMemberHead_184 (by decide) ?_
      refine lv_icmp_eq (tgt := 193) hx hb dX2_readMemberHead_186 (by decide) (fun c_ => absurd c_ (by decide)) (fun c_ => ?_)
      refine lv_iconst (v := 1) hx hb dX2_readMemberHead_189 (by decide) ?_
      refine lv_goto (tgt := 194) hx hb dX2_readMemberHead_190 (by decide) ?_
      refine lv_istore (lv' := [(6, .int 1), (5, .int x_12), (4, .int r_7), (2, .long r_6), (1, .int r_5), (0, .ref a0_)]) hx hb dX2_readMemberHead_194 hl (by decide) rfl (fun ls hl => ?_)
      refine lv_iconst (v := 0) hx hb dX2_readMemberHead_196 (by decide) ?_
      refine lv_istore (lv' := [(7, .int 0), (6, .int 1), (5, .int x_12), (4, .int r_7), (2, .long r_6), (1, .int r_5), (0, .ref a0_)]) hx hb dX2_readMemberHead_197 hl (by decide) rfl (fun ls hl => ?_)
      have loop_292 : ∀ (n : Nat) (v199_7 : Int32) (v199_6 : Int32) (w199_8_6_q0_ : Int32), bd 0 4 v199_7 → bd 0 1 v199_6 → bd 1201 1201 w199_8_6_q0_ → (4 - v199_7.toInt < (n : Int)) → ∀ (f : Nat → va_E) (H : Heap) (locs : List Loc) (ls : Array Slot), G3 (dC, dI) L kd tys s f0 [(2, 5), (2, 6), (5, 4), (6, 0), (6, 1), (6, 2), (6, 3), (6, 6), (6, 7), (6, 8), (6, 9), (6, 10), (6, 11), (6, 12), (7, 3), (8, 6), (8, 8), (8, 9), (9, 8)] [132, 134, 135, 156] f H locs [(8, 6, q0_, .int w199_8_6_q0_), (8, 8, q0_, .int x_282), (9, 9, q3_, .ref a_11), (2, 0, a0_, .ref q0_), (2, 1, a0_, .ref q1_), (2, 3, a0_, .ref q2_), (2, 4, a0_, .ref q3_), (2, 5, a0_, .ref q4_), (5, 1, q1_, .ref q5_)] → lv_has ls 8 [(7, .int v199_7), (6, .int v199_6), (5, .int x_12), (4, .int r_7), (2, .long r_6), (1, .int r_5), (0, .ref a0_)] → W p l e ({ frames := 3, cells := 0, slots := 0, locals := 72 } : Room) s m [.ref a0_].toArray below meth c H locs 0 0 Q (F0 m 199 ls []) := by
        intro n199
        induction n199 with
        | zero =>
          intro v199_7 v199_6 w199_8_6_q0_ bv199_7 bv199_6 bw199_8_6_q0_ hm199 f H locs ls g  hl
          exact absurd hm199 (by have h9_v199_7 := bv199_7; unfold bd at h9_v199_7; have h9_v199_6 := bv199_6; unfold bd at h9_v199_6; have h9_w199_8_6_q0_ := bw199_8_6_q0_; unfold bd at h9_w199_8_6_q0_; omega)
        | succ n199 ih199 =>
          intro v199_7 v199_6 w199_8_6_q0_ bv199_7 bv199_6 bw199_8_6_q0_ hm199 f H locs ls g  hl
          refine lv_iload hx hb dX2_readMemberHead_199 (lv_at hl 0 rfl) ?_
          refine lv_iconst (v := 3) hx hb dX2_readMemberHead_201 (by decide) ?_
          refine lv_icmp_gt (tgt := 251) hx hb dX2_readMemberHead_202 (by decide) (fun c_293 => ?_) (fun c_293 => ?_)
          · have fc_293 := lt_f c_293
            have b_294 : bd 4 4 v199_7 := ltR fc_293 kb_3 bv199_7 (by decide)
            refine lv_aload_n hx hb dX2_readMemberHead_251 rfl (lv_at hl 6 rfl) ?_
            refine g_getk (C := RX2) (T := TX2) (N := 16) hx hb hts (mc_ inX2) hown hK g rfl 0 (by decide) rfl (hts _ (List.mem_cons_of_mem _ t_416)) (fun _ h9 => h9) 3 rfl dX2_readMemberHead_252 ?_
            refine g_calli (va_runV (As := []) (rest := []) ⟨hx, hb, hml, hown, hts⟩ (r_X8_place l dC dI L kd tys f H.size g.2.2.2.1 q0_ mq0_ kq0_) (cwV 0 hts (gV_ t_1110 t_1111 t_1112 t_184 t_1113) rfl rfl rfl (by decide +kernel) ⟨(Nat.le_of_ble_eq_true rfl), (Nat.le_of_ble_eq_true rfl)⟩) (pre3V g hK mq0_ kq0_ (by decide) (q := (RX8, TX8, 10)) rfl) rfl rfl hl.1 rfl (lv_room (Nat.le_of_ble_eq_true rfl)) dX2_readMemberHead_255 ⟨(Nat.le_of_ble_eq_true rfl), (Nat.le_of_ble_eq_true rfl)⟩) g hK (by decide) (by decide) (fx' := [(8, 6, q0_, .int w199_8_6_q0_), (8, 8, q0_, .int x_282), (9, 9, q3_, .ref a_11), (2, 0, a0_, .ref q0_), (2, 1, a0_, .ref q1_), (2, 3, a0_, .ref q2_), (2, 4, a0_, .ref q3_), (2, 5, a0_, .ref q4_), (5, 1, q1_, .ref q5_)]) rfl (fun r_295 fr_295 H locs hp hMr_295 g => ?_)
            refine lv_istore (lv' := [(7, .int r_295), (6, .int v199_6), (5, .int x_12), (4, .int r_7), (2, .long r_6), (1, .int r_5), (0, .ref a0_)]) hx hb dX2_readMemberHead_258 hl (by decide) rfl (fun ls hl => ?_)
            refine lv_aload_n hx hb dX2_readMemberHead_260 rfl (lv_at hl 6 rfl) ?_
            refine g_getk (C := RX2) (T := TX2) (N := 16) hx hb hts (mc_ inX2) hown hK g rfl 0 (by decide) rfl (hts _ (List.mem_cons_of_mem _ t_416)) (fun _ h9 => h9) 3 rfl dX2_readMemberHead_261 ?_
            refine lv_bipush (v := 41) hx hb dX2_readMemberHead_264 (by decide) ?_
            refine g_callv (va_runV (As := [.int 41]) (rest := []) ⟨hx, hb, hml, hown, hts⟩ (r_X8_take_2 l dC dI L kd tys fr_295 H.size g.2.2.2.1 q0_ mq0_ kq0_ 41 w199_8_6_q0_ bw199_8_6_q0_ x_282 h_283 (g.fcts [0, 1] rfl)) (cwV 1 hts (gV_ t_1098 t_1099 t_1100 t_184 t_1101) rfl rfl rfl (by decide +kernel) ⟨(Nat.le_of_ble_eq_true rfl), (Nat.le_of_ble_eq_true rfl)⟩) (pre3V g hK mq0_ kq0_ (by decide) (q := (RX8, TX8, 10)) rfl) rfl rfl hl.1 rfl (lv_room (Nat.le_of_ble_eq_true rfl)) dX2_readMemberHead_266 ⟨(Nat.le_of_ble_eq_true rfl), (Nat.le_of_ble_eq_true rfl)⟩) g hK (by decide) (by decide) (fx' := [(8, 8, q0_, .int x_282), (9, 9, q3_, .ref a_11), (2, 0, a0_, .ref q0_), (2, 1, a0_, .ref q1_), (2, 3, a0_, .ref q2_), (2, 4, a0_, .ref q3_), (2, 5, a0_, .ref q4_), (5, 1, q1_, .ref q5_)]) rfl (fun fr_296 H locs hp hMr_296 g => ?_)
            obtain ⟨x_297, h_298, hF_299⟩ := hp
            have g := g.more hF_299
            refine lv_iload hx hb dX2_readMemberHead_269 (lv_at hl 2 rfl) ?_
            refine lv_iconst (v := (-1)) hx hb dX2_readMemberHead_271 (by decide) ?_
            refine lv_icmp_eq (tgt := 308) hx hb dX2_readMemberHead_272 (by decide) (fun c_300 => ?_) (fun c_300 => ?_)
            · have fc_300 := eq_f c_300
              have b_301 : bd 0 (-1) x_12 := eqX fc_300 bx_12 kb_m1 (by decide)
              exact bd_no b_301 (by decide)
            · have fc_300 := neq_f c_300
              refine lv_aload_n hx hb dX2_readMemberHead_275 rfl (lv_at hl 6 rfl) ?_
              refine g_getk (C := RX2) (T := TX2) (N := 16) hx hb hts (mc_ inX2) hown hK g rfl 3 (by decide) rfl (hts _ (List.mem_cons_of_mem _ t_419)) (fun _ h9 => h9) 5 rfl dX2_readMemberHead_276 ?_
              refine g_getr (K := 137) (C := RX7) (T := TX7) (N := 19) hx hb hts (mc_ inX7) hown hK g mq2_ kq2_ (by decide) rfl 2 (by decide) rfl (hts _ (List.mem_cons_of_mem _ t_630)) (fun _ h9 => h9) rfl dX2_readMemberHead_279 (fun a_302 ma_302 ka_302 g => ?_)
              refine lv_iload hx hb dX2_readMemberHead_282 (lv_at hl 2 rfl) ?_
              refine g_aald hx hb hK g ma_302 ka_302 (by decide) rfl (by decide) (in_bd bx_12 (by decide)) dX2_readMemberHead_284 (fun a_303 ma_303 ua_303 wa_303 => ?_)
              have ka_303 : kd a_303 = 6 := by omega
              refine g_geti (C := RX6) (T := TX6) (N := 13) hx hb hts (mc_ inX6) hown hK g ma_303 ka_303 (by decide) rfl 3 (by decide) rfl (hts _ (List.mem_cons_of_mem _ t_568)) (fun _ h9 => h9) rfl dX2_readMemberHead_285 (fun x_304 bx_304 g => ?_)
              refine lv_aload_n hx hb dX2_readMemberHead_288 rfl (lv_at hl 6 rfl) ?_
              refine g_getk (C := RX2) (T := TX2) (N := 16) hx hb hts (mc_ inX2) hown hK g rfl 5 (by decide) rfl (hts _ (List.mem_cons_of_mem _ t_421)) (fun _ h9 => h9) 9 rfl dX2_readMemberHead_289 ?_
              refine g_geti (C := RX6) (T := TX6) (N := 13) hx hb hts (mc_ inX6) hown hK g mq4_ kq4_ (by decide) rfl 3 (by decide) rfl (hts _ (List.mem_cons_of_mem _ t_568)) (fun _ h9 => h9) rfl dX2_readMemberHead_292 (fun x_305 bx_305 g => ?_)
              refine lv_icmp_eq (tgt := 308) hx hb dX2_readMemberHead_295 (by decide) (fun c_306 => ?_) (fun c_306 => ?_)
              · have fc_306 := eq_f c_306
                subst hQ
                exact W.vret hx hb hr (fun t ht hW => ⟨⟨_, rfl, Or.inr (⟨x_297, h_298, x_282, h_283, q4_, ⟨mq4_, kq4_⟩, (g.fcts [3, 4, 10] rfl)⟩), q3_of g hK ht hW⟩, g.2.2.1.F ht⟩) g.2.2.1.2.2 dX2_readMemberHead_308
              · have fc_306 := neq_f c_306
                refine lv_aload_n hx hb dX2_readMemberHead_298 rfl (lv_at hl 6 rfl) ?_
                refine g_getk (C := RX2) (T := TX2) (N := 16) hx hb hts (mc_ inX2) hown hK g rfl 0 (by decide) rfl (hts _ (List.mem_cons_of_mem _ t_416)) (fun _ h9 => h9) 6 rfl dX2_readMemberHead_299 ?_
                refine lv_iconst (v := 5) hx hb dX2_readMemberHead_302 (by decide) ?_
                refine lv_iload hx hb dX2_readMemberHead_303 (lv_at hl 0 rfl) ?_
                have kb_5 : bd 5 5 (5 : Int32) := ⟨by decide, by decide⟩
                refine g_callv (va_runV (As := [.int 5, .int r_295]) (rest := []) ⟨hx, hb, hml, hown, hts⟩ (r_X8_fail_2 l dC dI L kd tys fr_296 H.size g.2.2.2.1 q0_ mq0_ kq0_ 5 (bd_sub kb_5 (by decide)) r_295 x_282 h_283 (g.fcts [4] rfl)) (cwV 2 hts (gV_ t_1122 t_1107 t_1108 t_184 t_1109) rfl rfl rfl (by decide +kernel) ⟨(Nat.le_of_ble_eq_true rfl), (Nat.le_of_ble_eq_true rfl)⟩) (pre3V g hK mq0_ kq0_ (by decide) (q := (RX8, TX8, 10)) rfl) rfl rfl hl.1 rfl (lv_room (Nat.le_of_ble_eq_true rfl)) dX2_readMemberHead_305 ⟨(Nat.le_of_ble_eq_true rfl), (Nat.le_of_ble_eq_true rfl)⟩) g hK (by decide) (by decide) (fx' := [(6, 3, q4_, .int x_305), (6, 3, a_303, .int x_304), (7, 2, q2_, .ref a_302), (8, 8, q0_, .int x_282), (9, 9, q3_, .ref a_11), (2, 0, a0_, .ref q0_), (2, 1, a0_, .ref q1_), (2, 3, a0_, .ref q2_), (2, 4, a0_, .ref q3_), (2, 5, a0_, .ref q4_), (5, 1, q1_, .ref q5_)]) rfl (fun fr_307 H locs hp hMr_307 g => ?_)
                have hF_308 := hp
                have g := g.more hF_308
                subst hQ
                exact W.vret hx hb hr (fun t ht hW => ⟨⟨_, rfl, Or.inr (⟨1201, kb_1201, x_282, h_283, q4_, ⟨mq4_, kq4_⟩, (g.fcts [0, 4, 10] rfl)⟩), q3_of g hK ht hW⟩, g.2.2.1.F ht⟩) g.2.2.1.2.2 dX2_readMemberHead_308
          · have fc_293 := nlt_f c_293
            have b_309 : bd 0 3 v199_7 := leL fc_293 bv199_7 kb_3 (by decide)
            refine lv_iload hx hb dX2_readMemberHead_205 (lv_at hl 1 rfl) ?_
            have kb_0 : bd 0 0 (0 : Int32) := ⟨by decide, by decide⟩
            refine lv_if_eq (tgt := 251) hx hb dX2_readMemberHead_207 (by decide) (fun c_310 => ?_) (fun c_310 => ?_)
            · have fc_310 := eq_f c_310
              have b_311 : bd 0 0 v199_6 := eqX fc_310 bv199_6 kb_0 (by decide)
              refine lv_aload_n hx hb dX2_readMemberHead_251 rfl (lv_at hl 6 rfl) ?_
              refine g_getk (C := RX2) (T := TX2) (N := 16) hx hb hts (mc_ inX2) hown hK g rfl 0 (by decide) rfl (hts _ (List.mem_cons_of_mem _ t_416)) (fun _ h9 => h9) 3 rfl dX2_readMemberHead_252 ?_
              refine g_calli (va_runV (As := []) (rest := []) ⟨hx, hb, hml, hown, hts⟩ (r_X8_place l dC dI L kd tys f H.size g.2.2.2.1 q0_ mq0_ kq0_) (cwV 0 hts (gV_ t_1110 t_1111 t_1112 t_184 t_1113) rfl rfl rfl (by decide +kernel) ⟨(Nat.le_of_ble_eq_true rfl), (Nat.le_of_ble_eq_true rfl)⟩) (pre3V g hK mq0_ kq0_ (by decide) (q := (RX8, TX8, 10)) rfl) rfl rfl hl.1 rfl (lv_room (Nat.le_of_ble_eq_true rfl)) dX2_readMemberHead_255 ⟨(Nat.le_of_ble_eq_true rfl), (Nat.le_of_ble_eq_true rfl)⟩) g hK (by decide) (by decide) (fx' := [(8, 6, q0_, .int w199_8_6_q0_), (8, 8, q0_, .int x_282), (9, 9, q3_, .ref a_11), (2, 0, a0_, .ref q0_), (2, 1, a0_, .ref q1_), (2, 3, a0_, .ref q2_), (2, 4, a0_, .ref q3_), (2, 5, a0_, .ref q4_), (5, 1, q1_, .ref q5_)]) rfl (fun r_312 fr_312 H locs hp hMr_312 g => ?_)
              refine lv_istore (lv' := [(7, .int r_312), (6, .int v199_6), (5, .int x_12), (4, .int r_7), (2, .long r_6), (1, .int r_5), (0, .ref a0_)]) hx hb dX2_readMemberHead_258 hl (by decide) rfl (fun ls hl => ?_)
              refine lv_aload_n hx hb dX2_readMemberHead_260 rfl (lv_at hl 6 rfl) ?_
              refine g_getk (C := RX2) (T := TX2) (N := 16) hx hb hts (mc_ inX2) hown hK g rfl 0 (by decide) rfl (hts _ (List.mem_cons_of_mem _ t_416)) (fun _ h9 => h9) 3 rfl dX2_readMemberHead_261 ?_
              refine lv_bipush (v := 41) hx hb dX2_readMemberHead_264 (by decide) ?_
              refine g_callv (va_runV (As := [.int 41]) (rest := []) ⟨hx, hb, hml, hown, hts⟩ (r_X8_take_2 l dC dI L kd tys fr_312 H.size g.2.2.2.1 q0_ mq0_ kq0_ 41 w199_8_6_q0_ bw199_8_6_q0_ x_282 h_283 (g.fcts [0, 1] rfl)) (cwV 1 hts (gV_ t_1098 t_1099 t_1100 t_184 t_1101) rfl rfl rfl (by decide +kernel) ⟨(Nat.le_of_ble_eq_true rfl), (Nat.le_of_ble_eq_true rfl)⟩) (pre3V g hK mq0_ kq0_ (by decide) (q := (RX8, TX8, 10)) rfl) rfl rfl hl.1 rfl (lv_room (Nat.le_of_ble_eq_true rfl)) dX2_readMemberHead_266 ⟨(Nat.le_of_ble_eq_true rfl), (Nat.le_of_ble_eq_true rfl)⟩) g hK (by decide) (by decide) (fx' := [(8, 8, q0_, .int x_282), (9, 9, q3_, .ref a_11), (2, 0, a0_, .ref q0_), (2, 1, a0_, .ref q1_), (2, 3, a0_, .ref q2_), (2, 4, a0_, .ref q3_), (2, 5, a0_, .ref q4_), (5, 1, q1_, .ref q5_)]) rfl (fun fr_313 H locs hp hMr_313 g => ?_)
              obtain ⟨x_314, h_315, hF_316⟩ := hp
              have g := g.more hF_316
              refine lv_iload hx hb dX2_readMemberHead_269 (lv_at hl 2 rfl) ?_
              refine lv_iconst (v := (-1)) hx hb dX2_readMemberHead_271 (by decide) ?_
              refine lv_icmp_eq (tgt := 308) hx hb dX2_readMemberHead_272 (by decide) (fun c_317 => ?_) (fun c_317 => ?_)
              · have fc_317 := eq_f c_317
                have b_318 : bd 0 (-1) x_12 := eqX fc_317 bx_12 kb_m1 (by decide)
                exact bd_no b_318 (by decide)
              · have fc_317 := neq_f c_317
                refine lv_aload_n hx hb dX2_readMemberHead_275 rfl (lv_at hl 6 rfl) ?_
                refine g_getk (C := RX2) (T := TX2) (N := 16) hx hb hts (mc_ inX2) hown hK g rfl 3 (by decide) rfl (hts _ (List.mem_cons_of_mem _ t_419)) (fun _ h9 => h9) 5 rfl dX2_readMemberHead_276 ?_
                refine g_getr (K := 137) (C := RX7) (T := TX7) (N := 19) hx hb hts (mc_ inX7) hown hK g mq2_ kq2_ (by decide) rfl 2 (by decide) rfl (hts _ (List.mem_cons_of_mem _ t_630)) (fun _ h9 => h9) rfl dX2_readMemberHead_279 (fun a_319 ma_319 ka_319 g => ?_)
                refine lv_iload hx hb dX2_readMemberHead_282 (lv_at hl 2 rfl) ?_
                refine g_aald hx hb hK g ma_319 ka_319 (by decide) rfl (by decide) (in_bd bx_12 (by decide)) dX2_readMemberHead_284 (fun a_320 ma_320 ua_320 wa_320 => ?_)
                have ka_320 : kd a_320 = 6 := by omega
                refine g_geti (C := RX6) (T := TX6) (N := 13) hx hb hts (mc_ inX6) hown hK g ma_320 ka_320 (by decide) rfl 3 (by decide) rfl (hts _ (List.mem_cons_of_mem _ t_568)) (fun _ h9 => h9) rfl dX2_readMemberHead_285 (fun x_321 bx_321 g => ?_)
                refine lv_aload_n hx hb dX2_readMemberHead_288 rfl (lv_at hl 6 rfl) ?_
                refine g_getk (C := RX2) (T := TX2) (N := 16) hx hb hts (mc_ inX2) hown hK g rfl 5 (by decide) rfl (hts _ (List.mem_cons_of_mem _ t_421)) (fun _ h9 => h9) 9 rfl dX2_readMemberHead_289 ?_
                refine g_geti (C := RX6) (T := TX6) (N := 13) hx hb hts (mc_ inX6) hown hK g mq4_ kq4_ (by decide) rfl 3 (by decide) rfl (hts _ (List.mem_cons_of_mem _ t_568)) (fun _ h9 => h9) rfl dX2_readMemberHead_292 (fun x_322 bx_322 g => ?_)
                refine lv_icmp_eq (tgt := 308) hx hb dX2_readMemberHead_295 (by decide) (fun c_323 => ?_) (fun c_323 => ?_)
                · have fc_323 := eq_f c_323
                  subst hQ
                  exact W.vret hx hb hr (fun t ht hW => ⟨⟨_, rfl, Or.inr (⟨x_314, h_315, x_282, h_283, q4_, ⟨mq4_, kq4_⟩, (g.fcts [3, 4, 10] rfl)⟩), q3_of g hK ht hW⟩, g.2.2.1.F ht⟩) g.2.2.1.2.2 dX2_readMemberHead_308
                · have fc_323 := neq_f c_323
                  refine lv_aload_n hx hb dX2_readMemberHead_298 rfl (lv_at hl 6 rfl) ?_
                  refine g_getk (C := RX2) (T := TX2) (N := 16) hx hb hts (mc_ inX2) hown hK g rfl 0 (by decide) rfl (hts _ (List.mem_cons_of_mem _ t_416)) (fun _ h9 => h9) 6 rfl dX2_readMemberHead_299 ?_
                  refine lv_iconst (v := 5) hx hb dX2_readMemberHead_302 (by decide) ?_
                  refine lv_iload hx hb dX2_readMemberHead_303 (lv_at hl 0 rfl) ?_
                  have kb_5 : bd 5 5 (5 : Int32) := ⟨by decide, by decide⟩
                  refine g_callv (va_runV (As := [.int 5, .int r_312]) (rest := []) ⟨hx, hb, hml, hown, hts⟩ (r_X8_fail_2 l dC dI L kd tys fr_313 H.size g.2.2.2.1 q0_ mq0_ kq0_ 5 (bd_sub kb_5 (by decide)) r_312 x_282 h_283 (g.fcts [4] rfl)) (cwV 2 hts (gV_ t_1122 t_1107 t_1108 t_184 t_1109) rfl rfl rfl (by decide +kernel) ⟨(Nat.le_of_ble_eq_true rfl), (Nat.le_of_ble_eq_true rfl)⟩) (pre3V g hK mq0_ kq0_ (by decide) (q := (RX8, TX8, 10)) rfl) rfl rfl hl.1 rfl (lv_room (Nat.le_of_ble_eq_true rfl)) dX2_readMemberHead_305 ⟨(Nat.le_of_ble_eq_true rfl), (Nat.le_of_ble_eq_true rfl)⟩) g hK (by decide) (by decide) (fx' := [(6, 3, q4_, .int x_322), (6, 3, a_320, .int x_321), (7, 2, q2_, .ref a_319), (8, 8, q0_, .int x_282), (9, 9, q3_, .ref a_11), (2, 0, a0_, .ref q0_), (2, 1, a0_, .ref q1_), (2, 3, a0_, .ref q2_), (2, 4, a0_, .ref q3_), (2, 5, a0_, .ref q4_), (5, 1, q1_, .ref q5_)]) rfl (fun fr_324 H locs hp hMr_324 g => ?_)
                  have hF_325 := hp
                  have g := g.more hF_325
                  subst hQ
                  exact W.vret hx hb hr (fun t ht hW => ⟨⟨_, rfl, Or.inr (⟨1201, kb_1201, x_282, h_283, q4_, ⟨mq4_, kq4_⟩, (g.fcts [0, 4, 10] rfl)⟩), q3_of g hK ht hW⟩, g.2.2.1.F ht⟩) g.2.2.1.2.2 dX2_readMemberHead_308
            · have fc_310 := neq_f c_310
              have b_326 : bd 1 1 v199_6 := neX fc_310 bv199_6 kb_0 (by decide)
              refine lv_aload_n hx hb dX2_readMemberHead_210 rfl (lv_at hl 6 rfl) ?_
              refine g_callv (va_runV (As := []) (rest := []) ⟨hx, hb, hml, hown, hts⟩ (r_X2_readParam_2 l dC dI L kd tys f H.size g.2.2.2.1 a0_ ma0_ ka0_ q0_ mq0_ kq0_ q1_ mq1_ kq1_ q4_ mq4_ kq4_ q5_ mq5_ kq5_ w199_8_6_q0_ bw199_8_6_q0_ x_282 h_283 (g.fcts [3, 4, 7, 8, 0, 1] rfl)) (cwV 0 hts (gV_ t_1313 t_1315 t_34 t_183 t_1316) rfl rfl rfl (by decide +kernel) ⟨(Nat.le_of_ble_eq_true rfl), (Nat.le_of_ble_eq_true rfl)⟩) (pre3V g hK ma0_ ka0_ (by decide) (q := (RX2, TX2, 16)) rfl) rfl rfl hl.1 rfl (lv_room (Nat.le_of_ble_eq_true rfl)) dX2_readMemberHead_211 ⟨(Nat.le_of_ble_eq_true rfl), (Nat.le_of_ble_eq_true rfl)⟩) g hK (by decide) (by decide) (fx' := [(8, 8, q0_, .int x_282), (9, 9, q3_, .ref a_11), (2, 0, a0_, .ref q0_), (2, 1, a0_, .ref q1_), (2, 3, a0_, .ref q2_), (2, 4, a0_, .ref q3_), (2, 5, a0_, .ref q4_), (5, 1, q1_, .ref q5_)]) rfl (fun fr_327 H locs hp hMr_327 g => ?_)
              have hF_328 := hp
              have g := g.more hF_328
              refine lv_aload_n hx hb dX2_readMemberHead_214 rfl (lv_at hl 6 rfl) ?_
              refine g_getk (C := RX2) (T := TX2) (N := 16) hx hb hts (mc_ inX2) hown hK g rfl 0 (by decide) rfl (hts _ (List.mem_cons_of_mem _ t_416)) (fun _ h9 => h9) 3 rfl dX2_readMemberHead_215 ?_
              refine g_calli (va_runV (As := []) (rest := []) ⟨hx, hb, hml, hown, hts⟩ (r_X8_kind_2 l dC dI L kd tys fr_327 H.size g.2.2.2.1 q0_ mq0_ kq0_ 1201 kb_1201 (g.fcts [0] rfl)) (cwV 0 hts (gV_ t_1118 t_1119 t_1120 t_184 t_1121) rfl rfl rfl (by decide +kernel) ⟨(Nat.le_of_ble_eq_true rfl), (Nat.le_of_ble_eq_true rfl)⟩) (pre3V g hK mq0_ kq0_ (by decide) (q := (RX8, TX8, 10)) rfl) rfl rfl hl.1 rfl (lv_room (Nat.le_of_ble_eq_true rfl)) dX2_readMemberHead_218 ⟨(Nat.le_of_ble_eq_true rfl), (Nat.le_of_ble_eq_true rfl)⟩) g hK (by decide) (by decide) (fx' := [(8, 6, q0_, .int 1201), (8, 8, q0_, .int x_282), (9, 9, q3_, .ref a_11), (2, 0, a0_, .ref q0_), (2, 1, a0_, .ref q1_), (2, 3, a0_, .ref q2_), (2, 4, a0_, .ref q3_), (2, 5, a0_, .ref q4_), (5, 1, q1_, .ref q5_)]) rfl (fun r_329 fr_329 H locs hp hMr_329 g => ?_)
              obtain ⟨h_330, -⟩ := hp
              obtain rfl : r_329 = 0 := h_330
              refine lv_bipush (v := 44) hx hb dX2_readMemberHead_221 (by decide) ?_
              refine lv_icmp_ne (tgt := 230) hx hb dX2_readMemberHead_223 (by decide) (fun c_ => ?_) (fun c_ => absurd c_ (by decide))
              refine lv_iconst (v := 0) hx hb dX2_readMemberHead_230 (by decide) ?_
              refine lv_istore (lv' := [(6, .int 0), (7, .int v199_7), (5, .int x_12), (4, .int r_7), (2, .long r_6), (1, .int r_5), (0, .ref a0_)]) hx hb dX2_readMemberHead_231 hl (by decide) rfl (fun ls hl => ?_)
              refine lv_iload hx hb dX2_readMemberHead_233 (lv_at hl 0 rfl) ?_
              refine lv_if_eq (tgt := 245) hx hb dX2_readMemberHead_235 (by decide) (fun c_ => ?_) (fun c_ => absurd (by decide) c_)
              obtain ⟨y_331, ey_331⟩ : ∃ z : Int32, z = v199_7 + 1 := ⟨_, rfl⟩
              refine lv_iinc (v := y_331) (lv' := [(7, .int y_331), (6, .int 0), (5, .int x_12), (4, .int r_7), (2, .long r_6), (1, .int r_5), (0, .ref a0_)]) hx hb dX2_readMemberHead_245 hl (k := 1) rfl (by rw [ey_331]; rfl) (by decide) rfl (fun ls hl => ?_)
              have ty_331 := add_bd ey_331 b_309 kb_1 (by decide)
              have b_332 : bd 1 4 y_331 := add_rg ty_331 b_309 kb_1 (by decide)
              refine lv_goto (tgt := 199) hx hb dX2_readMemberHead_248 (by decide) ?_
              have hl9 := lv_sub hl [0, 1, 2, 3, 4, 5, 6] (by rfl : lv_pick [(7, .int y_331), (6, .int 0), (5, .int x_12), (4, .int r_7), (2, .long r_6), (1, .int r_5), (0, .ref a0_)] [0, 1, 2, 3, 4, 5, 6] = [(7, .int y_331), (6, .int 0), (5, .int x_12), (4, .int r_7), (2, .long r_6), (1, .int r_5), (0, .ref a0_)])
              have g9 := g.sub (fx' := [(8, 6, q0_, .int 1201), (8, 8, q0_, .int x_282), (9, 9, q3_, .ref a_11), (2, 0, a0_, .ref q0_), (2, 1, a0_, .ref q1_), (2, 3, a0_, .ref q2_), (2, 4, a0_, .ref q3_), (2, 5, a0_, .ref q4_), (5, 1, q1_, .ref q5_)]) [0, 1, 2, 3, 4, 5, 6, 7, 8] rfl
              exact ih199  y_331 0 1201 (bd_sub b_332 (by decide)) (bd_sub kb_0 (by decide)) kb_1201 (by have h9_0 := b_332; unfold bd at h9_0; have h9_1 := bv199_6; unfold bd at h9_1; have h9_2 := bv199_7; unfold bd at h9_2; have h9_3 := bw199_8_6_q0_; unfold bd at h9_3; have h9_4 := kb_0; unfold bd at h9_4; have h9_5 := kb_1; unfold bd at h9_5; have h9_6 := kb_1201; unfold bd at h9_6; have h9_7 := kb_3; unfold bd at h9_7; have h9_8 := kb_m1; unfold bd at h9_8; omega) _ _ _ _ g9  hl9
      have kb_0 : bd 0 0 (0 : Int32) := ⟨by decide, by decide⟩
      have hl9 := lv_sub hl [0, 1, 2, 3, 4, 5, 6] (by rfl : lv_pick [(7, .int 0), (6, .int 1), (5, .int x_12), (4, .int r_7), (2, .long r_6), (1, .int r_5), (0, .ref a0_)] [0, 1, 2, 3, 4, 5, 6] = [(7, .int 0), (6, .int 1), (5, .int x_12), (4, .int r_7), (2, .long r_6), (1, .int r_5), (0, .ref a0_)])
      have g9 := g.sub (fx' := [(8, 6, q0_, .int x_287), (8, 8, q0_, .int x_282), (9, 9, q3_, .ref a_11), (2, 0, a0_, .ref q0_), (2, 1, a0_, .ref q1_), (2, 3, a0_, .ref q2_), (2, 4, a0_, .ref q3_), (2, 5, a0_, .ref q4_), (5, 1, q1_, .ref q5_)]) [0, 1, 2, 3, 4, 5, 6, 7, 8] rfl
      exact loop_292 (11) 0 1 x_287 (bd_sub kb_0 (by decide)) (bd_sub kb_1 (by decide)) h_288 (by have h9_0 := h_288; unfold bd at h9_0; have h9_1 := kb_0; unfold bd at h9_1; have h9_2 := kb_1; unfold bd at h9_2; have h9_3 := kb_1201; unfold bd at h9_3; have h9_4 := kb_3; unfold bd at h9_4; have h9_5 := kb_m1; unfold bd at h9_5; omega) _ _ _ _ g9  hl9
  · have fc_9 := eq_f c_9
    have b_333 : bd (-1) (-1) r_7 := eqX fc_9 h_8 kb_m1 (by decide)
    refine lv_iconst (v := (-1)) hx hb dX2_readMemberHead_43 (by decide) ?_
    refine lv_goto (tgt := 57) hx hb dX2_readMemberHead_44 (by decide) ?_
    refine lv_istore (lv' := [(5, .int (-1)), (4, .int r_7), (2, .long r_6), (1, .int r_5), (0, .ref a0_)]) hx hb dX2_readMemberHead_57 hl (by decide) rfl (fun ls hl => ?_)
    refine lv_aload_n hx hb dX2_readMemberHead_59 rfl (lv_at hl 4 rfl) ?_
    refine g_getk (C := RX2) (T := TX2) (N := 16) hx hb hts (mc_ inX2) hown hK g rfl 0 (by decide) rfl (hts _ (List.mem_cons_of_mem _ t_416)) (fun _ h9 => h9) 1 rfl dX2_readMemberHead_60 ?_
    refine g_calli (va_runV (As := []) (rest := []) ⟨hx, hb, hml, hown, hts⟩ (r_X8_kind l dC dI L kd tys fr_7 H.size g.2.2.2.1 q0_ mq0_ kq0_) (cwV 0 hts (gV_ t_1118 t_1119 t_1120 t_184 t_1121) rfl rfl rfl (by decide +kernel) ⟨(Nat.le_of_ble_eq_true rfl), (Nat.le_of_ble_eq_true rfl)⟩) (pre3V g hK mq0_ kq0_ (by decide) (q := (RX8, TX8, 10)) rfl) rfl rfl hl.1 rfl (lv_room (Nat.le_of_ble_eq_true rfl)) dX2_readMemberHead_63 ⟨(Nat.le_of_ble_eq_true rfl), (Nat.le_of_ble_eq_true rfl)⟩) g hK (by decide) (by decide) (fx' := [(8, 6, q0_, .int x_2), (2, 0, a0_, .ref q0_), (2, 1, a0_, .ref q1_), (2, 3, a0_, .ref q2_), (2, 4, a0_, .ref q3_), (2, 5, a0_, .ref q4_), (5, 1, q1_, .ref q5_), (8, 8, q0_, .int y0_)]) rfl (fun r_334 fr_334 H locs hp hMr_334 g => ?_)
    refine lv_iconst (v := 3) hx hb dX2_readMemberHead_66 (by decide) ?_
    have kb_3 : bd 3 3 (3 : Int32) := ⟨by decide, by decide⟩
    refine lv_icmp_eq (tgt := 82) hx hb dX2_readMemberHead_67 (by decide) (fun c_335 => ?_) (fun c_335 => ?_)
    · have fc_335 := eq_f c_335
      have b_336 : bd 3 3 r_334 := eqX fc_335 (bdT r_334) kb_3 (by decide)
      refine lv_iload hx hb dX2_readMemberHead_82 (lv_at hl 0 rfl) ?_
      refine lv_iconst (v := (-1)) hx hb dX2_readMemberHead_84 (by decide) ?_
      refine lv_icmp_eq (tgt := 123) hx hb dX2_readMemberHead_85 (by decide) (fun c_ => ?_) (fun c_ => absurd (by decide) c_)
      refine lv_iload hx hb dX2_readMemberHead_123 (lv_at hl 0 rfl) ?_
      refine lv_iconst (v := (-1)) hx hb dX2_readMemberHead_125 (by decide) ?_
      refine lv_icmp_ne (tgt := 153) hx hb dX2_readMemberHead_126 (by decide) (fun c_ => absurd c_ (by decide)) (fun c_ => ?_)
      refine lv_aload_n hx hb dX2_readMemberHead_129 rfl (lv_at hl 4 rfl) ?_
      refine g_getk (C := RX2) (T := TX2) (N := 16) hx hb hts (mc_ inX2) hown hK g rfl 4 (by decide) rfl (hts _ (List.mem_cons_of_mem _ t_420)) (fun _ h9 => h9) 4 rfl dX2_readMemberHead_130 ?_
      refine g_geti (C := RX9) (T := TX9) (N := 13) hx hb hts (mc_ inX9) hown hK g mq3_ kq3_ (by decide) rfl 8 (by decide) rfl (hts _ (List.mem_cons_of_mem _ t_502)) (fun _ h9 => h9) rfl dX2_readMemberHead_133 (fun x_337 bx_337 g => ?_)
      refine lv_bipush (v := 12) hx hb dX2_readMemberHead_136 (by decide) ?_
      have kb_12 : bd 12 12 (12 : Int32) := ⟨by decide, by decide⟩
      refine lv_icmp_lt (tgt := 153) hx hb dX2_readMemberHead_138 (by decide) (fun c_338 => ?_) (fun c_338 => ?_)
      · have fc_338 := lt_f c_338
        have b_339 : bd 0 11 x_337 := ltL fc_338 bx_337 kb_12 (by decide)
        refine lv_aload_n hx hb dX2_readMemberHead_153 rfl (lv_at hl 4 rfl) ?_
        refine lv_lload_n hx hb dX2_readMemberHead_154 rfl (lv_at hl 2 rfl) ?_
        refine lv_iload_n hx hb dX2_readMemberHead_155 rfl (lv_at hl 3 rfl) ?_
        refine lv_iload hx hb dX2_readMemberHead_156 (lv_at hl 1 rfl) ?_
        refine g_callv (va_runV (As := [.long r_6, .int r_5, .int r_7]) (rest := []) ⟨hx, hb, hml, hown, hts⟩ (r_X2_beginTelling_2 l dC dI L kd tys fr_334 H.size g.2.2.2.1 a0_ ma0_ ka0_ r_6 r_5 r_7 b_333 q0_ mq0_ kq0_ q2_ mq2_ kq2_ q3_ mq3_ kq3_ x_337 b_339 y0_ by0_ (g.fcts [2, 4, 5, 0, 8] rfl)) (cwV 3 hts (gV_ t_1307 t_1309 t_33 t_183 t_1310) rfl rfl rfl (by decide +kernel) ⟨(Nat.le_of_ble_eq_true rfl), (Nat.le_of_ble_eq_true rfl)⟩) (pre3V g hK ma0_ ka0_ (by decide) (q := (RX2, TX2, 16)) rfl) rfl rfl hl.1 rfl (lv_room (Nat.le_of_ble_eq_true rfl)) dX2_readMemberHead_158 ⟨(Nat.le_of_ble_eq_true rfl), (Nat.le_of_ble_eq_true rfl)⟩) g hK (by decide) (by decide) (fx' := [(8, 6, q0_, .int x_2), (2, 0, a0_, .ref q0_), (2, 1, a0_, .ref q1_), (2, 3, a0_, .ref q2_), (2, 4, a0_, .ref q3_), (5, 1, q1_, .ref q5_), (8, 8, q0_, .int y0_)]) rfl (fun fr_340 H locs hp hMr_340 g => ?_)
        obtain ⟨x_341, h_342, a_343, ⟨ma_343, ka_343⟩, x_344, h_345, x_346, h_347, hF_348⟩ := hp
        have g := g.more hF_348
        refine lv_aload_n hx hb dX2_readMemberHead_161 rfl (lv_at hl 4 rfl) ?_
        refine g_getk (C := RX2) (T := TX2) (N := 16) hx hb hts (mc_ inX2) hown hK g rfl 0 (by decide) rfl (hts _ (List.mem_cons_of_mem _ t_416)) (fun _ h9 => h9) 6 rfl dX2_readMemberHead_162 ?_
        refine g_callv (va_runV (As := []) (rest := []) ⟨hx, hb, hml, hown, hts⟩ (r_X8_next l dC dI L kd tys fr_340 H.size g.2.2.2.1 q0_ mq0_ kq0_) (cwV 0 hts (gV_ t_1131 t_1103 t_1104 t_184 t_1105) rfl rfl rfl (by decide +kernel) ⟨(Nat.le_of_ble_eq_true rfl), (Nat.le_of_ble_eq_true rfl)⟩) (pre3V g hK mq0_ kq0_ (by decide) (q := (RX8, TX8, 10)) rfl) rfl rfl hl.1 rfl (lv_room (Nat.le_of_ble_eq_true rfl)) dX2_readMemberHead_165 ⟨(Nat.le_of_ble_eq_true rfl), (Nat.le_of_ble_eq_true rfl)⟩) g hK (by decide) (by decide) (fx' := [(2, 6, a0_, .int 0), (9, 8, q3_, .int x_341), (2, 5, a0_, .ref a_343), (7, 3, q2_, .int x_344), (6, 12, a_343, .int x_346), (2, 0, a0_, .ref q0_), (2, 1, a0_, .ref q1_), (2, 3, a0_, .ref q2_), (2, 4, a0_, .ref q3_), (5, 1, q1_, .ref q5_), (8, 8, q0_, .int y0_)]) rfl (fun fr_349 H locs hp hMr_349 g => ?_)
        obtain ⟨x_350, h_351, hF_352⟩ := hp
        have g := g.more hF_352
        refine lv_aload_n hx hb dX2_readMemberHead_168 rfl (lv_at hl 4 rfl) ?_
        refine g_getk (C := RX2) (T := TX2) (N := 16) hx hb hts (mc_ inX2) hown hK g rfl 0 (by decide) rfl (hts _ (List.mem_cons_of_mem _ t_416)) (fun _ h9 => h9) 6 rfl dX2_readMemberHead_169 ?_
        refine lv_bipush (v := 40) hx hb dX2_readMemberHead_172 (by decide) ?_
        refine g_callv (va_runV (As := [.int 40]) (rest := []) ⟨hx, hb, hml, hown, hts⟩ (r_X8_take l dC dI L kd tys fr_349 H.size g.2.2.2.1 q0_ mq0_ kq0_ 40 y0_ by0_ (g.fcts [11] rfl)) (cwV 1 hts (gV_ t_1098 t_1099 t_1100 t_184 t_1101) rfl rfl rfl (by decide +kernel) ⟨(Nat.le_of_ble_eq_true rfl), (Nat.le_of_ble_eq_true rfl)⟩) (pre3V g hK mq0_ kq0_ (by decide) (q := (RX8, TX8, 10)) rfl) rfl rfl hl.1 rfl (lv_room (Nat.le_of_ble_eq_true rfl)) dX2_readMemberHead_174 ⟨(Nat.le_of_ble_eq_true rfl), (Nat.le_of_ble_eq_true rfl)⟩) g hK (by decide) (by decide) (fx' := [(2, 6, a0_, .int 0), (9, 8, q3_, .int x_341), (2, 5, a0_, .ref a_343), (7, 3, q2_, .int x_344), (6, 12, a_343, .int x_346), (2, 0, a0_, .ref q0_), (2, 1, a0_, .ref q1_), (2, 3, a0_, .ref q2_), (2, 4, a0_, .ref q3_), (5, 1, q1_, .ref q5_)]) rfl (fun fr_353 H locs hp hMr_353 g => ?_)
        rcases hp with ⟨x_354, h_355, hF_356⟩ | ⟨x_357, h_358, hF_359⟩
        · have g := g.more hF_356
          refine lv_aload_n hx hb dX2_readMemberHead_177 rfl (lv_at hl 4 rfl) ?_
          refine g_getk (C := RX2) (T := TX2) (N := 16) hx hb hts (mc_ inX2) hown hK g rfl 0 (by decide) rfl (hts _ (List.mem_cons_of_mem _ t_416)) (fun _ h9 => h9) 7 rfl dX2_readMemberHead_178 ?_
          refine g_calli (va_runV (As := []) (rest := []) ⟨hx, hb, hml, hown, hts⟩ (r_X8_kind l dC dI L kd tys fr_353 H.size g.2.2.2.1 q0_ mq0_ kq0_) (cwV 0 hts (gV_ t_1118 t_1119 t_1120 t_184 t_1121) rfl rfl rfl (by decide +kernel) ⟨(Nat.le_of_ble_eq_true rfl), (Nat.le_of_ble_eq_true rfl)⟩) (pre3V g hK mq0_ kq0_ (by decide) (q := (RX8, TX8, 10)) rfl) rfl rfl hl.1 rfl (lv_room (Nat.le_of_ble_eq_true rfl)) dX2_readMemberHead_181 ⟨(Nat.le_of_ble_eq_true rfl), (Nat.le_of_ble_eq_true rfl)⟩) g hK (by decide) (by decide) (fx' := [(8, 6, q0_, .int x_354), (8, 8, q0_, .int y0_), (2, 6, a0_, .int 0), (9, 8, q3_, .int x_341), (2, 5, a0_, .ref a_343), (7, 3, q2_, .int x_344), (6, 12, a_343, .int x_346), (2, 0, a0_, .ref q0_), (2, 1, a0_, .ref q1_), (2, 3, a0_, .ref q2_), (2, 4, a0_, .ref q3_), (5, 1, q1_, .ref q5_)]) rfl (fun r_360 fr_360 H locs hp hMr_360 g => ?_)
          refine lv_bipush (v := 41) hx hb dX2_readMemberHead_184 (by decide) ?_
          have kb_41 : bd 41 41 (41 : Int32) := ⟨by decide, by decide⟩
          refine lv_icmp_eq (tgt := 193) hx hb dX2_readMemberHead_186 (by decide) (fun c_361 => ?_) (fun c_361 => ?_)
          · have fc_361 := eq_f c_361
            have b_362 : bd 41 41 r_360 := eqX fc_361 (bdT r_360) kb_41 (by decide)
            refine lv_iconst (v := 0) hx hb dX2_readMemberHead_193 (by decide) ?_
            refine lv_istore (lv' := [(6, .int 0), (5, .int (-1)), (4, .int r_7), (2, .long r_6), (1, .int r_5), (0, .ref a0_)]) hx hb dX2_readMemberHead_194 hl (by decide) rfl (fun ls hl => ?_)
            refine lv_iconst (v := 0) hx hb dX2_readMemberHead_196 (by decide) ?_
            refine lv_istore (lv' := [(7, .int 0), (6, .int 0), (5, .int (-1)), (4, .int r_7), (2, .long r_6), (1, .int r_5), (0, .ref a0_)]) hx hb dX2_readMemberHead_197 hl (by decide) rfl (fun ls hl => ?_)
            refine lv_iload hx hb dX2_readMemberHead_199 (lv_at hl 0 rfl) ?_
            refine lv_iconst (v := 3) hx hb dX2_readMemberHead_201 (by decide) ?_
            refine lv_icmp_gt (tgt := 251) hx hb dX2_readMemberHead_202 (by decide) (fun c_ => absurd c_ (by decide)) (fun c_ => ?_)
            refine lv_iload hx hb dX2_readMemberHead_205 (lv_at hl 1 rfl) ?_
            refine lv_if_eq (tgt := 251) hx hb dX2_readMemberHead_207 (by decide) (fun c_ => ?_) (fun c_ => absurd (by decide) c_)
            refine lv_aload_n hx hb dX2_readMemberHead_251 rfl (lv_at hl 6 rfl) ?_
            refine g_getk (C := RX2) (T := TX2) (N := 16) hx hb hts (mc_ inX2) hown hK g rfl 0 (by decide) rfl (hts _ (List.mem_cons_of_mem _ t_416)) (fun _ h9 => h9) 7 rfl dX2_readMemberHead_252 ?_
            refine g_calli (va_runV (As := []) (rest := []) ⟨hx, hb, hml, hown, hts⟩ (r_X8_place l dC dI L kd tys fr_360 H.size g.2.2.2.1 q0_ mq0_ kq0_) (cwV 0 hts (gV_ t_1110 t_1111 t_1112 t_184 t_1113) rfl rfl rfl (by decide +kernel) ⟨(Nat.le_of_ble_eq_true rfl), (Nat.le_of_ble_eq_true rfl)⟩) (pre3V g hK mq0_ kq0_ (by decide) (q := (RX8, TX8, 10)) rfl) rfl rfl hl.1 rfl (lv_room (Nat.le_of_ble_eq_true rfl)) dX2_readMemberHead_255 ⟨(Nat.le_of_ble_eq_true rfl), (Nat.le_of_ble_eq_true rfl)⟩) g hK (by decide) (by decide) (fx' := [(8, 6, q0_, .int x_354), (8, 8, q0_, .int y0_), (2, 6, a0_, .int 0), (9, 8, q3_, .int x_341), (2, 5, a0_, .ref a_343), (7, 3, q2_, .int x_344), (6, 12, a_343, .int x_346), (2, 0, a0_, .ref q0_), (2, 1, a0_, .ref q1_), (2, 3, a0_, .ref q2_), (2, 4, a0_, .ref q3_), (5, 1, q1_, .ref q5_)]) rfl (fun r_363 fr_363 H locs hp hMr_363 g => ?_)
            refine lv_istore (lv' := [(7, .int r_363), (6, .int 0), (5, .int (-1)), (4, .int r_7), (2, .long r_6), (1, .int r_5), (0, .ref a0_)]) hx hb dX2_readMemberHead_258 hl (by decide) rfl (fun ls hl => ?_)
            refine lv_aload_n hx hb dX2_readMemberHead_260 rfl (lv_at hl 6 rfl) ?_
            refine g_getk (C := RX2) (T := TX2) (N := 16) hx hb hts (mc_ inX2) hown hK g rfl 0 (by decide) rfl (hts _ (List.mem_cons_of_mem _ t_416)) (fun _ h9 => h9) 7 rfl dX2_readMemberHead_261 ?_
            refine lv_bipush (v := 41) hx hb dX2_readMemberHead_264 (by decide) ?_
            refine g_callv (va_runV (As := [.int 41]) (rest := []) ⟨hx, hb, hml, hown, hts⟩ (r_X8_take l dC dI L kd tys fr_363 H.size g.2.2.2.1 q0_ mq0_ kq0_ 41 y0_ by0_ (g.fcts [1] rfl)) (cwV 1 hts (gV_ t_1098 t_1099 t_1100 t_184 t_1101) rfl rfl rfl (by decide +kernel) ⟨(Nat.le_of_ble_eq_true rfl), (Nat.le_of_ble_eq_true rfl)⟩) (pre3V g hK mq0_ kq0_ (by decide) (q := (RX8, TX8, 10)) rfl) rfl rfl hl.1 rfl (lv_room (Nat.le_of_ble_eq_true rfl)) dX2_readMemberHead_266 ⟨(Nat.le_of_ble_eq_true rfl), (Nat.le_of_ble_eq_true rfl)⟩) g hK (by decide) (by decide) (fx' := [(2, 6, a0_, .int 0), (9, 8, q3_, .int x_341), (2, 5, a0_, .ref a_343), (7, 3, q2_, .int x_344), (6, 12, a_343, .int x_346), (2, 0, a0_, .ref q0_), (2, 1, a0_, .ref q1_), (2, 3, a0_, .ref q2_), (2, 4, a0_, .ref q3_), (5, 1, q1_, .ref q5_)]) rfl (fun fr_364 H locs hp hMr_364 g => ?_)
            rcases hp with ⟨x_365, h_366, hF_367⟩ | ⟨x_368, h_369, hF_370⟩
            · have g := g.more hF_367
              refine lv_iload hx hb dX2_readMemberHead_269 (lv_at hl 2 rfl) ?_
              refine lv_iconst (v := (-1)) hx hb dX2_readMemberHead_271 (by decide) ?_
              refine lv_icmp_eq (tgt := 308) hx hb dX2_readMemberHead_272 (by decide) (fun c_ => ?_) (fun c_ => absurd (by decide) c_)
              subst hQ
              exact W.vret hx hb hr (fun t ht hW => ⟨⟨_, rfl, Or.inl ⟨x_365, h_366, x_341, h_342, a_343, ⟨ma_343, ka_343⟩, x_344, h_345, x_346, h_347, (g.fcts [0, 1, 2, 3, 4, 5, 6] rfl)⟩, q3_of g hK ht hW⟩, g.2.2.1.F ht⟩) g.2.2.1.2.2 dX2_readMemberHead_308
            · have g := g.more hF_370
              refine lv_iload hx hb dX2_readMemberHead_269 (lv_at hl 2 rfl) ?_
              refine lv_iconst (v := (-1)) hx hb dX2_readMemberHead_271 (by decide) ?_
              refine lv_icmp_eq (tgt := 308) hx hb dX2_readMemberHead_272 (by decide) (fun c_ => ?_) (fun c_ => absurd (by decide) c_)
              have kb_1201 : bd 1201 1201 (1201 : Int32) := ⟨by decide, by decide⟩
              subst hQ
              exact W.vret hx hb hr (fun t ht hW => ⟨⟨_, rfl, Or.inr (⟨1201, kb_1201, x_368, h_369, a_343, ⟨ma_343, ka_343⟩, (g.fcts [0, 1, 4] rfl)⟩), q3_of g hK ht hW⟩, g.2.2.1.F ht⟩) g.2.2.1.2.2 dX2_readMemberHead_308
          · have fc_361 := neq_f c_361
            refine lv_iconst (v := 1) hx hb dX2_readMemberHead_189 (by decide) ?_
            refine lv_goto (tgt := 194) hx hb dX2_readMemberHead_190 (by decide) ?_
            refine lv_istore (lv' := [(6, .int 1), (5, .int (-1)), (4, .int r_7), (2, .long r_6), (1, .int r_5), (0, .ref a0_)]) hx hb dX2_readMemberHead_194 hl (by decide) rfl (fun ls hl => ?_)
            refine lv_iconst (v := 0) hx hb dX2_readMemberHead_196 (by decide) ?_
            refine lv_istore (lv' := [(7, .int 0), (6, .int 1), (5, .int (-1)), (4, .int r_7), (2, .long r_6), (1, .int r_5), (0, .ref a0_)]) hx hb dX2_readMemberHead_197 hl (by decide) rfl (fun ls hl => ?_)
            have loop_371 : ∀ (n : Nat) (v199_7 : Int32) (v199_6 : Int32) (w199_8_6_q0_ : Int32), bd 0 4 v199_7 → bd 0 1 v199_6 → bd 1 1201 w199_8_6_q0_ → (4 - v199_7.toInt < (n : Int)) → ∀ (f : Nat → va_E) (H : Heap) (locs : List Loc) (ls : Array Slot), G3 (dC, dI) L kd tys s f0 [(2, 5), (2, 6), (5, 4), (6, 0), (6, 1), (6, 2), (6, 3), (6, 6), (6, 7), (6, 8), (6, 9), (6, 10), (6, 11), (6, 12), (7, 3), (8, 6), (8, 8), (8, 9), (9, 8)] [132, 134, 135, 156] f H locs [(8, 6, q0_, .int w199_8_6_q0_), (8, 8, q0_, .int y0_), (2, 6, a0_, .int 0), (9, 8, q3_, .int x_341), (2, 5, a0_, .ref a_343), (7, 3, q2_, .int x_344), (6, 12, a_343, .int x_346), (2, 0, a0_, .ref q0_), (2, 1, a0_, .ref q1_), (2, 3, a0_, .ref q2_), (2, 4, a0_, .ref q3_), (5, 1, q1_, .ref q5_)] → lv_has ls 8 [(7, .int v199_7), (6, .int v199_6), (5, .int (-1)), (4, .int r_7), (2, .long r_6), (1, .int r_5), (0, .ref a0_)] → W p l e ({ frames := 3, cells := 0, slots := 0, locals := 72 } : Room) s m [.ref a0_].toArray below meth c H locs 0 0 Q (F0 m 199 ls []) := by
              intro n199
              induction n199 with
              | zero =>
                intro v199_7 v199_6 w199_8_6_q0_ bv199_7 bv199_6 bw199_8_6_q0_ hm199 f H locs ls g  hl
                exact absurd hm199 (by have h9_v199_7 := bv199_7; unfold bd at h9_v199_7; have h9_v199_6 := bv199_6; unfold bd at h9_v199_6; have h9_w199_8_6_q0_ := bw199_8_6_q0_; unfold bd at h9_w199_8_6_q0_; omega)
              | succ n199 ih199 =>
                intro v199_7 v199_6 w199_8_6_q0_ bv199_7 bv199_6 bw199_8_6_q0_ hm199 f H locs ls g  hl
                refine lv_iload hx hb dX2_readMemberHead_199 (lv_at hl 0 rfl) ?_
                refine lv_iconst (v := 3) hx hb dX2_readMemberHead_201 (by decide) ?_
                refine lv_icmp_gt (tgt := 251) hx hb dX2_readMemberHead_202 (by decide) (fun c_372 => ?_) (fun c_372 => ?_)
                · have fc_372 := lt_f c_372
                  have b_373 : bd 4 4 v199_7 := ltR fc_372 kb_3 bv199_7 (by decide)
                  refine lv_aload_n hx hb dX2_readMemberHead_251 rfl (lv_at hl 6 rfl) ?_
                  refine g_getk (C := RX2) (T := TX2) (N := 16) hx hb hts (mc_ inX2) hown hK g rfl 0 (by decide) rfl (hts _ (List.mem_cons_of_mem _ t_416)) (fun _ h9 => h9) 7 rfl dX2_readMemberHead_252 ?_
                  refine g_calli (va_runV (As := []) (rest := []) ⟨hx, hb, hml, hown, hts⟩ (r_X8_place l dC dI L kd tys f H.size g.2.2.2.1 q0_ mq0_ kq0_) (cwV 0 hts (gV_ t_1110 t_1111 t_1112 t_184 t_1113) rfl rfl rfl (by decide +kernel) ⟨(Nat.le_of_ble_eq_true rfl), (Nat.le_of_ble_eq_true rfl)⟩) (pre3V g hK mq0_ kq0_ (by decide) (q := (RX8, TX8, 10)) rfl) rfl rfl hl.1 rfl (lv_room (Nat.le_of_ble_eq_true rfl)) dX2_readMemberHead_255 ⟨(Nat.le_of_ble_eq_true rfl), (Nat.le_of_ble_eq_true rfl)⟩) g hK (by decide) (by decide) (fx' := [(8, 6, q0_, .int w199_8_6_q0_), (8, 8, q0_, .int y0_), (2, 6, a0_, .int 0), (9, 8, q3_, .int x_341), (2, 5, a0_, .ref a_343), (7, 3, q2_, .int x_344), (6, 12, a_343, .int x_346), (2, 0, a0_, .ref q0_), (2, 1, a0_, .ref q1_), (2, 3, a0_, .ref q2_), (2, 4, a0_, .ref q3_), (5, 1, q1_, .ref q5_)]) rfl (fun r_374 fr_374 H locs hp hMr_374 g => ?_)
                  refine lv_istore (lv' := [(7, .int r_374), (6, .int v199_6), (5, .int (-1)), (4, .int r_7), (2, .long r_6), (1, .int r_5), (0, .ref a0_)]) hx hb dX2_readMemberHead_258 hl (by decide) rfl (fun ls hl => ?_)
                  refine lv_aload_n hx hb dX2_readMemberHead_260 rfl (lv_at hl 6 rfl) ?_
                  refine g_getk (C := RX2) (T := TX2) (N := 16) hx hb hts (mc_ inX2) hown hK g rfl 0 (by decide) rfl (hts _ (List.mem_cons_of_mem _ t_416)) (fun _ h9 => h9) 7 rfl dX2_readMemberHead_261 ?_
                  refine lv_bipush (v := 41) hx hb dX2_readMemberHead_264 (by decide) ?_
                  refine g_callv (va_runV (As := [.int 41]) (rest := []) ⟨hx, hb, hml, hown, hts⟩ (r_X8_take l dC dI L kd tys fr_374 H.size g.2.2.2.1 q0_ mq0_ kq0_ 41 y0_ by0_ (g.fcts [1] rfl)) (cwV 1 hts (gV_ t_1098 t_1099 t_1100 t_184 t_1101) rfl rfl rfl (by decide +kernel) ⟨(Nat.le_of_ble_eq_true rfl), (Nat.le_of_ble_eq_true rfl)⟩) (pre3V g hK mq0_ kq0_ (by decide) (q := (RX8, TX8, 10)) rfl) rfl rfl hl.1 rfl (lv_room (Nat.le_of_ble_eq_true rfl)) dX2_readMemberHead_266 ⟨(Nat.le_of_ble_eq_true rfl), (Nat.le_of_ble_eq_true rfl)⟩) g hK (by decide) (by decide) (fx' := [(2, 6, a0_, .int 0), (9, 8, q3_, .int x_341), (2, 5, a0_, .ref a_343), (7, 3, q2_, .int x_344), (6, 12, a_343, .int x_346), (2, 0, a0_, .ref q0_), (2, 1, a0_, .ref q1_), (2, 3, a0_, .ref q2_), (2, 4, a0_, .ref q3_), (5, 1, q1_, .ref q5_)]) rfl (fun fr_375 H locs hp hMr_375 g => ?_)
                  rcases hp with ⟨x_376, h_377, hF_378⟩ | ⟨x_379, h_380, hF_381⟩
                  · have g := g.more hF_378
                    refine lv_iload hx hb dX2_readMemberHead_269 (lv_at hl 2 rfl) ?_
                    refine lv_iconst (v := (-1)) hx hb dX2_readMemberHead_271 (by decide) ?_
                    refine lv_icmp_eq (tgt := 308) hx hb dX2_readMemberHead_272 (by decide) (fun c_ => ?_) (fun c_ => absurd (by decide) c_)
                    subst hQ
                    exact W.vret hx hb hr (fun t ht hW => ⟨⟨_, rfl, Or.inl ⟨x_376, h_377, x_341, h_342, a_343, ⟨ma_343, ka_343⟩, x_344, h_345, x_346, h_347, (g.fcts [0, 1, 2, 3, 4, 5, 6] rfl)⟩, q3_of g hK ht hW⟩, g.2.2.1.F ht⟩) g.2.2.1.2.2 dX2_readMemberHead_308
                  · have g := g.more hF_381
                    refine lv_iload hx hb dX2_readMemberHead_269 (lv_at hl 2 rfl) ?_
                    refine lv_iconst (v := (-1)) hx hb dX2_readMemberHead_271 (by decide) ?_
                    refine lv_icmp_eq (tgt := 308) hx hb dX2_readMemberHead_272 (by decide) (fun c_ => ?_) (fun c_ => absurd (by decide) c_)
                    have kb_1201 : bd 1201 1201 (1201 : Int32) := ⟨by decide, by decide⟩
                    subst hQ
                    exact W.vret hx hb hr (fun t ht hW => ⟨⟨_, rfl, Or.inr (⟨1201, kb_1201, x_379, h_380, a_343, ⟨ma_343, ka_343⟩, (g.fcts [0, 1, 4] rfl)⟩), q3_of g hK ht hW⟩, g.2.2.1.F ht⟩) g.2.2.1.2.2 dX2_readMemberHead_308
                · have fc_372 := nlt_f c_372
                  have b_382 : bd 0 3 v199_7 := leL fc_372 bv199_7 kb_3 (by decide)
                  refine lv_iload hx hb dX2_readMemberHead_205 (lv_at hl 1 rfl) ?_
                  have kb_0 : bd 0 0 (0 : Int32) := ⟨by decide, by decide⟩
                  refine lv_if_eq (tgt := 251) hx hb dX2_readMemberHead_207 (by decide) (fun c_383 => ?_) (fun c_383 => ?_)
                  · have fc_383 := eq_f c_383
                    have b_384 : bd 0 0 v199_6 := eqX fc_383 bv199_6 kb_0 (by decide)
                    refine lv_aload_n hx hb dX2_readMemberHead_251 rfl (lv_at hl 6 rfl) ?_
                    refine g_getk (C := RX2) (T := TX2) (N := 16) hx hb hts (mc_ inX2) hown hK g rfl 0 (by decide) rfl (hts _ (List.mem_cons_of_mem _ t_416)) (fun _ h9 => h9) 7 rfl dX2_readMemberHead_252 ?_
                    refine g_calli (va_runV (As := []) (rest := []) ⟨hx, hb, hml, hown, hts⟩ (r_X8_place l dC dI L kd tys f H.size g.2.2.2.1 q0_ mq0_ kq0_) (cwV 0 hts (gV_ t_1110 t_1111 t_1112 t_184 t_1113) rfl rfl rfl (by decide +kernel) ⟨(Nat.le_of_ble_eq_true rfl), (Nat.le_of_ble_eq_true rfl)⟩) (pre3V g hK mq0_ kq0_ (by decide) (q := (RX8, TX8, 10)) rfl) rfl rfl hl.1 rfl (lv_room (Nat.le_of_ble_eq_true rfl)) dX2_readMemberHead_255 ⟨(Nat.le_of_ble_eq_true rfl), (Nat.le_of_ble_eq_true rfl)⟩) g hK (by decide) (by decide) (fx' := [(8, 6, q0_, .int w199_8_6_q0_), (8, 8, q0_, .int y0_), (2, 6, a0_, .int 0), (9, 8, q3_, .int x_341), (2, 5, a0_, .ref a_343), (7, 3, q2_, .int x_344), (6, 12, a_343, .int x_346), (2, 0, a0_, .ref q0_), (2, 1, a0_, .ref q1_), (2, 3, a0_, .ref q2_), (2, 4, a0_, .ref q3_), (5, 1, q1_, .ref q5_)]) rfl (fun r_385 fr_385 H locs hp hMr_385 g => ?_)
                    refine lv_istore (lv' := [(7, .int r_385), (6, .int v199_6), (5, .int (-1)), (4, .int r_7), (2, .long r_6), (1, .int r_5), (0, .ref a0_)]) hx hb dX2_readMemberHead_258 hl (by decide) rfl (fun ls hl => ?_)
                    refine lv_aload_n hx hb dX2_readMemberHead_260 rfl (lv_at hl 6 rfl) ?_
                    refine g_getk (C := RX2) (T := TX2) (N := 16) hx hb hts (mc_ inX2) hown hK g rfl 0 (by decide) rfl (hts _ (List.mem_cons_of_mem _ t_416)) (fun _ h9 => h9) 7 rfl dX2_readMemberHead_261 ?_
                    refine lv_bipush (v := 41) hx hb dX2_readMemberHead_264 (by decide) ?_
                    refine g_callv (va_runV (As := [.int 41]) (rest := []) ⟨hx, hb, hml, hown, hts⟩ (r_X8_take l dC dI L kd tys fr_385 H.size g.2.2.2.1 q0_ mq0_ kq0_ 41 y0_ by0_ (g.fcts [1] rfl)) (cwV 1 hts (gV_ t_1098 t_1099 t_1100 t_184 t_1101) rfl rfl rfl (by decide +kernel) ⟨(Nat.le_of_ble_eq_true rfl), (Nat.le_of_ble_eq_true rfl)⟩) (pre3V g hK mq0_ kq0_ (by decide) (q := (RX8, TX8, 10)) rfl) rfl rfl hl.1 rfl (lv_room (Nat.le_of_ble_eq_true rfl)) dX2_readMemberHead_266 ⟨(Nat.le_of_ble_eq_true rfl), (Nat.le_of_ble_eq_true rfl)⟩) g hK (by decide) (by decide) (fx' := [(2, 6, a0_, .int 0), (9, 8, q3_, .int x_341), (2, 5, a0_, .ref a_343), (7, 3, q2_, .int x_344), (6, 12, a_343, .int x_346), (2, 0, a0_, .ref q0_), (2, 1, a0_, .ref q1_), (2, 3, a0_, .ref q2_), (2, 4, a0_, .ref q3_), (5, 1, q1_, .ref q5_)]) rfl (fun fr_386 H locs hp hMr_386 g => ?_)
                    rcases hp with ⟨x_387, h_388, hF_389⟩ | ⟨x_390, h_391, hF_392⟩
                    · have g := g.more hF_389
                      refine lv_iload hx hb dX2_readMemberHead_269 (lv_at hl 2 rfl) ?_
                      refine lv_iconst (v := (-1)) hx hb dX2_readMemberHead_271 (by decide) ?_
                      refine lv_icmp_eq (tgt := 308) hx hb dX2_readMemberHead_272 (by decide) (fun c_ => ?_) (fun c_ => absurd (by decide) c_)
                      subst hQ
                      exact W.vret hx hb hr (fun t ht hW => ⟨⟨_, rfl, Or.inl ⟨x_387, h_388, x_341, h_342, a_343, ⟨ma_343, ka_343⟩, x_344, h_345, x_346, h_347, (g.fcts [0, 1, 2, 3, 4, 5, 6] rfl)⟩, q3_of g hK ht hW⟩, g.2.2.1.F ht⟩) g.2.2.1.2.2 dX2_readMemberHead_308
                    · have g := g.more hF_392
                      refine lv_iload hx hb dX2_readMemberHead_269 (lv_at hl 2 rfl) ?_
                      refine lv_iconst (v := (-1)) hx hb dX2_readMemberHead_271 (by decide) ?_
                      refine lv_icmp_eq (tgt := 308) hx hb dX2_readMemberHead_272 (by decide) (fun c_ => ?_) (fun c_ => absurd (by decide) c_)
                      have kb_1201 : bd 1201 1201 (1201 : Int32) := ⟨by decide, by decide⟩
                      subst hQ
                      exact W.vret hx hb hr (fun t ht hW => ⟨⟨_, rfl, Or.inr (⟨1201, kb_1201, x_390, h_391, a_343, ⟨ma_343, ka_343⟩, (g.fcts [0, 1, 4] rfl)⟩), q3_of g hK ht hW⟩, g.2.2.1.F ht⟩) g.2.2.1.2.2 dX2_readMemberHead_308
                  · have fc_383 := neq_f c_383
                    have b_393 : bd 1 1 v199_6 := neX fc_383 bv199_6 kb_0 (by decide)
                    refine lv_aload_n hx hb dX2_readMemberHead_210 rfl (lv_at hl 6 rfl) ?_
                    refine g_callv (va_runV (As := []) (rest := []) ⟨hx, hb, hml, hown, hts⟩ (r_X2_readParam l dC dI L kd tys f H.size g.2.2.2.1 a0_ ma0_ ka0_ q0_ mq0_ kq0_ q1_ mq1_ kq1_ a_343 ma_343 ka_343 q5_ mq5_ kq5_ y0_ by0_ (g.fcts [7, 8, 4, 11, 1] rfl)) (cwV 0 hts (gV_ t_1313 t_1315 t_34 t_183 t_1316) rfl rfl rfl (by decide +kernel) ⟨(Nat.le_of_ble_eq_true rfl), (Nat.le_of_ble_eq_true rfl)⟩) (pre3V g hK ma0_ ka0_ (by decide) (q := (RX2, TX2, 16)) rfl) rfl rfl hl.1 rfl (lv_room (Nat.le_of_ble_eq_true rfl)) dX2_readMemberHead_211 ⟨(Nat.le_of_ble_eq_true rfl), (Nat.le_of_ble_eq_true rfl)⟩) g hK (by decide) (by decide) (fx' := [(2, 6, a0_, .int 0), (9, 8, q3_, .int x_341), (2, 5, a0_, .ref a_343), (7, 3, q2_, .int x_344), (6, 12, a_343, .int x_346), (2, 0, a0_, .ref q0_), (2, 1, a0_, .ref q1_), (2, 3, a0_, .ref q2_), (2, 4, a0_, .ref q3_), (5, 1, q1_, .ref q5_)]) rfl (fun fr_394 H locs hp hMr_394 g => ?_)
                    rcases hp with ⟨x_395, h_396, x_397, h_398, x_399, h_400, hF_401⟩ | ⟨x_402, h_403, hF_404⟩
                    · have g := g.more hF_401
                      refine lv_aload_n hx hb dX2_readMemberHead_214 rfl (lv_at hl 6 rfl) ?_
                      refine g_getk (C := RX2) (T := TX2) (N := 16) hx hb hts (mc_ inX2) hown hK g rfl 0 (by decide) rfl (hts _ (List.mem_cons_of_mem _ t_416)) (fun _ h9 => h9) 9 rfl dX2_readMemberHead_215 ?_
                      refine g_calli (va_runV (As := []) (rest := []) ⟨hx, hb, hml, hown, hts⟩ (r_X8_kind l dC dI L kd tys fr_394 H.size g.2.2.2.1 q0_ mq0_ kq0_) (cwV 0 hts (gV_ t_1118 t_1119 t_1120 t_184 t_1121) rfl rfl rfl (by decide +kernel) ⟨(Nat.le_of_ble_eq_true rfl), (Nat.le_of_ble_eq_true rfl)⟩) (pre3V g hK mq0_ kq0_ (by decide) (q := (RX8, TX8, 10)) rfl) rfl rfl hl.1 rfl (lv_room (Nat.le_of_ble_eq_true rfl)) dX2_readMemberHead_218 ⟨(Nat.le_of_ble_eq_true rfl), (Nat.le_of_ble_eq_true rfl)⟩) g hK (by decide) (by decide) (fx' := [(6, 3, a_343, .int x_395), (5, 4, q1_, .int x_397), (8, 6, q0_, .int x_399), (8, 8, q0_, .int y0_), (2, 6, a0_, .int 0), (9, 8, q3_, .int x_341), (2, 5, a0_, .ref a_343), (7, 3, q2_, .int x_344), (6, 12, a_343, .int x_346), (2, 0, a0_, .ref q0_), (2, 1, a0_, .ref q1_), (2, 3, a0_, .ref q2_), (2, 4, a0_, .ref q3_), (5, 1, q1_, .ref q5_)]) rfl (fun r_405 fr_405 H locs hp hMr_405 g => ?_)
                      refine lv_bipush (v := 44) hx hb dX2_readMemberHead_221 (by decide) ?_
                      have kb_44 : bd 44 44 (44 : Int32) := ⟨by decide, by decide⟩
                      refine lv_icmp_ne (tgt := 230) hx hb dX2_readMemberHead_223 (by decide) (fun c_406 => ?_) (fun c_406 => ?_)
                      · have fc_406 := neq_f c_406
                        refine lv_iconst (v := 0) hx hb dX2_readMemberHead_230 (by decide) ?_
                        refine lv_istore (lv' := [(6, .int 0), (7, .int v199_7), (5, .int (-1)), (4, .int r_7), (2, .long r_6), (1, .int r_5), (0, .ref a0_)]) hx hb dX2_readMemberHead_231 hl (by decide) rfl (fun ls hl => ?_)
                        refine lv_iload hx hb dX2_readMemberHead_233 (lv_at hl 0 rfl) ?_
                        refine lv_if_eq (tgt := 245) hx hb dX2_readMemberHead_235 (by decide) (fun c_ => ?_) (fun c_ => absurd (by decide) c_)
                        have kb_1 : bd 1 1 (1 : Int32) := ⟨by decide, by decide⟩
                        obtain ⟨y_407, ey_407⟩ : ∃ z : Int32, z = v199_7 + 1 := ⟨_, rfl⟩
                        refine lv_iinc (v := y_407) (lv' := [(7, .int y_407), (6, .int 0), (5, .int (-1)), (4, .int r_7), (2, .long r_6), (1, .int r_5), (0, .ref a0_)]) hx hb dX2_readMemberHead_245 hl (k := 1) rfl (by rw [ey_407]; rfl) (by decide) rfl (fun ls hl => ?_)
                        have ty_407 := add_bd ey_407 b_382 kb_1 (by decide)
                        have b_408 : bd 1 4 y_407 := add_rg ty_407 b_382 kb_1 (by decide)
                        refine lv_goto (tgt := 199) hx hb dX2_readMemberHead_248 (by decide) ?_
                        have hl9 := lv_sub hl [0, 1, 2, 3, 4, 5, 6] (by rfl : lv_pick [(7, .int y_407), (6, .int 0), (5, .int (-1)), (4, .int r_7), (2, .long r_6), (1, .int r_5), (0, .ref a0_)] [0, 1, 2, 3, 4, 5, 6] = [(7, .int y_407), (6, .int 0), (5, .int (-1)), (4, .int r_7), (2, .long r_6), (1, .int r_5), (0, .ref a0_)])
                        have g9 := g.sub (fx' := [(8, 6, q0_, .int x_399), (8, 8, q0_, .int y0_), (2, 6, a0_, .int 0), (9, 8, q3_, .int x_341), (2, 5, a0_, .ref a_343), (7, 3, q2_, .int x_344), (6, 12, a_343, .int x_346), (2, 0, a0_, .ref q0_), (2, 1, a0_, .ref q1_), (2, 3, a0_, .ref q2_), (2, 4, a0_, .ref q3_), (5, 1, q1_, .ref q5_)]) [2, 3, 4, 5, 6, 7, 8, 9, 10, 11, 12, 13] rfl
                        exact ih199  y_407 0 x_399 (bd_sub b_408 (by decide)) (bd_sub kb_0 (by decide)) h_400 (by have h9_0 := b_408; unfold bd at h9_0; have h9_1 := bv199_6; unfold bd at h9_1; have h9_2 := bv199_7; unfold bd at h9_2; have h9_3 := bw199_8_6_q0_; unfold bd at h9_3; have h9_4 := h_400; unfold bd at h9_4; have h9_5 := kb_0; unfold bd at h9_5; have h9_6 := kb_1; unfold bd at h9_6; have h9_7 := kb_12; unfold bd at h9_7; have h9_8 := kb_3; unfold bd at h9_8; have h9_9 := kb_41; unfold bd at h9_9; have h9_10 := kb_44; unfold bd at h9_10; have h9_11 := kb_m1; unfold bd at h9_11; omega) _ _ _ _ g9  hl9
                      · have fc_406 := eq_f c_406
                        have b_409 : bd 44 44 r_405 := eqX fc_406 (bdT r_405) kb_44 (by decide)
                        refine lv_iconst (v := 1) hx hb dX2_readMemberHead_226 (by decide) ?_
                        refine lv_goto (tgt := 231) hx hb dX2_readMemberHead_227 (by decide) ?_
                        refine lv_istore (lv' := [(6, .int 1), (7, .int v199_7), (5, .int (-1)), (4, .int r_7), (2, .long r_6), (1, .int r_5), (0, .ref a0_)]) hx hb dX2_readMemberHead_231 hl (by decide) rfl (fun ls hl => ?_)
                        refine lv_iload hx hb dX2_readMemberHead_233 (lv_at hl 0 rfl) ?_
                        refine lv_if_eq (tgt := 245) hx hb dX2_readMemberHead_235 (by decide) (fun c_ => absurd c_ (by decide)) (fun c_ => ?_)
                        refine lv_aload_n hx hb dX2_readMemberHead_238 rfl (lv_at hl 6 rfl) ?_
                        refine g_getk (C := RX2) (T := TX2) (N := 16) hx hb hts (mc_ inX2) hown hK g rfl 0 (by decide) rfl (hts _ (List.mem_cons_of_mem _ t_416)) (fun _ h9 => h9) 9 rfl dX2_readMemberHead_239 ?_
                        refine g_callv (va_runV (As := []) (rest := []) ⟨hx, hb, hml, hown, hts⟩ (r_X8_next l dC dI L kd tys fr_405 H.size g.2.2.2.1 q0_ mq0_ kq0_) (cwV 0 hts (gV_ t_1131 t_1103 t_1104 t_184 t_1105) rfl rfl rfl (by decide +kernel) ⟨(Nat.le_of_ble_eq_true rfl), (Nat.le_of_ble_eq_true rfl)⟩) (pre3V g hK mq0_ kq0_ (by decide) (q := (RX8, TX8, 10)) rfl) rfl rfl hl.1 rfl (lv_room (Nat.le_of_ble_eq_true rfl)) dX2_readMemberHead_242 ⟨(Nat.le_of_ble_eq_true rfl), (Nat.le_of_ble_eq_true rfl)⟩) g hK (by decide) (by decide) (fx' := [(6, 3, a_343, .int x_395), (5, 4, q1_, .int x_397), (8, 8, q0_, .int y0_), (2, 6, a0_, .int 0), (9, 8, q3_, .int x_341), (2, 5, a0_, .ref a_343), (7, 3, q2_, .int x_344), (6, 12, a_343, .int x_346), (2, 0, a0_, .ref q0_), (2, 1, a0_, .ref q1_), (2, 3, a0_, .ref q2_), (2, 4, a0_, .ref q3_), (5, 1, q1_, .ref q5_)]) rfl (fun fr_410 H locs hp hMr_410 g => ?_)
                        obtain ⟨x_411, h_412, hF_413⟩ := hp
                        have g := g.more hF_413
                        have kb_1 : bd 1 1 (1 : Int32) := ⟨by decide, by decide⟩
                        obtain ⟨y_414, ey_414⟩ : ∃ z : Int32, z = v199_7 + 1 := ⟨_, rfl⟩
                        refine lv_iinc (v := y_414) (lv' := [(7, .int y_414), (6, .int 1), (5, .int (-1)), (4, .int r_7), (2, .long r_6), (1, .int r_5), (0, .ref a0_)]) hx hb dX2_readMemberHead_245 hl (k := 1) rfl (by rw [ey_414]; rfl) (by decide) rfl (fun ls hl => ?_)
                        have ty_414 := add_bd ey_414 b_382 kb_1 (by decide)
                        have b_415 : bd 1 4 y_414 := add_rg ty_414 b_382 kb_1 (by decide)
                        refine lv_goto (tgt := 199) hx hb dX2_readMemberHead_248 (by decide) ?_
                        have hl9 := lv_sub hl [0, 1, 2, 3, 4, 5, 6] (by rfl : lv_pick [(7, .int y_414), (6, .int 1), (5, .int (-1)), (4, .int r_7), (2, .long r_6), (1, .int r_5), (0, .ref a0_)] [0, 1, 2, 3, 4, 5, 6] = [(7, .int y_414), (6, .int 1), (5, .int (-1)), (4, .int r_7), (2, .long r_6), (1, .int r_5), (0, .ref a0_)])
                        have g9 := g.sub (fx' := [(8, 6, q0_, .int x_411), (8, 8, q0_, .int y0_), (2, 6, a0_, .int 0), (9, 8, q3_, .int x_341), (2, 5, a0_, .ref a_343), (7, 3, q2_, .int x_344), (6, 12, a_343, .int x_346), (2, 0, a0_, .ref q0_), (2, 1, a0_, .ref q1_), (2, 3, a0_, .ref q2_), (2, 4, a0_, .ref q3_), (5, 1, q1_, .ref q5_)]) [0, 3, 4, 5, 6, 7, 8, 9, 10, 11, 12, 13] rfl
                        exact ih199  y_414 1 x_411 (bd_sub b_415 (by decide)) (bd_sub kb_1 (by decide)) h_412 (by have h9_0 := b_415; unfold bd at h9_0; have h9_1 := bv199_6; unfold bd at h9_1; have h9_2 := bv199_7; unfold bd at h9_2; have h9_3 := bw199_8_6_q0_; unfold bd at h9_3; have h9_4 := h_412; unfold bd at h9_4; have h9_5 := kb_0; unfold bd at h9_5; have h9_6 := kb_1; unfold bd at h9_6; have h9_7 := kb_12; unfold bd at h9_7; have h9_8 := kb_3; unfold bd at h9_8; have h9_9 := kb_41; unfold bd at h9_9; have h9_10 := kb_44; unfold bd at h9_10; have h9_11 := kb_m1; unfold bd at h9_11; omega) _ _ _ _ g9  hl9
                    · have g := g.more hF_404
                      refine lv_aload_n hx hb dX2_readMemberHead_214 rfl (lv_at hl 6 rfl) ?_
                      refine g_getk (C := RX2) (T := TX2) (N := 16) hx hb hts (mc_ inX2) hown hK g rfl 0 (by decide) rfl (hts _ (List.mem_cons_of_mem _ t_416)) (fun _ h9 => h9) 7 rfl dX2_readMemberHead_215 ?_
                      have kb_1201 : bd 1201 1201 (1201 : Int32) := ⟨by decide, by decide⟩
                      refine g_calli (va_runV (As := []) (rest := []) ⟨hx, hb, hml, hown, hts⟩ (r_X8_kind_2 l dC dI L kd tys fr_394 H.size g.2.2.2.1 q0_ mq0_ kq0_ 1201 kb_1201 (g.fcts [0] rfl)) (cwV 0 hts (gV_ t_1118 t_1119 t_1120 t_184 t_1121) rfl rfl rfl (by decide +kernel) ⟨(Nat.le_of_ble_eq_true rfl), (Nat.le_of_ble_eq_true rfl)⟩) (pre3V g hK mq0_ kq0_ (by decide) (q := (RX8, TX8, 10)) rfl) rfl rfl hl.1 rfl (lv_room (Nat.le_of_ble_eq_true rfl)) dX2_readMemberHead_218 ⟨(Nat.le_of_ble_eq_true rfl), (Nat.le_of_ble_eq_true rfl)⟩) g hK (by decide) (by decide) (fx' := [(8, 6, q0_, .int 1201), (8, 8, q0_, .int x_402), (2, 6, a0_, .int 0), (9, 8, q3_, .int x_341), (2, 5, a0_, .ref a_343), (7, 3, q2_, .int x_344), (6, 12, a_343, .int x_346), (2, 0, a0_, .ref q0_), (2, 1, a0_, .ref q1_), (2, 3, a0_, .ref q2_), (2, 4, a0_, .ref q3_), (5, 1, q1_, .ref q5_)]) rfl (fun r_416 fr_416 H locs hp hMr_416 g => ?_)
                      obtain ⟨h_417, -⟩ := hp
                      obtain rfl : r_416 = 0 := h_417
                      refine lv_bipush (v := 44) hx hb dX2_readMemberHead_221 (by decide) ?_
                      refine lv_icmp_ne (tgt := 230) hx hb dX2_readMemberHead_223 (by decide) (fun c_ => ?_) (fun c_ => absurd c_ (by decide))
                      refine lv_iconst (v := 0) hx hb dX2_readMemberHead_230 (by decide) ?_
                      refine lv_istore (lv' := [(6, .int 0), (7, .int v199_7), (5, .int (-1)), (4, .int r_7), (2, .long r_6), (1, .int r_5), (0, .ref a0_)]) hx hb dX2_readMemberHead_231 hl (by decide) rfl (fun ls hl => ?_)
                      refine lv_iload hx hb dX2_readMemberHead_233 (lv_at hl 0 rfl) ?_
                      refine lv_if_eq (tgt := 245) hx hb dX2_readMemberHead_235 (by decide) (fun c_ => ?_) (fun c_ => absurd (by decide) c_)
                      have kb_1 : bd 1 1 (1 : Int32) := ⟨by decide, by decide⟩
                      obtain ⟨y_418, ey_418⟩ : ∃ z : Int32, z = v199_7 + 1 := ⟨_, rfl⟩
                      refine lv_iinc (v := y_418) (lv' := [(7, .int y_418), (6, .int 0), (5, .int (-1)), (4, .int r_7), (2, .long r_6), (1, .int r_5), (0, .ref a0_)]) hx hb dX2_readMemberHead_245 hl (k := 1) rfl (by rw [ey_418]; rfl) (by decide) rfl (fun ls hl => ?_)
                      have ty_418 := add_bd ey_418 b_382 kb_1 (by decide)
                      have b_419 : bd 1 4 y_418 := add_rg ty_418 b_382 kb_1 (by decide)
                      refine lv_goto (tgt := 199) hx hb dX2_readMemberHead_248 (by decide) ?_
                      refine lv_iload hx hb dX2_readMemberHead_199 (lv_at hl 0 rfl) ?_
                      refine lv_iconst (v := 3) hx hb dX2_readMemberHead_201 (by decide) ?_
                      refine lv_icmp_gt (tgt := 251) hx hb dX2_readMemberHead_202 (by decide) (fun c_420 => ?_) (fun c_420 => ?_)
                      · have fc_420 := lt_f c_420
                        have b_421 : bd 4 4 y_418 := ltR fc_420 kb_3 b_419 (by decide)
                        have b_422 : bd 3 3 v199_7 := add_inv ty_418 b_421 b_382 kb_1 (by decide)
                        refine lv_aload_n hx hb dX2_readMemberHead_251 rfl (lv_at hl 6 rfl) ?_
                        refine g_getk (C := RX2) (T := TX2) (N := 16) hx hb hts (mc_ inX2) hown hK g rfl 0 (by decide) rfl (hts _ (List.mem_cons_of_mem _ t_416)) (fun _ h9 => h9) 7 rfl dX2_readMemberHead_252 ?_
                        refine g_calli (va_runV (As := []) (rest := []) ⟨hx, hb, hml, hown, hts⟩ (r_X8_place l dC dI L kd tys fr_416 H.size g.2.2.2.1 q0_ mq0_ kq0_) (cwV 0 hts (gV_ t_1110 t_1111 t_1112 t_184 t_1113) rfl rfl rfl (by decide +kernel) ⟨(Nat.le_of_ble_eq_true rfl), (Nat.le_of_ble_eq_true rfl)⟩) (pre3V g hK mq0_ kq0_ (by decide) (q := (RX8, TX8, 10)) rfl) rfl rfl hl.1 rfl (lv_room (Nat.le_of_ble_eq_true rfl)) dX2_readMemberHead_255 ⟨(Nat.le_of_ble_eq_true rfl), (Nat.le_of_ble_eq_true rfl)⟩) g hK (by decide) (by decide) (fx' := [(8, 6, q0_, .int 1201), (8, 8, q0_, .int x_402), (2, 6, a0_, .int 0), (9, 8, q3_, .int x_341), (2, 5, a0_, .ref a_343), (7, 3, q2_, .int x_344), (6, 12, a_343, .int x_346), (2, 0, a0_, .ref q0_), (2, 1, a0_, .ref q1_), (2, 3, a0_, .ref q2_), (2, 4, a0_, .ref q3_), (5, 1, q1_, .ref q5_)]) rfl (fun r_423 fr_423 H locs hp hMr_423 g => ?_)
                        refine lv_istore (lv' := [(7, .int r_423), (6, .int 0), (5, .int (-1)), (4, .int r_7), (2, .long r_6), (1, .int r_5), (0, .ref a0_)]) hx hb dX2_readMemberHead_258 hl (by decide) rfl (fun ls hl => ?_)
                        refine lv_aload_n hx hb dX2_readMemberHead_260 rfl (lv_at hl 6 rfl) ?_
                        refine g_getk (C := RX2) (T := TX2) (N := 16) hx hb hts (mc_ inX2) hown hK g rfl 0 (by decide) rfl (hts _ (List.mem_cons_of_mem _ t_416)) (fun _ h9 => h9) 7 rfl dX2_readMemberHead_261 ?_
                        refine lv_bipush (v := 41) hx hb dX2_readMemberHead_264 (by decide) ?_
                        refine g_callv (va_runV (As := [.int 41]) (rest := []) ⟨hx, hb, hml, hown, hts⟩ (r_X8_take_2 l dC dI L kd tys fr_423 H.size g.2.2.2.1 q0_ mq0_ kq0_ 41 1201 kb_1201 x_402 h_403 (g.fcts [0, 1] rfl)) (cwV 1 hts (gV_ t_1098 t_1099 t_1100 t_184 t_1101) rfl rfl rfl (by decide +kernel) ⟨(Nat.le_of_ble_eq_true rfl), (Nat.le_of_ble_eq_true rfl)⟩) (pre3V g hK mq0_ kq0_ (by decide) (q := (RX8, TX8, 10)) rfl) rfl rfl hl.1 rfl (lv_room (Nat.le_of_ble_eq_true rfl)) dX2_readMemberHead_266 ⟨(Nat.le_of_ble_eq_true rfl), (Nat.le_of_ble_eq_true rfl)⟩) g hK (by decide) (by decide) (fx' := [(8, 8, q0_, .int x_402), (2, 6, a0_, .int 0), (9, 8, q3_, .int x_341), (2, 5, a0_, .ref a_343), (7, 3, q2_, .int x_344), (6, 12, a_343, .int x_346), (2, 0, a0_, .ref q0_), (2, 1, a0_, .ref q1_), (2, 3, a0_, .ref q2_), (2, 4, a0_, .ref q3_), (5, 1, q1_, .ref q5_)]) rfl (fun fr_424 H locs hp hMr_424 g => ?_)
                        obtain ⟨x_425, h_426, hF_427⟩ := hp
                        have g := g.more hF_427
                        refine lv_iload hx hb dX2_readMemberHead_269 (lv_at hl 2 rfl) ?_
                        refine lv_iconst (v := (-1)) hx hb dX2_readMemberHead_271 (by decide) ?_
                        refine lv_icmp_eq (tgt := 308) hx hb dX2_readMemberHead_272 (by decide) (fun c_ => ?_) (fun c_ => absurd (by decide) c_)
                        subst hQ
                        exact W.vret hx hb hr (fun t ht hW => ⟨⟨_, rfl, Or.inr (⟨x_425, h_426, x_402, h_403, a_343, ⟨ma_343, ka_343⟩, (g.fcts [0, 1, 4] rfl)⟩), q3_of g hK ht hW⟩, g.2.2.1.F ht⟩) g.2.2.1.2.2 dX2_readMemberHead_308
                      · have fc_420 := nlt_f c_420
                        have b_428 : bd 1 3 y_418 := leL fc_420 b_419 kb_3 (by decide)
                        have b_429 : bd 0 2 v199_7 := add_inv ty_418 b_428 b_382 kb_1 (by decide)
                        refine lv_iload hx hb dX2_readMemberHead_205 (lv_at hl 1 rfl) ?_
                        refine lv_if_eq (tgt := 251) hx hb dX2_readMemberHead_207 (by decide) (fun c_ => ?_) (fun c_ => absurd (by decide) c_)
                        refine lv_aload_n hx hb dX2_readMemberHead_251 rfl (lv_at hl 6 rfl) ?_
                        refine g_getk (C := RX2) (T := TX2) (N := 16) hx hb hts (mc_ inX2) hown hK g rfl 0 (by decide) rfl (hts _ (List.mem_cons_of_mem _ t_416)) (fun _ h9 => h9) 7 rfl dX2_readMemberHead_252 ?_
                        refine g_calli (va_runV (As := []) (rest := []) ⟨hx, hb, hml, hown, hts⟩ (r_X8_place l dC dI L kd tys fr_416 H.size g.2.2.2.1 q0_ mq0_ kq0_) (cwV 0 hts (gV_ t_1110 t_1111 t_1112 t_184 t_1113) rfl rfl rfl (by decide +kernel) ⟨(Nat.le_of_ble_eq_true rfl), (Nat.le_of_ble_eq_true rfl)⟩) (pre3V g hK mq0_ kq0_ (by decide) (q := (RX8, TX8, 10)) rfl) rfl rfl hl.1 rfl (lv_room (Nat.le_of_ble_eq_true rfl)) dX2_readMemberHead_255 ⟨(Nat.le_of_ble_eq_true rfl), (Nat.le_of_ble_eq_true rfl)⟩) g hK (by decide) (by decide) (fx' := [(8, 6, q0_, .int 1201), (8, 8, q0_, .int x_402), (2, 6, a0_, .int 0), (9, 8, q3_, .int x_341), (2, 5, a0_, .ref a_343), (7, 3, q2_, .int x_344), (6, 12, a_343, .int x_346), (2, 0, a0_, .ref q0_), (2, 1, a0_, .ref q1_), (2, 3, a0_, .ref q2_), (2, 4, a0_, .ref q3_), (5, 1, q1_, .ref q5_)]) rfl (fun r_430 fr_430 H locs hp hMr_430 g => ?_)
                        refine lv_istore (lv' := [(7, .int r_430), (6, .int 0), (5, .int (-1)), (4, .int r_7), (2, .long r_6), (1, .int r_5), (0, .ref a0_)]) hx hb dX2_readMemberHead_258 hl (by decide) rfl (fun ls hl => ?_)
                        refine lv_aload_n hx hb dX2_readMemberHead_260 rfl (lv_at hl 6 rfl) ?_
                        refine g_getk (C := RX2) (T := TX2) (N := 16) hx hb hts (mc_ inX2) hown hK g rfl 0 (by decide) rfl (hts _ (List.mem_cons_of_mem _ t_416)) (fun _ h9 => h9) 7 rfl dX2_readMemberHead_261 ?_
                        refine lv_bipush (v := 41) hx hb dX2_readMemberHead_264 (by decide) ?_
                        refine g_callv (va_runV (As := [.int 41]) (rest := []) ⟨hx, hb, hml, hown, hts⟩ (r_X8_take_2 l dC dI L kd tys fr_430 H.size g.2.2.2.1 q0_ mq0_ kq0_ 41 1201 kb_1201 x_402 h_403 (g.fcts [0, 1] rfl)) (cwV 1 hts (gV_ t_1098 t_1099 t_1100 t_184 t_1101) rfl rfl rfl (by decide +kernel) ⟨(Nat.le_of_ble_eq_true rfl), (Nat.le_of_ble_eq_true rfl)⟩) (pre3V g hK mq0_ kq0_ (by decide) (q := (RX8, TX8, 10)) rfl) rfl rfl hl.1 rfl (lv_room (Nat.le_of_ble_eq_true rfl)) dX2_readMemberHead_266 ⟨(Nat.le_of_ble_eq_true rfl), (Nat.le_of_ble_eq_true rfl)⟩) g hK (by decide) (by decide) (fx' := [(8, 8, q0_, .int x_402), (2, 6, a0_, .int 0), (9, 8, q3_, .int x_341), (2, 5, a0_, .ref a_343), (7, 3, q2_, .int x_344), (6, 12, a_343, .int x_346), (2, 0, a0_, .ref q0_), (2, 1, a0_, .ref q1_), (2, 3, a0_, .ref q2_), (2, 4, a0_, .ref q3_), (5, 1, q1_, .ref q5_)]) rfl (fun fr_431 H locs hp hMr_431 g => ?_)
                        obtain ⟨x_432, h_433, hF_434⟩ := hp
                        have g := g.more hF_434
                        refine lv_iload hx hb dX2_readMemberHead_269 (lv_at hl 2 rfl) ?_
                        refine lv_iconst (v := (-1)) hx hb dX2_readMemberHead_271 (by decide) ?_
                        refine lv_icmp_eq (tgt := 308) hx hb dX2_readMemberHead_272 (by decide) (fun c_ => ?_) (fun c_ => absurd (by decide) c_)
                        subst hQ
                        exact W.vret hx hb hr (fun t ht hW => ⟨⟨_, rfl, Or.inr (⟨x_432, h_433, x_402, h_403, a_343, ⟨ma_343, ka_343⟩, (g.fcts [0, 1, 4] rfl)⟩), q3_of g hK ht hW⟩, g.2.2.1.F ht⟩) g.2.2.1.2.2 dX2_readMemberHead_308
            have kb_0 : bd 0 0 (0 : Int32) := ⟨by decide, by decide⟩
            have kb_1 : bd 1 1 (1 : Int32) := ⟨by decide, by decide⟩
            have hl9 := lv_sub hl [0, 1, 2, 3, 4, 5, 6] (by rfl : lv_pick [(7, .int 0), (6, .int 1), (5, .int (-1)), (4, .int r_7), (2, .long r_6), (1, .int r_5), (0, .ref a0_)] [0, 1, 2, 3, 4, 5, 6] = [(7, .int 0), (6, .int 1), (5, .int (-1)), (4, .int r_7), (2, .long r_6), (1, .int r_5), (0, .ref a0_)])
            have g9 := g.sub (fx' := [(8, 6, q0_, .int x_354), (8, 8, q0_, .int y0_), (2, 6, a0_, .int 0), (9, 8, q3_, .int x_341), (2, 5, a0_, .ref a_343), (7, 3, q2_, .int x_344), (6, 12, a_343, .int x_346), (2, 0, a0_, .ref q0_), (2, 1, a0_, .ref q1_), (2, 3, a0_, .ref q2_), (2, 4, a0_, .ref q3_), (5, 1, q1_, .ref q5_)]) [0, 1, 2, 3, 4, 5, 6, 7, 8, 9, 10, 11] rfl
            exact loop_371 (11) 0 1 x_354 (bd_sub kb_0 (by decide)) (bd_sub kb_1 (by decide)) h_355 (by have h9_0 := h_355; unfold bd at h9_0; have h9_1 := kb_0; unfold bd at h9_1; have h9_2 := kb_1; unfold bd at h9_2; have h9_3 := kb_12; unfold bd at h9_3; have h9_4 := kb_3; unfold bd at h9_4; have h9_5 := kb_41; unfold bd at h9_5; have h9_6 := kb_m1; unfold bd at h9_6; omega) _ _ _ _ g9  hl9
        · have g := g.more hF_359
          refine lv_aload_n hx hb dX2_readMemberHead_177 rfl (lv_at hl 4 rfl) ?_
          refine g_getk (C := RX2) (T := TX2) (N := 16) hx hb hts (mc_ inX2) hown hK g rfl 0 (by decide) rfl (hts _ (List.mem_cons_of_mem _ t_416)) (fun _ h9 => h9) 7 rfl dX2_readMemberHead_178 ?_
          have kb_1201 : bd 1201 1201 (1201 : Int32) := ⟨by decide, by decide⟩
          refine g_calli (va_runV (As := []) (rest := []) ⟨hx, hb, hml, hown, hts⟩ (r_X8_kind_2 l dC dI L kd tys fr_353 H.size g.2.2.2.1 q0_ mq0_ kq0_ 1201 kb_1201 (g.fcts [0] rfl)) (cwV 0 hts (gV_ t_1118 t_1119 t_1120 t_184 t_1121) rfl rfl rfl (by decide +kernel) ⟨(Nat.le_of_ble_eq_true rfl), (Nat.le_of_ble_eq_true rfl)⟩) (pre3V g hK mq0_ kq0_ (by decide) (q := (RX8, TX8, 10)) rfl) rfl rfl hl.1 rfl (lv_room (Nat.le_of_ble_eq_true rfl)) dX2_readMemberHead_181 ⟨(Nat.le_of_ble_eq_true rfl), (Nat.le_of_ble_eq_true rfl)⟩) g hK (by decide) (by decide) (fx' := [(8, 6, q0_, .int 1201), (8, 8, q0_, .int x_357), (2, 6, a0_, .int 0), (9, 8, q3_, .int x_341), (2, 5, a0_, .ref a_343), (7, 3, q2_, .int x_344), (6, 12, a_343, .int x_346), (2, 0, a0_, .ref q0_), (2, 1, a0_, .ref q1_), (2, 3, a0_, .ref q2_), (2, 4, a0_, .ref q3_), (5, 1, q1_, .ref q5_)]) rfl (fun r_435 fr_435 H locs hp hMr_435 g => ?_)
          obtain ⟨h_436, -⟩ := hp
          obtain rfl : r_435 = 0 := h_436
          refine lv_bipush (v := 41) hx hb dX2_readMemberHead_184 (by decide) ?_
          refine lv_icmp_eq (tgt := 193) hx hb dX2_readMemberHead_186 (by decide) (fun c_ => absurd c_ (by decide)) (fun c_ => ?_)
          refine lv_iconst (v := 1) hx hb dX2_readMemberHead_189 (by decide) ?_
          refine lv_goto (tgt := 194) hx hb dX2_readMemberHead_190 (by decide) ?_
          refine lv_istore (lv' := [(6, .int 1), (5, .int (-1)), (4, .int r_7), (2, .long r_6), (1, .int r_5), (0, .ref a0_)]) hx hb dX2_readMemberHead_194 hl (by decide) rfl (fun ls hl => ?_)
          refine lv_iconst (v := 0) hx hb dX2_readMemberHead_196 (by decide) ?_
          refine lv_istore (lv' := [(7, .int 0), (6, .int 1), (5, .int (-1)), (4, .int r_7), (2, .long r_6), (1, .int r_5), (0, .ref a0_)]) hx hb dX2_readMemberHead_197 hl (by decide) rfl (fun ls hl => ?_)
          have loop_437 : ∀ (n : Nat) (v199_7 : Int32) (v199_6 : Int32), bd 0 4 v199_7 → bd 0 1 v199_6 → (4 - v199_7.toInt < (n : Int)) → ∀ (f : Nat → va_E) (H : Heap) (locs : List Loc) (ls : Array Slot), G3 (dC, dI) L kd tys s f0 [(2, 5), (2, 6), (5, 4), (6, 0), (6, 1), (6, 2), (6, 3), (6, 6), (6, 7), (6, 8), (6, 9), (6, 10), (6, 11), (6, 12), (7, 3), (8, 6), (8, 8), (8, 9), (9, 8)] [132, 134, 135, 156] f H locs [(8, 6, q0_, .int 1201), (8, 8, q0_, .int x_357), (2, 6, a0_, .int 0), (9, 8, q3_, .int x_341), (2, 5, a0_, .ref a_343), (7, 3, q2_, .int x_344), (6, 12, a_343, .int x_346), (2, 0, a0_, .ref q0_), (2, 1, a0_, .ref q1_), (2, 3, a0_, .ref q2_), (2, 4, a0_, .ref q3_), (5, 1, q1_, .ref q5_)] → lv_has ls 8 [(7, .int v199_7), (6, .int v199_6), (5, .int (-1)), (4, .int r_7), (2, .long r_6), (1, .int r_5), (0, .ref a0_)] → W p l e ({ frames := 3, cells := 0, slots := 0, locals := 72 } : Room) s m [.ref a0_].toArray below meth c H locs 0 0 Q (F0 m 199 ls []) := by
            intro n199
            induction n199 with
            | zero =>
              intro v199_7 v199_6 bv199_7 bv199_6 hm199 f H locs ls g  hl
              exact absurd hm199 (by have h9_v199_7 := bv199_7; unfold bd at h9_v199_7; have h9_v199_6 := bv199_6; unfold bd at h9_v199_6; omega)
            | succ n199 ih199 =>
              intro v199_7 v199_6 bv199_7 bv199_6 hm199 f H locs ls g  hl
              refine lv_iload hx hb dX2_readMemberHead_199 (lv_at hl 0 rfl) ?_
              refine lv_iconst (v := 3) hx hb dX2_readMemberHead_201 (by decide) ?_
              refine lv_icmp_gt (tgt := 251) hx hb dX2_readMemberHead_202 (by decide) (fun c_438 => ?_) (fun c_438 => ?_)
              · have fc_438 := lt_f c_438
                have b_439 : bd 4 4 v199_7 := ltR fc_438 kb_3 bv199_7 (by decide)
                refine lv_aload_n hx hb dX2_readMemberHead_251 rfl (lv_at hl 6 rfl) ?_
                refine g_getk (C := RX2) (T := TX2) (N := 16) hx hb hts (mc_ inX2) hown hK g rfl 0 (by decide) rfl (hts _ (List.mem_cons_of_mem _ t_416)) (fun _ h9 => h9) 7 rfl dX2_readMemberHead_252 ?_
                refine g_calli (va_runV (As := []) (rest := []) ⟨hx, hb, hml, hown, hts⟩ (r_X8_place l dC dI L kd tys f H.size g.2.2.2.1 q0_ mq0_ kq0_) (cwV 0 hts (gV_ t_1110 t_1111 t_1112 t_184 t_1113) rfl rfl rfl (by decide +kernel) ⟨(Nat.le_of_ble_eq_true rfl), (Nat.le_of_ble_eq_true rfl)⟩) (pre3V g hK mq0_ kq0_ (by decide) (q := (RX8, TX8, 10)) rfl) rfl rfl hl.1 rfl (lv_room (Nat.le_of_ble_eq_true rfl)) dX2_readMemberHead_255 ⟨(Nat.le_of_ble_eq_true rfl), (Nat.le_of_ble_eq_true rfl)⟩) g hK (by decide) (by decide) (fx' := [(8, 6, q0_, .int 1201), (8, 8, q0_, .int x_357), (2, 6, a0_, .int 0), (9, 8, q3_, .int x_341), (2, 5, a0_, .ref a_343), (7, 3, q2_, .int x_344), (6, 12, a_343, .int x_346), (2, 0, a0_, .ref q0_), (2, 1, a0_, .ref q1_), (2, 3, a0_, .ref q2_), (2, 4, a0_, .ref q3_), (5, 1, q1_, .ref q5_)]) rfl (fun r_440 fr_440 H locs hp hMr_440 g => ?_)
                refine lv_istore (lv' := [(7, .int r_440), (6, .int v199_6), (5, .int (-1)), (4, .int r_7), (2, .long r_6), (1, .int r_5), (0, .ref a0_)]) hx hb dX2_readMemberHead_258 hl (by decide) rfl (fun ls hl => ?_)
                refine lv_aload_n hx hb dX2_readMemberHead_260 rfl (lv_at hl 6 rfl) ?_
                refine g_getk (C := RX2) (T := TX2) (N := 16) hx hb hts (mc_ inX2) hown hK g rfl 0 (by decide) rfl (hts _ (List.mem_cons_of_mem _ t_416)) (fun _ h9 => h9) 7 rfl dX2_readMemberHead_261 ?_
                refine lv_bipush (v := 41) hx hb dX2_readMemberHead_264 (by decide) ?_
                refine g_callv (va_runV (As := [.int 41]) (rest := []) ⟨hx, hb, hml, hown, hts⟩ (r_X8_take_2 l dC dI L kd tys fr_440 H.size g.2.2.2.1 q0_ mq0_ kq0_ 41 1201 kb_1201 x_357 h_358 (g.fcts [0, 1] rfl)) (cwV 1 hts (gV_ t_1098 t_1099 t_1100 t_184 t_1101) rfl rfl rfl (by decide +kernel) ⟨(Nat.le_of_ble_eq_true rfl), (Nat.le_of_ble_eq_true rfl)⟩) (pre3V g hK mq0_ kq0_ (by decide) (q := (RX8, TX8, 10)) rfl) rfl rfl hl.1 rfl (lv_room (Nat.le_of_ble_eq_true rfl)) dX2_readMemberHead_266 ⟨(Nat.le_of_ble_eq_true rfl), (Nat.le_of_ble_eq_true rfl)⟩) g hK (by decide) (by decide) (fx' := [(8, 8, q0_, .int x_357), (2, 6, a0_, .int 0), (9, 8, q3_, .int x_341), (2, 5, a0_, .ref a_343), (7, 3, q2_, .int x_344), (6, 12, a_343, .int x_346), (2, 0, a0_, .ref q0_), (2, 1, a0_, .ref q1_), (2, 3, a0_, .ref q2_), (2, 4, a0_, .ref q3_), (5, 1, q1_, .ref q5_)]) rfl (fun fr_441 H locs hp hMr_441 g => ?_)
                obtain ⟨x_442, h_443, hF_444⟩ := hp
                have g := g.more hF_444
                refine lv_iload hx hb dX2_readMemberHead_269 (lv_at hl 2 rfl) ?_
                refine lv_iconst (v := (-1)) hx hb dX2_readMemberHead_271 (by decide) ?_
                refine lv_icmp_eq (tgt := 308) hx hb dX2_readMemberHead_272 (by decide) (fun c_ => ?_) (fun c_ => absurd (by decide) c_)
                subst hQ
                exact W.vret hx hb hr (fun t ht hW => ⟨⟨_, rfl, Or.inr (⟨x_442, h_443, x_357, h_358, a_343, ⟨ma_343, ka_343⟩, (g.fcts [0, 1, 4] rfl)⟩), q3_of g hK ht hW⟩, g.2.2.1.F ht⟩) g.2.2.1.2.2 dX2_readMemberHead_308
              · have fc_438 := nlt_f c_438
                have b_445 : bd 0 3 v199_7 := leL fc_438 bv199_7 kb_3 (by decide)
                refine lv_iload hx hb dX2_readMemberHead_205 (lv_at hl 1 rfl) ?_
                have kb_0 : bd 0 0 (0 : Int32) := ⟨by decide, by decide⟩
                refine lv_if_eq (tgt := 251) hx hb dX2_readMemberHead_207 (by decide) (fun c_446 => ?_) (fun c_446 => ?_)
                · have fc_446 := eq_f c_446
                  have b_447 : bd 0 0 v199_6 := eqX fc_446 bv199_6 kb_0 (by decide)
                  refine lv_aload_n hx hb dX2_readMemberHead_251 rfl (lv_at hl 6 rfl) ?_
                  refine g_getk (C := RX2) (T := TX2) (N := 16) hx hb hts (mc_ inX2) hown hK g rfl 0 (by decide) rfl (hts _ (List.mem_cons_of_mem _ t_416)) (fun _ h9 => h9) 7 rfl dX2_readMemberHead_252 ?_
                  refine g_calli (va_runV (As := []) (rest := []) ⟨hx, hb, hml, hown, hts⟩ (r_X8_place l dC dI L kd tys f H.size g.2.2.2.1 q0_ mq0_ kq0_) (cwV 0 hts (gV_ t_1110 t_1111 t_1112 t_184 t_1113) rfl rfl rfl (by decide +kernel) ⟨(Nat.le_of_ble_eq_true rfl), (Nat.le_of_ble_eq_true rfl)⟩) (pre3V g hK mq0_ kq0_ (by decide) (q := (RX8, TX8, 10)) rfl) rfl rfl hl.1 rfl (lv_room (Nat.le_of_ble_eq_true rfl)) dX2_readMemberHead_255 ⟨(Nat.le_of_ble_eq_true rfl), (Nat.le_of_ble_eq_true rfl)⟩) g hK (by decide) (by decide) (fx' := [(8, 6, q0_, .int 1201), (8, 8, q0_, .int x_357), (2, 6, a0_, .int 0), (9, 8, q3_, .int x_341), (2, 5, a0_, .ref a_343), (7, 3, q2_, .int x_344), (6, 12, a_343, .int x_346), (2, 0, a0_, .ref q0_), (2, 1, a0_, .ref q1_), (2, 3, a0_, .ref q2_), (2, 4, a0_, .ref q3_), (5, 1, q1_, .ref q5_)]) rfl (fun r_448 fr_448 H locs hp hMr_448 g => ?_)
                  refine lv_istore (lv' := [(7, .int r_448), (6, .int v199_6), (5, .int (-1)), (4, .int r_7), (2, .long r_6), (1, .int r_5), (0, .ref a0_)]) hx hb dX2_readMemberHead_258 hl (by decide) rfl (fun ls hl => ?_)
                  refine lv_aload_n hx hb dX2_readMemberHead_260 rfl (lv_at hl 6 rfl) ?_
                  refine g_getk (C := RX2) (T := TX2) (N := 16) hx hb hts (mc_ inX2) hown hK g rfl 0 (by decide) rfl (hts _ (List.mem_cons_of_mem _ t_416)) (fun _ h9 => h9) 7 rfl dX2_readMemberHead_261 ?_
                  refine lv_bipush (v := 41) hx hb dX2_readMemberHead_264 (by decide) ?_
                  refine g_callv (va_runV (As := [.int 41]) (rest := []) ⟨hx, hb, hml, hown, hts⟩ (r_X8_take_2 l dC dI L kd tys fr_448 H.size g.2.2.2.1 q0_ mq0_ kq0_ 41 1201 kb_1201 x_357 h_358 (g.fcts [0, 1] rfl)) (cwV 1 hts (gV_ t_1098 t_1099 t_1100 t_184 t_1101) rfl rfl rfl (by decide +kernel) ⟨(Nat.le_of_ble_eq_true rfl), (Nat.le_of_ble_eq_true rfl)⟩) (pre3V g hK mq0_ kq0_ (by decide) (q := (RX8, TX8, 10)) rfl) rfl rfl hl.1 rfl (lv_room (Nat.le_of_ble_eq_true rfl)) dX2_readMemberHead_266 ⟨(Nat.le_of_ble_eq_true rfl), (Nat.le_of_ble_eq_true rfl)⟩) g hK (by decide) (by decide) (fx' := [(8, 8, q0_, .int x_357), (2, 6, a0_, .int 0), (9, 8, q3_, .int x_341), (2, 5, a0_, .ref a_343), (7, 3, q2_, .int x_344), (6, 12, a_343, .int x_346), (2, 0, a0_, .ref q0_), (2, 1, a0_, .ref q1_), (2, 3, a0_, .ref q2_), (2, 4, a0_, .ref q3_), (5, 1, q1_, .ref q5_)]) rfl (fun fr_449 H locs hp hMr_449 g => ?_)
                  obtain ⟨x_450, h_451, hF_452⟩ := hp
                  have g := g.more hF_452
                  refine lv_iload hx hb dX2_readMemberHead_269 (lv_at hl 2 rfl) ?_
                  refine lv_iconst (v := (-1)) hx hb dX2_readMemberHead_271 (by decide) ?_
                  refine lv_icmp_eq (tgt := 308) hx hb dX2_readMemberHead_272 (by decide) (fun c_ => ?_) (fun c_ => absurd (by decide) c_)
                  subst hQ
                  exact W.vret hx hb hr (fun t ht hW => ⟨⟨_, rfl, Or.inr (⟨x_450, h_451, x_357, h_358, a_343, ⟨ma_343, ka_343⟩, (g.fcts [0, 1, 4] rfl)⟩), q3_of g hK ht hW⟩, g.2.2.1.F ht⟩) g.2.2.1.2.2 dX2_readMemberHead_308
                · have fc_446 := neq_f c_446
                  have b_453 : bd 1 1 v199_6 := neX fc_446 bv199_6 kb_0 (by decide)
                  refine lv_aload_n hx hb dX2_readMemberHead_210 rfl (lv_at hl 6 rfl) ?_
                  refine g_callv (va_runV (As := []) (rest := []) ⟨hx, hb, hml, hown, hts⟩ (r_X2_readParam_2 l dC dI L kd tys f H.size g.2.2.2.1 a0_ ma0_ ka0_ q0_ mq0_ kq0_ q1_ mq1_ kq1_ a_343 ma_343 ka_343 q5_ mq5_ kq5_ 1201 kb_1201 x_357 h_358 (g.fcts [7, 8, 4, 11, 0, 1] rfl)) (cwV 0 hts (gV_ t_1313 t_1315 t_34 t_183 t_1316) rfl rfl rfl (by decide +kernel) ⟨(Nat.le_of_ble_eq_true rfl), (Nat.le_of_ble_eq_true rfl)⟩) (pre3V g hK ma0_ ka0_ (by decide) (q := (RX2, TX2, 16)) rfl) rfl rfl hl.1 rfl (lv_room (Nat.le_of_ble_eq_true rfl)) dX2_readMemberHead_211 ⟨(Nat.le_of_ble_eq_true rfl), (Nat.le_of_ble_eq_true rfl)⟩) g hK (by decide) (by decide) (fx' := [(8, 8, q0_, .int x_357), (2, 6, a0_, .int 0), (9, 8, q3_, .int x_341), (2, 5, a0_, .ref a_343), (7, 3, q2_, .int x_344), (6, 12, a_343, .int x_346), (2, 0, a0_, .ref q0_), (2, 1, a0_, .ref q1_), (2, 3, a0_, .ref q2_), (2, 4, a0_, .ref q3_), (5, 1, q1_, .ref q5_)]) rfl (fun fr_454 H locs hp hMr_454 g => ?_)
                  have hF_455 := hp
                  have g := g.more hF_455
                  refine lv_aload_n hx hb dX2_readMemberHead_214 rfl (lv_at hl 6 rfl) ?_
                  refine g_getk (C := RX2) (T := TX2) (N := 16) hx hb hts (mc_ inX2) hown hK g rfl 0 (by decide) rfl (hts _ (List.mem_cons_of_mem _ t_416)) (fun _ h9 => h9) 7 rfl dX2_readMemberHead_215 ?_
                  refine g_calli (va_runV (As := []) (rest := []) ⟨hx, hb, hml, hown, hts⟩ (r_X8_kind_2 l dC dI L kd tys fr_454 H.size g.2.2.2.1 q0_ mq0_ kq0_ 1201 kb_1201 (g.fcts [0] rfl)) (cwV 0 hts (gV_ t_1118 t_1119 t_1120 t_184 t_1121) rfl rfl rfl (by decide +kernel) ⟨(Nat.le_of_ble_eq_true rfl), (Nat.le_of_ble_eq_true rfl)⟩) (pre3V g hK mq0_ kq0_ (by decide) (q := (RX8, TX8, 10)) rfl) rfl rfl hl.1 rfl (lv_room (Nat.le_of_ble_eq_true rfl)) dX2_readMemberHead_218 ⟨(Nat.le_of_ble_eq_true rfl), (Nat.le_of_ble_eq_true rfl)⟩) g hK (by decide) (by decide) (fx' := [(8, 6, q0_, .int 1201), (8, 8, q0_, .int x_357), (2, 6, a0_, .int 0), (9, 8, q3_, .int x_341), (2, 5, a0_, .ref a_343), (7, 3, q2_, .int x_344), (6, 12, a_343, .int x_346), (2, 0, a0_, .ref q0_), (2, 1, a0_, .ref q1_), (2, 3, a0_, .ref q2_), (2, 4, a0_, .ref q3_), (5, 1, q1_, .ref q5_)]) rfl (fun r_456 fr_456 H locs hp hMr_456 g => ?_)
                  obtain ⟨h_457, -⟩ := hp
                  obtain rfl : r_456 = 0 := h_457
                  refine lv_bipush (v := 44) hx hb dX2_readMemberHead_221 (by decide) ?_
                  refine lv_icmp_ne (tgt := 230) hx hb dX2_readMemberHead_223 (by decide) (fun c_ => ?_) (fun c_ => absurd c_ (by decide))
                  refine lv_iconst (v := 0) hx hb dX2_readMemberHead_230 (by decide) ?_
                  refine lv_istore (lv' := [(6, .int 0), (7, .int v199_7), (5, .int (-1)), (4, .int r_7), (2, .long r_6), (1, .int r_5), (0, .ref a0_)]) hx hb dX2_readMemberHead_231 hl (by decide) rfl (fun ls hl => ?_)
                  refine lv_iload hx hb dX2_readMemberHead_233 (lv_at hl 0 rfl) ?_
                  refine lv_if_eq (tgt := 245) hx hb dX2_readMemberHead_235 (by decide) (fun c_ => ?_) (fun c_ => absurd (by decide) c_)
                  have kb_1 : bd 1 1 (1 : Int32) := ⟨by decide, by decide⟩
                  obtain ⟨y_458, ey_458⟩ : ∃ z : Int32, z = v199_7 + 1 := ⟨_, rfl⟩
                  refine lv_iinc (v := y_458) (lv' := [(7, .int y_458), (6, .int 0), (5, .int (-1)), (4, .int r_7), (2, .long r_6), (1, .int r_5), (0, .ref a0_)]) hx hb dX2_readMemberHead_245 hl (k := 1) rfl (by rw [ey_458]; rfl) (by decide) rfl (fun ls hl => ?_)
                  have ty_458 := add_bd ey_458 b_445 kb_1 (by decide)
                  have b_459 : bd 1 4 y_458 := add_rg ty_458 b_445 kb_1 (by decide)
                  refine lv_goto (tgt := 199) hx hb dX2_readMemberHead_248 (by decide) ?_
                  have hl9 := lv_sub hl [0, 1, 2, 3, 4, 5, 6] (by rfl : lv_pick [(7, .int y_458), (6, .int 0), (5, .int (-1)), (4, .int r_7), (2, .long r_6), (1, .int r_5), (0, .ref a0_)] [0, 1, 2, 3, 4, 5, 6] = [(7, .int y_458), (6, .int 0), (5, .int (-1)), (4, .int r_7), (2, .long r_6), (1, .int r_5), (0, .ref a0_)])
                  have g9 := g.sub (fx' := [(8, 6, q0_, .int 1201), (8, 8, q0_, .int x_357), (2, 6, a0_, .int 0), (9, 8, q3_, .int x_341), (2, 5, a0_, .ref a_343), (7, 3, q2_, .int x_344), (6, 12, a_343, .int x_346), (2, 0, a0_, .ref q0_), (2, 1, a0_, .ref q1_), (2, 3, a0_, .ref q2_), (2, 4, a0_, .ref q3_), (5, 1, q1_, .ref q5_)]) [0, 1, 2, 3, 4, 5, 6, 7, 8, 9, 10, 11] rfl
                  exact ih199  y_458 0 (bd_sub b_459 (by decide)) (bd_sub kb_0 (by decide)) (by have h9_0 := b_459; unfold bd at h9_0; have h9_1 := bv199_6; unfold bd at h9_1; have h9_2 := bv199_7; unfold bd at h9_2; have h9_3 := kb_0; unfold bd at h9_3; have h9_4 := kb_1; unfold bd at h9_4; have h9_5 := kb_12; unfold bd at h9_5; have h9_6 := kb_1201; unfold bd at h9_6; have h9_7 := kb_3; unfold bd at h9_7; have h9_8 := kb_m1; unfold bd at h9_8; omega) _ _ _ _ g9  hl9
          have kb_0 : bd 0 0 (0 : Int32) := ⟨by decide, by decide⟩
          have kb_1 : bd 1 1 (1 : Int32) := ⟨by decide, by decide⟩
          have hl9 := lv_sub hl [0, 1, 2, 3, 4, 5, 6] (by rfl : lv_pick [(7, .int 0), (6, .int 1), (5, .int (-1)), (4, .int r_7), (2, .long r_6), (1, .int r_5), (0, .ref a0_)] [0, 1, 2, 3, 4, 5, 6] = [(7, .int 0), (6, .int 1), (5, .int (-1)), (4, .int r_7), (2, .long r_6), (1, .int r_5), (0, .ref a0_)])
          have g9 := g.sub (fx' := [(8, 6, q0_, .int 1201), (8, 8, q0_, .int x_357), (2, 6, a0_, .int 0), (9, 8, q3_, .int x_341), (2, 5, a0_, .ref a_343), (7, 3, q2_, .int x_344), (6, 12, a_343, .int x_346), (2, 0, a0_, .ref q0_), (2, 1, a0_, .ref q1_), (2, 3, a0_, .ref q2_), (2, 4, a0_, .ref q3_), (5, 1, q1_, .ref q5_)]) [0, 1, 2, 3, 4, 5, 6, 7, 8, 9, 10, 11] rfl
          exact loop_437 (11) 0 1 (bd_sub kb_0 (by decide)) (bd_sub kb_1 (by decide)) (by have h9_0 := kb_0; unfold bd at h9_0; have h9_1 := kb_1; unfold bd at h9_1; have h9_2 := kb_12; unfold bd at h9_2; have h9_3 := kb_1201; unfold bd at h9_3; have h9_4 := kb_3; unfold bd at h9_4; have h9_5 := kb_m1; unfold bd at h9_5; omega) _ _ _ _ g9  hl9
      · have fc_338 := nlt_f c_338
        have b_460 : bd 12 12 x_337 := leR fc_338 kb_12 bx_337 (by decide)
        refine lv_aload_n hx hb dX2_readMemberHead_141 rfl (lv_at hl 4 rfl) ?_
        refine g_getk (C := RX2) (T := TX2) (N := 16) hx hb hts (mc_ inX2) hown hK g rfl 0 (by decide) rfl (hts _ (List.mem_cons_of_mem _ t_416)) (fun _ h9 => h9) 2 rfl dX2_readMemberHead_142 ?_
        refine lv_iconst (v := 4) hx hb dX2_readMemberHead_145 (by decide) ?_
        refine lv_iload_n hx hb dX2_readMemberHead_146 rfl (lv_at hl 3 rfl) ?_
        have kb_4 : bd 4 4 (4 : Int32) := ⟨by decide, by decide⟩
        refine g_callv (va_runV (As := [.int 4, .int r_5]) (rest := []) ⟨hx, hb, hml, hown, hts⟩ (r_X8_fail l dC dI L kd tys fr_334 H.size g.2.2.2.1 q0_ mq0_ kq0_ 4 (bd_sub kb_4 (by decide)) r_5 y0_ by0_ (g.fcts [8] rfl)) (cwV 2 hts (gV_ t_1122 t_1107 t_1108 t_184 t_1109) rfl rfl rfl (by decide +kernel) ⟨(Nat.le_of_ble_eq_true rfl), (Nat.le_of_ble_eq_true rfl)⟩) (pre3V g hK mq0_ kq0_ (by decide) (q := (RX8, TX8, 10)) rfl) rfl rfl hl.1 rfl (lv_room (Nat.le_of_ble_eq_true rfl)) dX2_readMemberHead_147 ⟨(Nat.le_of_ble_eq_true rfl), (Nat.le_of_ble_eq_true rfl)⟩) g hK (by decide) (by decide) (fx' := [(9, 8, q3_, .int x_337), (2, 0, a0_, .ref q0_), (2, 1, a0_, .ref q1_), (2, 3, a0_, .ref q2_), (2, 4, a0_, .ref q3_), (2, 5, a0_, .ref q4_), (5, 1, q1_, .ref q5_)]) rfl (fun fr_461 H locs hp hMr_461 g => ?_)
        obtain ⟨x_462, h_463, hF_464⟩ := hp
        have g := g.more hF_464
        refine lv_goto (tgt := 161) hx hb dX2_readMemberHead_150 (by decide) ?_
        refine lv_aload_n hx hb dX2_readMemberHead_161 rfl (lv_at hl 4 rfl) ?_
        refine g_getk (C := RX2) (T := TX2) (N := 16) hx hb hts (mc_ inX2) hown hK g rfl 0 (by decide) rfl (hts _ (List.mem_cons_of_mem _ t_416)) (fun _ h9 => h9) 3 rfl dX2_readMemberHead_162 ?_
        have kb_1201 : bd 1201 1201 (1201 : Int32) := ⟨by decide, by decide⟩
        refine g_callv (va_runV (As := []) (rest := []) ⟨hx, hb, hml, hown, hts⟩ (r_X8_next_2 l dC dI L kd tys fr_461 H.size g.2.2.2.1 q0_ mq0_ kq0_ 1201 kb_1201 (g.fcts [0] rfl)) (cwV 0 hts (gV_ t_1131 t_1103 t_1104 t_184 t_1105) rfl rfl rfl (by decide +kernel) ⟨(Nat.le_of_ble_eq_true rfl), (Nat.le_of_ble_eq_true rfl)⟩) (pre3V g hK mq0_ kq0_ (by decide) (q := (RX8, TX8, 10)) rfl) rfl rfl hl.1 rfl (lv_room (Nat.le_of_ble_eq_true rfl)) dX2_readMemberHead_165 ⟨(Nat.le_of_ble_eq_true rfl), (Nat.le_of_ble_eq_true rfl)⟩) g hK (by decide) (by decide) (fx' := [(8, 6, q0_, .int 1201), (8, 8, q0_, .int x_462), (9, 8, q3_, .int x_337), (2, 0, a0_, .ref q0_), (2, 1, a0_, .ref q1_), (2, 3, a0_, .ref q2_), (2, 4, a0_, .ref q3_), (2, 5, a0_, .ref q4_), (5, 1, q1_, .ref q5_)]) rfl (fun fr_465 H locs hp hMr_465 g => ?_)
        refine lv_aload_n hx hb dX2_readMemberHead_168 rfl (lv_at hl 4 rfl) ?_
        refine g_getk (C := RX2) (T := TX2) (N := 16) hx hb hts (mc_ inX2) hown hK g rfl 0 (by decide) rfl (hts _ (List.mem_cons_of_mem _ t_416)) (fun _ h9 => h9) 3 rfl dX2_readMemberHead_169 ?_
        refine lv_bipush (v := 40) hx hb dX2_readMemberHead_172 (by decide) ?_
        refine g_callv (va_runV (As := [.int 40]) (rest := []) ⟨hx, hb, hml, hown, hts⟩ (r_X8_take_2 l dC dI L kd tys fr_465 H.size g.2.2.2.1 q0_ mq0_ kq0_ 40 1201 kb_1201 x_462 h_463 (g.fcts [0, 1] rfl)) (cwV 1 hts (gV_ t_1098 t_1099 t_1100 t_184 t_1101) rfl rfl rfl (by decide +kernel) ⟨(Nat.le_of_ble_eq_true rfl), (Nat.le_of_ble_eq_true rfl)⟩) (pre3V g hK mq0_ kq0_ (by decide) (q := (RX8, TX8, 10)) rfl) rfl rfl hl.1 rfl (lv_room (Nat.le_of_ble_eq_true rfl)) dX2_readMemberHead_174 ⟨(Nat.le_of_ble_eq_true rfl), (Nat.le_of_ble_eq_true rfl)⟩) g hK (by decide) (by decide) (fx' := [(8, 8, q0_, .int x_462), (9, 8, q3_, .int x_337), (2, 0, a0_, .ref q0_), (2, 1, a0_, .ref q1_), (2, 3, a0_, .ref q2_), (2, 4, a0_, .ref q3_), (2, 5, a0_, .ref q4_), (5, 1, q1_, .ref q5_)]) rfl (fun fr_466 H locs hp hMr_466 g => ?_)
        obtain ⟨x_467, h_468, hF_469⟩ := hp
        have g := g.more hF_469
        refine lv_aload_n hx hb dX2_readMemberHead_177 rfl (lv_at hl 4 rfl) ?_
        refine g_getk (C := RX2) (T := TX2) (N := 16) hx hb hts (mc_ inX2) hown hK g rfl 0 (by decide) rfl (hts _ (List.mem_cons_of_mem _ t_416)) (fun _ h9 => h9) 3 rfl dX2_readMemberHead_178 ?_
        refine g_calli (va_runV (As := []) (rest := []) ⟨hx, hb, hml, hown, hts⟩ (r_X8_kind_2 l dC dI L kd tys fr_466 H.size g.2.2.2.1 q0_ mq0_ kq0_ x_467 h_468 (g.fcts [0] rfl)) (cwV 0 hts (gV_ t_1118 t_1119 t_1120 t_184 t_1121) rfl rfl rfl (by decide +kernel) ⟨(Nat.le_of_ble_eq_true rfl), (Nat.le_of_ble_eq_true rfl)⟩) (pre3V g hK mq0_ kq0_ (by decide) (q := (RX8, TX8, 10)) rfl) rfl rfl hl.1 rfl (lv_room (Nat.le_of_ble_eq_true rfl)) dX2_readMemberHead_181 ⟨(Nat.le_of_ble_eq_true rfl), (Nat.le_of_ble_eq_true rfl)⟩) g hK (by decide) (by decide) (fx' := [(8, 6, q0_, .int x_467), (8, 8, q0_, .int x_462), (9, 8, q3_, .int x_337), (2, 0, a0_, .ref q0_), (2, 1, a0_, .ref q1_), (2, 3, a0_, .ref q2_), (2, 4, a0_, .ref q3_), (2, 5, a0_, .ref q4_), (5, 1, q1_, .ref q5_)]) rfl (fun r_470 fr_470 H locs hp hMr_470 g => ?_)
        obtain ⟨h_471, -⟩ := hp
        obtain rfl : r_470 = 0 := h_471
        refine lv_bipush (v := 41) hx hb dX2_readMemberHead_184 (by decide) ?_
        refine lv_icmp_eq (tgt := 193) hx hb dX2_readMemberHead_186 (by decide) (fun c_ => absurd c_ (by decide)) (fun c_ => ?_)
        refine lv_iconst (v := 1) hx hb dX2_readMemberHead_189 (by decide) ?_
        refine lv_goto (tgt := 194) hx hb dX2_readMemberHead_190 (by decide) ?_
        refine lv_istore (lv' := [(6, .int 1), (5, .int (-1)), (4, .int r_7), (2, .long r_6), (1, .int r_5), (0, .ref a0_)]) hx hb dX2_readMemberHead_194 hl (by decide) rfl (fun ls hl => ?_)
        refine lv_iconst (v := 0) hx hb dX2_readMemberHead_196 (by decide) ?_
        refine lv_istore (lv' := [(7, .int 0), (6, .int 1), (5, .int (-1)), (4, .int r_7), (2, .long r_6), (1, .int r_5), (0, .ref a0_)]) hx hb dX2_readMemberHead_197 hl (by decide) rfl (fun ls hl => ?_)
        have loop_472 : ∀ (n : Nat) (v199_7 : Int32) (v199_6 : Int32) (w199_8_6_q0_ : Int32), bd 0 4 v199_7 → bd 0 1 v199_6 → bd 1201 1201 w199_8_6_q0_ → (4 - v199_7.toInt < (n : Int)) → ∀ (f : Nat → va_E) (H : Heap) (locs : List Loc) (ls : Array Slot), G3 (dC, dI) L kd tys s f0 [(2, 5), (2, 6), (5, 4), (6, 0), (6, 1), (6, 2), (6, 3), (6, 6), (6, 7), (6, 8), (6, 9), (6, 10), (6, 11), (6, 12), (7, 3), (8, 6), (8, 8), (8, 9), (9, 8)] [132, 134, 135, 156] f H locs [(8, 6, q0_, .int w199_8_6_q0_), (8, 8, q0_, .int x_462), (9, 8, q3_, .int x_337), (2, 0, a0_, .ref q0_), (2, 1, a0_, .ref q1_), (2, 3, a0_, .ref q2_), (2, 4, a0_, .ref q3_), (2, 5, a0_, .ref q4_), (5, 1, q1_, .ref q5_)] → lv_has ls 8 [(7, .int v199_7), (6, .int v199_6), (5, .int (-1)), (4, .int r_7), (2, .long r_6), (1, .int r_5), (0, .ref a0_)] → W p l e ({ frames := 3, cells := 0, slots := 0, locals := 72 } : Room) s m [.ref a0_].toArray below meth c H locs 0 0 Q (F0 m 199 ls []) := by
          intro n199
          induction n199 with
          | zero =>
            intro v199_7 v199_6 w199_8_6_q0_ bv199_7 bv199_6 bw199_8_6_q0_ hm199 f H locs ls g  hl
            exact absurd hm199 (by have h9_v199_7 := bv199_7; unfold bd at h9_v199_7; have h9_v199_6 := bv199_6; unfold bd at h9_v199_6; have h9_w199_8_6_q0_ := bw199_8_6_q0_; unfold bd at h9_w199_8_6_q0_; omega)
          | succ n199 ih199 =>
            intro v199_7 v199_6 w199_8_6_q0_ bv199_7 bv199_6 bw199_8_6_q0_ hm199 f H locs ls g  hl
            refine lv_iload hx hb dX2_readMemberHead_199 (lv_at hl 0 rfl) ?_
            refine lv_iconst (v := 3) hx hb dX2_readMemberHead_201 (by decide) ?_
            refine lv_icmp_gt (tgt := 251) hx hb dX2_readMemberHead_202 (by decide) (fun c_473 => ?_) (fun c_473 => ?_)
            · have fc_473 := lt_f c_473
              have b_474 : bd 4 4 v199_7 := ltR fc_473 kb_3 bv199_7 (by decide)
              refine lv_aload_n hx hb dX2_readMemberHead_251 rfl (lv_at hl 6 rfl) ?_
              refine g_getk (C := RX2) (T := TX2) (N := 16) hx hb hts (mc_ inX2) hown hK g rfl 0 (by decide) rfl (hts _ (List.mem_cons_of_mem _ t_416)) (fun _ h9 => h9) 3 rfl dX2_readMemberHead_252 ?_
              refine g_calli (va_runV (As := []) (rest := []) ⟨hx, hb, hml, hown, hts⟩ (r_X8_place l dC dI L kd tys f H.size g.2.2.2.1 q0_ mq0_ kq0_) (cwV 0 hts (gV_ t_1110 t_1111 t_1112 t_184 t_1113) rfl rfl rfl (by decide +kernel) ⟨(Nat.le_of_ble_eq_true rfl), (Nat.le_of_ble_eq_true rfl)⟩) (pre3V g hK mq0_ kq0_ (by decide) (q := (RX8, TX8, 10)) rfl) rfl rfl hl.1 rfl (lv_room (Nat.le_of_ble_eq_true rfl)) dX2_readMemberHead_255 ⟨(Nat.le_of_ble_eq_true rfl), (Nat.le_of_ble_eq_true rfl)⟩) g hK (by decide) (by decide) (fx' := [(8, 6, q0_, .int w199_8_6_q0_), (8, 8, q0_, .int x_462), (9, 8, q3_, .int x_337), (2, 0, a0_, .ref q0_), (2, 1, a0_, .ref q1_), (2, 3, a0_, .ref q2_), (2, 4, a0_, .ref q3_), (2, 5, a0_, .ref q4_), (5, 1, q1_, .ref q5_)]) rfl (fun r_475 fr_475 H locs hp hMr_475 g => ?_)
              refine lv_istore (lv' := [(7, .int r_475), (6, .int v199_6), (5, .int (-1)), (4, .int r_7), (2, .long r_6), (1, .int r_5), (0, .ref a0_)]) hx hb dX2_readMemberHead_258 hl (by decide) rfl (fun ls hl => ?_)
              refine lv_aload_n hx hb dX2_readMemberHead_260 rfl (lv_at hl 6 rfl) ?_
              refine g_getk (C := RX2) (T := TX2) (N := 16) hx hb hts (mc_ inX2) hown hK g rfl 0 (by decide) rfl (hts _ (List.mem_cons_of_mem _ t_416)) (fun _ h9 => h9) 3 rfl dX2_readMemberHead_261 ?_
              refine lv_bipush (v := 41) hx hb dX2_readMemberHead_264 (by decide) ?_
              refine g_callv (va_runV (As := [.int 41]) (rest := []) ⟨hx, hb, hml, hown, hts⟩ (r_X8_take_2 l dC dI L kd tys fr_475 H.size g.2.2.2.1 q0_ mq0_ kq0_ 41 w199_8_6_q0_ bw199_8_6_q0_ x_462 h_463 (g.fcts [0, 1] rfl)) (cwV 1 hts (gV_ t_1098 t_1099 t_1100 t_184 t_1101) rfl rfl rfl (by decide +kernel) ⟨(Nat.le_of_ble_eq_true rfl), (Nat.le_of_ble_eq_true rfl)⟩) (pre3V g hK mq0_ kq0_ (by decide) (q := (RX8, TX8, 10)) rfl) rfl rfl hl.1 rfl (lv_room (Nat.le_of_ble_eq_true rfl)) dX2_readMemberHead_266 ⟨(Nat.le_of_ble_eq_true rfl), (Nat.le_of_ble_eq_true rfl)⟩) g hK (by decide) (by decide) (fx' := [(8, 8, q0_, .int x_462), (9, 8, q3_, .int x_337), (2, 0, a0_, .ref q0_), (2, 1, a0_, .ref q1_), (2, 3, a0_, .ref q2_), (2, 4, a0_, .ref q3_), (2, 5, a0_, .ref q4_), (5, 1, q1_, .ref q5_)]) rfl (fun fr_476 H locs hp hMr_476 g => ?_)
              obtain ⟨x_477, h_478, hF_479⟩ := hp
              have g := g.more hF_479
              refine lv_iload hx hb dX2_readMemberHead_269 (lv_at hl 2 rfl) ?_
              refine lv_iconst (v := (-1)) hx hb dX2_readMemberHead_271 (by decide) ?_
              refine lv_icmp_eq (tgt := 308) hx hb dX2_readMemberHead_272 (by decide) (fun c_ => ?_) (fun c_ => absurd (by decide) c_)
              subst hQ
              exact W.vret hx hb hr (fun t ht hW => ⟨⟨_, rfl, Or.inr (⟨x_477, h_478, x_462, h_463, q4_, ⟨mq4_, kq4_⟩, (g.fcts [0, 1, 7] rfl)⟩), q3_of g hK ht hW⟩, g.2.2.1.F ht⟩) g.2.2.1.2.2 dX2_readMemberHead_308
            · have fc_473 := nlt_f c_473
              have b_480 : bd 0 3 v199_7 := leL fc_473 bv199_7 kb_3 (by decide)
              refine lv_iload hx hb dX2_readMemberHead_205 (lv_at hl 1 rfl) ?_
              have kb_0 : bd 0 0 (0 : Int32) := ⟨by decide, by decide⟩
              refine lv_if_eq (tgt := 251) hx hb dX2_readMemberHead_207 (by decide) (fun c_481 => ?_) (fun c_481 => ?_)
              · have fc_481 := eq_f c_481
                have b_482 : bd 0 0 v199_6 := eqX fc_481 bv199_6 kb_0 (by decide)
                refine lv_aload_n hx hb dX2_readMemberHead_251 rfl (lv_at hl 6 rfl) ?_
                refine g_getk (C := RX2) (T := TX2) (N := 16) hx hb hts (mc_ inX2) hown hK g rfl 0 (by decide) rfl (hts _ (List.mem_cons_of_mem _ t_416)) (fun _ h9 => h9) 3 rfl dX2_readMemberHead_252 ?_
                refine g_calli (va_runV (As := []) (rest := []) ⟨hx, hb, hml, hown, hts⟩ (r_X8_place l dC dI L kd tys f H.size g.2.2.2.1 q0_ mq0_ kq0_) (cwV 0 hts (gV_ t_1110 t_1111 t_1112 t_184 t_1113) rfl rfl rfl (by decide +kernel) ⟨(Nat.le_of_ble_eq_true rfl), (Nat.le_of_ble_eq_true rfl)⟩) (pre3V g hK mq0_ kq0_ (by decide) (q := (RX8, TX8, 10)) rfl) rfl rfl hl.1 rfl (lv_room (Nat.le_of_ble_eq_true rfl)) dX2_readMemberHead_255 ⟨(Nat.le_of_ble_eq_true rfl), (Nat.le_of_ble_eq_true rfl)⟩) g hK (by decide) (by decide) (fx' := [(8, 6, q0_, .int w199_8_6_q0_), (8, 8, q0_, .int x_462), (9, 8, q3_, .int x_337), (2, 0, a0_, .ref q0_), (2, 1, a0_, .ref q1_), (2, 3, a0_, .ref q2_), (2, 4, a0_, .ref q3_), (2, 5, a0_, .ref q4_), (5, 1, q1_, .ref q5_)]) rfl (fun r_483 fr_483 H locs hp hMr_483 g => ?_)
                refine lv_istore (lv' := [(7, .int r_483), (6, .int v199_6), (5, .int (-1)), (4, .int r_7), (2, .long r_6), (1, .int r_5), (0, .ref a0_)]) hx hb dX2_readMemberHead_258 hl (by decide) rfl (fun ls hl => ?_)
                refine lv_aload_n hx hb dX2_readMemberHead_260 rfl (lv_at hl 6 rfl) ?_
                refine g_getk (C := RX2) (T := TX2) (N := 16) hx hb hts (mc_ inX2) hown hK g rfl 0 (by decide) rfl (hts _ (List.mem_cons_of_mem _ t_416)) (fun _ h9 => h9) 3 rfl dX2_readMemberHead_261 ?_
                refine lv_bipush (v := 41) hx hb dX2_readMemberHead_264 (by decide) ?_
                refine g_callv (va_runV (As := [.int 41]) (rest := []) ⟨hx, hb, hml, hown, hts⟩ (r_X8_take_2 l dC dI L kd tys fr_483 H.size g.2.2.2.1 q0_ mq0_ kq0_ 41 w199_8_6_q0_ bw199_8_6_q0_ x_462 h_463 (g.fcts [0, 1] rfl)) (cwV 1 hts (gV_ t_1098 t_1099 t_1100 t_184 t_1101) rfl rfl rfl (by decide +kernel) ⟨(Nat.le_of_ble_eq_true rfl), (Nat.le_of_ble_eq_true rfl)⟩) (pre3V g hK mq0_ kq0_ (by decide) (q := (RX8, TX8, 10)) rfl) rfl rfl hl.1 rfl (lv_room (Nat.le_of_ble_eq_true rfl)) dX2_readMemberHead_266 ⟨(Nat.le_of_ble_eq_true rfl), (Nat.le_of_ble_eq_true rfl)⟩) g hK (by decide) (by decide) (fx' := [(8, 8, q0_, .int x_462), (9, 8, q3_, .int x_337), (2, 0, a0_, .ref q0_), (2, 1, a0_, .ref q1_), (2, 3, a0_, .ref q2_), (2, 4, a0_, .ref q3_), (2, 5, a0_, .ref q4_), (5, 1, q1_, .ref q5_)]) rfl (fun fr_484 H locs hp hMr_484 g => ?_)
                obtain ⟨x_485, h_486, hF_487⟩ := hp
                have g := g.more hF_487
                refine lv_iload hx hb dX2_readMemberHead_269 (lv_at hl 2 rfl) ?_
                refine lv_iconst (v := (-1)) hx hb dX2_readMemberHead_271 (by decide) ?_
                refine lv_icmp_eq (tgt := 308) hx hb dX2_readMemberHead_272 (by decide) (fun c_ => ?_) (fun c_ => absurd (by decide) c_)
                subst hQ
                exact W.vret hx hb hr (fun t ht hW => ⟨⟨_, rfl, Or.inr (⟨x_485, h_486, x_462, h_463, q4_, ⟨mq4_, kq4_⟩, (g.fcts [0, 1, 7] rfl)⟩), q3_of g hK ht hW⟩, g.2.2.1.F ht⟩) g.2.2.1.2.2 dX2_readMemberHead_308
              · have fc_481 := neq_f c_481
                have b_488 : bd 1 1 v199_6 := neX fc_481 bv199_6 kb_0 (by decide)
                refine lv_aload_n hx hb dX2_readMemberHead_210 rfl (lv_at hl 6 rfl) ?_
                refine g_callv (va_runV (As := []) (rest := []) ⟨hx, hb, hml, hown, hts⟩ (r_X2_readParam_2 l dC dI L kd tys f H.size g.2.2.2.1 a0_ ma0_ ka0_ q0_ mq0_ kq0_ q1_ mq1_ kq1_ q4_ mq4_ kq4_ q5_ mq5_ kq5_ w199_8_6_q0_ bw199_8_6_q0_ x_462 h_463 (g.fcts [3, 4, 7, 8, 0, 1] rfl)) (cwV 0 hts (gV_ t_1313 t_1315 t_34 t_183 t_1316) rfl rfl rfl (by decide +kernel) ⟨(Nat.le_of_ble_eq_true rfl), (Nat.le_of_ble_eq_true rfl)⟩) (pre3V g hK ma0_ ka0_ (by decide) (q := (RX2, TX2, 16)) rfl) rfl rfl hl.1 rfl (lv_room (Nat.le_of_ble_eq_true rfl)) dX2_readMemberHead_211 ⟨(Nat.le_of_ble_eq_true rfl), (Nat.le_of_ble_eq_true rfl)⟩) g hK (by decide) (by decide) (fx' := [(8, 8, q0_, .int x_462), (9, 8, q3_, .int x_337), (2, 0, a0_, .ref q0_), (2, 1, a0_, .ref q1_), (2, 3, a0_, .ref q2_), (2, 4, a0_, .ref q3_), (2, 5, a0_, .ref q4_), (5, 1, q1_, .ref q5_)]) rfl (fun fr_489 H locs hp hMr_489 g => ?_)
                have hF_490 := hp
                have g := g.more hF_490
                refine lv_aload_n hx hb dX2_readMemberHead_214 rfl (lv_at hl 6 rfl) ?_
                refine g_getk (C := RX2) (T := TX2) (N := 16) hx hb hts (mc_ inX2) hown hK g rfl 0 (by decide) rfl (hts _ (List.mem_cons_of_mem _ t_416)) (fun _ h9 => h9) 3 rfl dX2_readMemberHead_215 ?_
                refine g_calli (va_runV (As := []) (rest := []) ⟨hx, hb, hml, hown, hts⟩ (r_X8_kind_2 l dC dI L kd tys fr_489 H.size g.2.2.2.1 q0_ mq0_ kq0_ 1201 kb_1201 (g.fcts [0] rfl)) (cwV 0 hts (gV_ t_1118 t_1119 t_1120 t_184 t_1121) rfl rfl rfl (by decide +kernel) ⟨(Nat.le_of_ble_eq_true rfl), (Nat.le_of_ble_eq_true rfl)⟩) (pre3V g hK mq0_ kq0_ (by decide) (q := (RX8, TX8, 10)) rfl) rfl rfl hl.1 rfl (lv_room (Nat.le_of_ble_eq_true rfl)) dX2_readMemberHead_218 ⟨(Nat.le_of_ble_eq_true rfl), (Nat.le_of_ble_eq_true rfl)⟩) g hK (by decide) (by decide) (fx' := [(8, 6, q0_, .int 1201), (8, 8, q0_, .int x_462), (9, 8, q3_, .int x_337), (2, 0, a0_, .ref q0_), (2, 1, a0_, .ref q1_), (2, 3, a0_, .ref q2_), (2, 4, a0_, .ref q3_), (2, 5, a0_, .ref q4_), (5, 1, q1_, .ref q5_)]) rfl (fun r_491 fr_491 H locs hp hMr_491 g => ?_)
                obtain ⟨h_492, -⟩ := hp
                obtain rfl : r_491 = 0 := h_492
                refine lv_bipush (v := 44) hx hb dX2_readMemberHead_221 (by decide) ?_
                refine lv_icmp_ne (tgt := 230) hx hb dX2_readMemberHead_223 (by decide) (fun c_ => ?_) (fun c_ => absurd c_ (by decide))
                refine lv_iconst (v := 0) hx hb dX2_readMemberHead_230 (by decide) ?_
                refine lv_istore (lv' := [(6, .int 0), (7, .int v199_7), (5, .int (-1)), (4, .int r_7), (2, .long r_6), (1, .int r_5), (0, .ref a0_)]) hx hb dX2_readMemberHead_231 hl (by decide) rfl (fun ls hl => ?_)
                refine lv_iload hx hb dX2_readMemberHead_233 (lv_at hl 0 rfl) ?_
                refine lv_if_eq (tgt := 245) hx hb dX2_readMemberHead_235 (by decide) (fun c_ => ?_) (fun c_ => absurd (by decide) c_)
                have kb_1 : bd 1 1 (1 : Int32) := ⟨by decide, by decide⟩
                obtain ⟨y_493, ey_493⟩ : ∃ z : Int32, z = v199_7 + 1 := ⟨_, rfl⟩
                refine lv_iinc (v := y_493) (lv' := [(7, .int y_493), (6, .int 0), (5, .int (-1)), (4, .int r_7), (2, .long r_6), (1, .int r_5), (0, .ref a0_)]) hx hb dX2_readMemberHead_245 hl (k := 1) rfl (by rw [ey_493]; rfl) (by decide) rfl (fun ls hl => ?_)
                have ty_493 := add_bd ey_493 b_480 kb_1 (by decide)
                have b_494 : bd 1 4 y_493 := add_rg ty_493 b_480 kb_1 (by decide)
                refine lv_goto (tgt := 199) hx hb dX2_readMemberHead_248 (by decide) ?_
                have hl9 := lv_sub hl [0, 1, 2, 3, 4, 5, 6] (by rfl : lv_pick [(7, .int y_493), (6, .int 0), (5, .int (-1)), (4, .int r_7), (2, .long r_6), (1, .int r_5), (0, .ref a0_)] [0, 1, 2, 3, 4, 5, 6] = [(7, .int y_493), (6, .int 0), (5, .int (-1)), (4, .int r_7), (2, .long r_6), (1, .int r_5), (0, .ref a0_)])
                have g9 := g.sub (fx' := [(8, 6, q0_, .int 1201), (8, 8, q0_, .int x_462), (9, 8, q3_, .int x_337), (2, 0, a0_, .ref q0_), (2, 1, a0_, .ref q1_), (2, 3, a0_, .ref q2_), (2, 4, a0_, .ref q3_), (2, 5, a0_, .ref q4_), (5, 1, q1_, .ref q5_)]) [0, 1, 2, 3, 4, 5, 6, 7, 8] rfl
                exact ih199  y_493 0 1201 (bd_sub b_494 (by decide)) (bd_sub kb_0 (by decide)) kb_1201 (by have h9_0 := b_494; unfold bd at h9_0; have h9_1 := bv199_6; unfold bd at h9_1; have h9_2 := bv199_7; unfold bd at h9_2; have h9_3 := bw199_8_6_q0_; unfold bd at h9_3; have h9_4 := kb_0; unfold bd at h9_4; have h9_5 := kb_1; unfold bd at h9_5; have h9_6 := kb_12; unfold bd at h9_6; have h9_7 := kb_1201; unfold bd at h9_7; have h9_8 := kb_3; unfold bd at h9_8; have h9_9 := kb_4; unfold bd at h9_9; have h9_10 := kb_m1; unfold bd at h9_10; omega) _ _ _ _ g9  hl9
        have kb_0 : bd 0 0 (0 : Int32) := ⟨by decide, by decide⟩
        have kb_1 : bd 1 1 (1 : Int32) := ⟨by decide, by decide⟩
        have hl9 := lv_sub hl [0, 1, 2, 3, 4, 5, 6] (by rfl : lv_pick [(7, .int 0), (6, .int 1), (5, .int (-1)), (4, .int r_7), (2, .long r_6), (1, .int r_5), (0, .ref a0_)] [0, 1, 2, 3, 4, 5, 6] = [(7, .int 0), (6, .int 1), (5, .int (-1)), (4, .int r_7), (2, .long r_6), (1, .int r_5), (0, .ref a0_)])
        have g9 := g.sub (fx' := [(8, 6, q0_, .int x_467), (8, 8, q0_, .int x_462), (9, 8, q3_, .int x_337), (2, 0, a0_, .ref q0_), (2, 1, a0_, .ref q1_), (2, 3, a0_, .ref q2_), (2, 4, a0_, .ref q3_), (2, 5, a0_, .ref q4_), (5, 1, q1_, .ref q5_)]) [0, 1, 2, 3, 4, 5, 6, 7, 8] rfl
        exact loop_472 (11) 0 1 x_467 (bd_sub kb_0 (by decide)) (bd_sub kb_1 (by decide)) h_468 (by have h9_0 := h_468; unfold bd at h9_0; have h9_1 := kb_0; unfold bd at h9_1; have h9_2 := kb_1; unfold bd at h9_2; have h9_3 := kb_12; unfold bd at h9_3; have h9_4 := kb_1201; unfold bd at h9_4; have h9_5 := kb_3; unfold bd at h9_5; have h9_6 := kb_4; unfold bd at h9_6; have h9_7 := kb_m1; unfold bd at h9_7; omega) _ _ _ _ g9  hl9
    · have fc_335 := neq_f c_335
      refine lv_aload_n hx hb dX2_readMemberHead_70 rfl (lv_at hl 4 rfl) ?_
      refine g_getk (C := RX2) (T := TX2) (N := 16) hx hb hts (mc_ inX2) hown hK g rfl 0 (by decide) rfl (hts _ (List.mem_cons_of_mem _ t_416)) (fun _ h9 => h9) 1 rfl dX2_readMemberHead_71 ?_
      refine lv_iconst (v := 1) hx hb dX2_readMemberHead_74 (by decide) ?_
      refine lv_iload_n hx hb dX2_readMemberHead_75 rfl (lv_at hl 3 rfl) ?_
      have kb_1 : bd 1 1 (1 : Int32) := ⟨by decide, by decide⟩
      refine g_callv (va_runV (As := [.int 1, .int r_5]) (rest := []) ⟨hx, hb, hml, hown, hts⟩ (r_X8_fail l dC dI L kd tys fr_334 H.size g.2.2.2.1 q0_ mq0_ kq0_ 1 (bd_sub kb_1 (by decide)) r_5 y0_ by0_ (g.fcts [7] rfl)) (cwV 2 hts (gV_ t_1122 t_1107 t_1108 t_184 t_1109) rfl rfl rfl (by decide +kernel) ⟨(Nat.le_of_ble_eq_true rfl), (Nat.le_of_ble_eq_true rfl)⟩) (pre3V g hK mq0_ kq0_ (by decide) (q := (RX8, TX8, 10)) rfl) rfl rfl hl.1 rfl (lv_room (Nat.le_of_ble_eq_true rfl)) dX2_readMemberHead_76 ⟨(Nat.le_of_ble_eq_true rfl), (Nat.le_of_ble_eq_true rfl)⟩) g hK (by decide) (by decide) (fx' := [(2, 0, a0_, .ref q0_), (2, 1, a0_, .ref q1_), (2, 3, a0_, .ref q2_), (2, 4, a0_, .ref q3_), (2, 5, a0_, .ref q4_), (5, 1, q1_, .ref q5_)]) rfl (fun fr_495 H locs hp hMr_495 g => ?_)
      obtain ⟨x_496, h_497, hF_498⟩ := hp
      have g := g.more hF_498
      refine lv_goto (tgt := 161) hx hb dX2_readMemberHead_79 (by decide) ?_
      refine lv_aload_n hx hb dX2_readMemberHead_161 rfl (lv_at hl 4 rfl) ?_
      refine g_getk (C := RX2) (T := TX2) (N := 16) hx hb hts (mc_ inX2) hown hK g rfl 0 (by decide) rfl (hts _ (List.mem_cons_of_mem _ t_416)) (fun _ h9 => h9) 2 rfl dX2_readMemberHead_162 ?_
      have kb_1201 : bd 1201 1201 (1201 : Int32) := ⟨by decide, by decide⟩
      refine g_callv (va_runV (As := []) (rest := []) ⟨hx, hb, hml, hown, hts⟩ (r_X8_next_2 l dC dI L kd tys fr_495 H.size g.2.2.2.1 q0_ mq0_ kq0_ 1201 kb_1201 (g.fcts [0] rfl)) (cwV 0 hts (gV_ t_1131 t_1103 t_1104 t_184 t_1105) rfl rfl rfl (by decide +kernel) ⟨(Nat.le_of_ble_eq_true rfl), (Nat.le_of_ble_eq_true rfl)⟩) (pre3V g hK mq0_ kq0_ (by decide) (q := (RX8, TX8, 10)) rfl) rfl rfl hl.1 rfl (lv_room (Nat.le_of_ble_eq_true rfl)) dX2_readMemberHead_165 ⟨(Nat.le_of_ble_eq_true rfl), (Nat.le_of_ble_eq_true rfl)⟩) g hK (by decide) (by decide) (fx' := [(8, 6, q0_, .int 1201), (8, 8, q0_, .int x_496), (2, 0, a0_, .ref q0_), (2, 1, a0_, .ref q1_), (2, 3, a0_, .ref q2_), (2, 4, a0_, .ref q3_), (2, 5, a0_, .ref q4_), (5, 1, q1_, .ref q5_)]) rfl (fun fr_499 H locs hp hMr_499 g => ?_)
      refine lv_aload_n hx hb dX2_readMemberHead_168 rfl (lv_at hl 4 rfl) ?_
      refine g_getk (C := RX2) (T := TX2) (N := 16) hx hb hts (mc_ inX2) hown hK g rfl 0 (by decide) rfl (hts _ (List.mem_cons_of_mem _ t_416)) (fun _ h9 => h9) 2 rfl dX2_readMemberHead_169 ?_
      refine lv_bipush (v := 40) hx hb dX2_readMemberHead_172 (by decide) ?_
      refine g_callv (va_runV (As := [.int 40]) (rest := []) ⟨hx, hb, hml, hown, hts⟩ (r_X8_take_2 l dC dI L kd tys fr_499 H.size g.2.2.2.1 q0_ mq0_ kq0_ 40 1201 kb_1201 x_496 h_497 (g.fcts [0, 1] rfl)) (cwV 1 hts (gV_ t_1098 t_1099 t_1100 t_184 t_1101) rfl rfl rfl (by decide +kernel) ⟨(Nat.le_of_ble_eq_true rfl), (Nat.le_of_ble_eq_true rfl)⟩) (pre3V g hK mq0_ kq0_ (by decide) (q := (RX8, TX8, 10)) rfl) rfl rfl hl.1 rfl (lv_room (Nat.le_of_ble_eq_true rfl)) dX2_readMemberHead_174 ⟨(Nat.le_of_ble_eq_true rfl), (Nat.le_of_ble_eq_true rfl)⟩) g hK (by decide) (by decide) (fx' := [(8, 8, q0_, .int x_496), (2, 0, a0_, .ref q0_), (2, 1, a0_, .ref q1_), (2, 3, a0_, .ref q2_), (2, 4, a0_, .ref q3_), (2, 5, a0_, .ref q4_), (5, 1, q1_, .ref q5_)]) rfl (fun fr_500 H locs hp hMr_500 g => ?_)
      obtain ⟨x_501, h_502, hF_503⟩ := hp
      have g := g.more hF_503
      refine lv_aload_n hx hb dX2_readMemberHead_177 rfl (lv_at hl 4 rfl) ?_
      refine g_getk (C := RX2) (T := TX2) (N := 16) hx hb hts (mc_ inX2) hown hK g rfl 0 (by decide) rfl (hts _ (List.mem_cons_of_mem _ t_416)) (fun _ h9 => h9) 2 rfl dX2_readMemberHead_178 ?_
      refine g_calli (va_runV (As := []) (rest := []) ⟨hx, hb, hml, hown, hts⟩ (r_X8_kind_2 l dC dI L kd tys fr_500 H.size g.2.2.2.1 q0_ mq0_ kq0_ x_501 h_502 (g.fcts [0] rfl)) (cwV 0 hts (gV_ t_1118 t_1119 t_1120 t_184 t_1121) rfl rfl rfl (by decide +kernel) ⟨(Nat.le_of_ble_eq_true rfl), (Nat.le_of_ble_eq_true rfl)⟩) (pre3V g hK mq0_ kq0_ (by decide) (q := (RX8, TX8, 10)) rfl) rfl rfl hl.1 rfl (lv_room (Nat.le_of_ble_eq_true rfl)) dX2_readMemberHead_181 ⟨(Nat.le_of_ble_eq_true rfl), (Nat.le_of_ble_eq_true rfl)⟩) g hK (by decide) (by decide) (fx' := [(8, 6, q0_, .int x_501), (8, 8, q0_, .int x_496), (2, 0, a0_, .ref q0_), (2, 1, a0_, .ref q1_), (2, 3, a0_, .ref q2_), (2, 4, a0_, .ref q3_), (2, 5, a0_, .ref q4_), (5, 1, q1_, .ref q5_)]) rfl (fun r_504 fr_504 H locs hp hMr_504 g => ?_)
      obtain ⟨h_505, -⟩ := hp
      obtain rfl : r_504 = 0 := h_505
      refine lv_bipush (v := 41) hx hb dX2_readMemberHead_184 (by decide) ?_
      refine lv_icmp_eq (tgt := 193) hx hb dX2_readMemberHead_186 (by decide) (fun c_ => absurd c_ (by decide)) (fun c_ => ?_)
      refine lv_iconst (v := 1) hx hb dX2_readMemberHead_189 (by decide) ?_
      refine lv_goto (tgt := 194) hx hb dX2_readMemberHead_190 (by decide) ?_
      refine lv_istore (lv' := [(6, .int 1), (5, .int (-1)), (4, .int r_7), (2, .long r_6), (1, .int r_5), (0, .ref a0_)]) hx hb dX2_readMemberHead_194 hl (by decide) rfl (fun ls hl => ?_)
      refine lv_iconst (v := 0) hx hb dX2_readMemberHead_196 (by decide) ?_
      refine lv_istore (lv' := [(7, .int 0), (6, .int 1), (5, .int (-1)), (4, .int r_7), (2, .long r_6), (1, .int r_5), (0, .ref a0_)]) hx hb dX2_readMemberHead_197 hl (by decide) rfl (fun ls hl => ?_)
      have loop_506 : ∀ (n : Nat) (v199_7 : Int32) (v199_6 : Int32) (w199_8_6_q0_ : Int32), bd 0 4 v199_7 → bd 0 1 v199_6 → bd 1201 1201 w199_8_6_q0_ → (4 - v199_7.toInt < (n : Int)) → ∀ (f : Nat → va_E) (H : Heap) (locs : List Loc) (ls : Array Slot), G3 (dC, dI) L kd tys s f0 [(2, 5), (2, 6), (5, 4), (6, 0), (6, 1), (6, 2), (6, 3), (6, 6), (6, 7), (6, 8), (6, 9), (6, 10), (6, 11), (6, 12), (7, 3), (8, 6), (8, 8), (8, 9), (9, 8)] [132, 134, 135, 156] f H locs [(8, 6, q0_, .int w199_8_6_q0_), (8, 8, q0_, .int x_496), (2, 0, a0_, .ref q0_), (2, 1, a0_, .ref q1_), (2, 3, a0_, .ref q2_), (2, 4, a0_, .ref q3_), (2, 5, a0_, .ref q4_), (5, 1, q1_, .ref q5_)] → lv_has ls 8 [(7, .int v199_7), (6, .int v199_6), (5, .int (-1)), (4, .int r_7), (2, .long r_6), (1, .int r_5), (0, .ref a0_)] → W p l e ({ frames := 3, cells := 0, slots := 0, locals := 72 } : Room) s m [.ref a0_].toArray below meth c H locs 0 0 Q (F0 m 199 ls []) := by
        intro n199
        induction n199 with
        | zero =>
          intro v199_7 v199_6 w199_8_6_q0_ bv199_7 bv199_6 bw199_8_6_q0_ hm199 f H locs ls g  hl
          exact absurd hm199 (by have h9_v199_7 := bv199_7; unfold bd at h9_v199_7; have h9_v199_6 := bv199_6; unfold bd at h9_v199_6; have h9_w199_8_6_q0_ := bw199_8_6_q0_; unfold bd at h9_w199_8_6_q0_; omega)
        | succ n199 ih199 =>
          intro v199_7 v199_6 w199_8_6_q0_ bv199_7 bv199_6 bw199_8_6_q0_ hm199 f H locs ls g  hl
          refine lv_iload hx hb dX2_readMemberHead_199 (lv_at hl 0 rfl) ?_
          refine lv_iconst (v := 3) hx hb dX2_readMemberHead_201 (by decide) ?_
          refine lv_icmp_gt (tgt := 251) hx hb dX2_readMemberHead_202 (by decide) (fun c_507 => ?_) (fun c_507 => ?_)
          · have fc_507 := lt_f c_507
            have b_508 : bd 4 4 v199_7 := ltR fc_507 kb_3 bv199_7 (by decide)
            refine lv_aload_n hx hb dX2_readMemberHead_251 rfl (lv_at hl 6 rfl) ?_
            refine g_getk (C := RX2) (T := TX2) (N := 16) hx hb hts (mc_ inX2) hown hK g rfl 0 (by decide) rfl (hts _ (List.mem_cons_of_mem _ t_416)) (fun _ h9 => h9) 2 rfl dX2_readMemberHead_252 ?_
            refine g_calli (va_runV (As := []) (rest := []) ⟨hx, hb, hml, hown, hts⟩ (r_X8_place l dC dI L kd tys f H.size g.2.2.2.1 q0_ mq0_ kq0_) (cwV 0 hts (gV_ t_1110 t_1111 t_1112 t_184 t_1113) rfl rfl rfl (by decide +kernel) ⟨(Nat.le_of_ble_eq_true rfl), (Nat.le_of_ble_eq_true rfl)⟩) (pre3V g hK mq0_ kq0_ (by decide) (q := (RX8, TX8, 10)) rfl) rfl rfl hl.1 rfl (lv_room (Nat.le_of_ble_eq_true rfl)) dX2_readMemberHead_255 ⟨(Nat.le_of_ble_eq_true rfl), (Nat.le_of_ble_eq_true rfl)⟩) g hK (by decide) (by decide) (fx' := [(8, 6, q0_, .int w199_8_6_q0_), (8, 8, q0_, .int x_496), (2, 0, a0_, .ref q0_), (2, 1, a0_, .ref q1_), (2, 3, a0_, .ref q2_), (2, 4, a0_, .ref q3_), (2, 5, a0_, .ref q4_), (5, 1, q1_, .ref q5_)]) rfl (fun r_509 fr_509 H locs hp hMr_509 g => ?_)
            refine lv_istore (lv' := [(7, .int r_509), (6, .int v199_6), (5, .int (-1)), (4, .int r_7), (2, .long r_6), (1, .int r_5), (0, .ref a0_)]) hx hb dX2_readMemberHead_258 hl (by decide) rfl (fun ls hl => ?_)
            refine lv_aload_n hx hb dX2_readMemberHead_260 rfl (lv_at hl 6 rfl) ?_
            refine g_getk (C := RX2) (T := TX2) (N := 16) hx hb hts (mc_ inX2) hown hK g rfl 0 (by decide) rfl (hts _ (List.mem_cons_of_mem _ t_416)) (fun _ h9 => h9) 2 rfl dX2_readMemberHead_261 ?_
            refine lv_bipush (v := 41) hx hb dX2_readMemberHead_264 (by decide) ?_
            refine g_callv (va_runV (As := [.int 41]) (rest := []) ⟨hx, hb, hml, hown, hts⟩ (r_X8_take_2 l dC dI L kd tys fr_509 H.size g.2.2.2.1 q0_ mq0_ kq0_ 41 w199_8_6_q0_ bw199_8_6_q0_ x_496 h_497 (g.fcts [0, 1] rfl)) (cwV 1 hts (gV_ t_1098 t_1099 t_1100 t_184 t_1101) rfl rfl rfl (by decide +kernel) ⟨(Nat.le_of_ble_eq_true rfl), (Nat.le_of_ble_eq_true rfl)⟩) (pre3V g hK mq0_ kq0_ (by decide) (q := (RX8, TX8, 10)) rfl) rfl rfl hl.1 rfl (lv_room (Nat.le_of_ble_eq_true rfl)) dX2_readMemberHead_266 ⟨(Nat.le_of_ble_eq_true rfl), (Nat.le_of_ble_eq_true rfl)⟩) g hK (by decide) (by decide) (fx' := [(8, 8, q0_, .int x_496), (2, 0, a0_, .ref q0_), (2, 1, a0_, .ref q1_), (2, 3, a0_, .ref q2_), (2, 4, a0_, .ref q3_), (2, 5, a0_, .ref q4_), (5, 1, q1_, .ref q5_)]) rfl (fun fr_510 H locs hp hMr_510 g => ?_)
            obtain ⟨x_511, h_512, hF_513⟩ := hp
            have g := g.more hF_513
            refine lv_iload hx hb dX2_readMemberHead_269 (lv_at hl 2 rfl) ?_
            refine lv_iconst (v := (-1)) hx hb dX2_readMemberHead_271 (by decide) ?_
            refine lv_icmp_eq (tgt := 308) hx hb dX2_readMemberHead_272 (by decide) (fun c_ => ?_) (fun c_ => absurd (by decide) c_)
            subst hQ
            exact W.vret hx hb hr (fun t ht hW => ⟨⟨_, rfl, Or.inr (⟨x_511, h_512, x_496, h_497, q4_, ⟨mq4_, kq4_⟩, (g.fcts [0, 1, 6] rfl)⟩), q3_of g hK ht hW⟩, g.2.2.1.F ht⟩) g.2.2.1.2.2 dX2_readMemberHead_308
          · have fc_507 := nlt_f c_507
            have b_514 : bd 0 3 v199_7 := leL fc_507 bv199_7 kb_3 (by decide)
            refine lv_iload hx hb dX2_readMemberHead_205 (lv_at hl 1 rfl) ?_
            have kb_0 : bd 0 0 (0 : Int32) := ⟨by decide, by decide⟩
            refine lv_if_eq (tgt := 251) hx hb dX2_readMemberHead_207 (by decide) (fun c_515 => ?_) (fun c_515 => ?_)
            · have fc_515 := eq_f c_515
              have b_516 : bd 0 0 v199_6 := eqX fc_515 bv199_6 kb_0 (by decide)
              refine lv_aload_n hx hb dX2_readMemberHead_251 rfl (lv_at hl 6 rfl) ?_
              refine g_getk (C := RX2) (T := TX2) (N := 16) hx hb hts (mc_ inX2) hown hK g rfl 0 (by decide) rfl (hts _ (List.mem_cons_of_mem _ t_416)) (fun _ h9 => h9) 2 rfl dX2_readMemberHead_252 ?_
              refine g_calli (va_runV (As := []) (rest := []) ⟨hx, hb, hml, hown, hts⟩ (r_X8_place l dC dI L kd tys f H.size g.2.2.2.1 q0_ mq0_ kq0_) (cwV 0 hts (gV_ t_1110 t_1111 t_1112 t_184 t_1113) rfl rfl rfl (by decide +kernel) ⟨(Nat.le_of_ble_eq_true rfl), (Nat.le_of_ble_eq_true rfl)⟩) (pre3V g hK mq0_ kq0_ (by decide) (q := (RX8, TX8, 10)) rfl) rfl rfl hl.1 rfl (lv_room (Nat.le_of_ble_eq_true rfl)) dX2_readMemberHead_255 ⟨(Nat.le_of_ble_eq_true rfl), (Nat.le_of_ble_eq_true rfl)⟩) g hK (by decide) (by decide) (fx' := [(8, 6, q0_, .int w199_8_6_q0_), (8, 8, q0_, .int x_496), (2, 0, a0_, .ref q0_), (2, 1, a0_, .ref q1_), (2, 3, a0_, .ref q2_), (2, 4, a0_, .ref q3_), (2, 5, a0_, .ref q4_), (5, 1, q1_, .ref q5_)]) rfl (fun r_517 fr_517 H locs hp hMr_517 g => ?_)
              refine lv_istore (lv' := [(7, .int r_517), (6, .int v199_6), (5, .int (-1)), (4, .int r_7), (2, .long r_6), (1, .int r_5), (0, .ref a0_)]) hx hb dX2_readMemberHead_258 hl (by decide) rfl (fun ls hl => ?_)
              refine lv_aload_n hx hb dX2_readMemberHead_260 rfl (lv_at hl 6 rfl) ?_
              refine g_getk (C := RX2) (T := TX2) (N := 16) hx hb hts (mc_ inX2) hown hK g rfl 0 (by decide) rfl (hts _ (List.mem_cons_of_mem _ t_416)) (fun _ h9 => h9) 2 rfl dX2_readMemberHead_261 ?_
              refine lv_bipush (v := 41) hx hb dX2_readMemberHead_264 (by decide) ?_
              refine g_callv (va_runV (As := [.int 41]) (rest := []) ⟨hx, hb, hml, hown, hts⟩ (r_X8_take_2 l dC dI L kd tys fr_517 H.size g.2.2.2.1 q0_ mq0_ kq0_ 41 w199_8_6_q0_ bw199_8_6_q0_ x_496 h_497 (g.fcts [0, 1] rfl)) (cwV 1 hts (gV_ t_1098 t_1099 t_1100 t_184 t_1101) rfl rfl rfl (by decide +kernel) ⟨(Nat.le_of_ble_eq_true rfl), (Nat.le_of_ble_eq_true rfl)⟩) (pre3V g hK mq0_ kq0_ (by decide) (q := (RX8, TX8, 10)) rfl) rfl rfl hl.1 rfl (lv_room (Nat.le_of_ble_eq_true rfl)) dX2_readMemberHead_266 ⟨(Nat.le_of_ble_eq_true rfl), (Nat.le_of_ble_eq_true rfl)⟩) g hK (by decide) (by decide) (fx' := [(8, 8, q0_, .int x_496), (2, 0, a0_, .ref q0_), (2, 1, a0_, .ref q1_), (2, 3, a0_, .ref q2_), (2, 4, a0_, .ref q3_), (2, 5, a0_, .ref q4_), (5, 1, q1_, .ref q5_)]) rfl (fun fr_518 H locs hp hMr_518 g => ?_)
              obtain ⟨x_519, h_520, hF_521⟩ := hp
              have g := g.more hF_521
              refine lv_iload hx hb dX2_readMemberHead_269 (lv_at hl 2 rfl) ?_
              refine lv_iconst (v := (-1)) hx hb dX2_readMemberHead_271 (by decide) ?_
              refine lv_icmp_eq (tgt := 308) hx hb dX2_readMemberHead_272 (by decide) (fun c_ => ?_) (fun c_ => absurd (by decide) c_)
              subst hQ
              exact W.vret hx hb hr (fun t ht hW => ⟨⟨_, rfl, Or.inr (⟨x_519, h_520, x_496, h_497, q4_, ⟨mq4_, kq4_⟩, (g.fcts [0, 1, 6] rfl)⟩), q3_of g hK ht hW⟩, g.2.2.1.F ht⟩) g.2.2.1.2.2 dX2_readMemberHead_308
            · have fc_515 := neq_f c_515
              have b_522 : bd 1 1 v199_6 := neX fc_515 bv199_6 kb_0 (by decide)
              refine lv_aload_n hx hb dX2_readMemberHead_210 rfl (lv_at hl 6 rfl) ?_
              refine g_callv (va_runV (As := []) (rest := []) ⟨hx, hb, hml, hown, hts⟩ (r_X2_readParam_2 l dC dI L kd tys f H.size g.2.2.2.1 a0_ ma0_ ka0_ q0_ mq0_ kq0_ q1_ mq1_ kq1_ q4_ mq4_ kq4_ q5_ mq5_ kq5_ w199_8_6_q0_ bw199_8_6_q0_ x_496 h_497 (g.fcts [2, 3, 6, 7, 0, 1] rfl)) (cwV 0 hts (gV_ t_1313 t_1315 t_34 t_183 t_1316) rfl rfl rfl (by decide +kernel) ⟨(Nat.le_of_ble_eq_true rfl), (Nat.le_of_ble_eq_true rfl)⟩) (pre3V g hK ma0_ ka0_ (by decide) (q := (RX2, TX2, 16)) rfl) rfl rfl hl.1 rfl (lv_room (Nat.le_of_ble_eq_true rfl)) dX2_readMemberHead_211 ⟨(Nat.le_of_ble_eq_true rfl), (Nat.le_of_ble_eq_true rfl)⟩) g hK (by decide) (by decide) (fx' := [(8, 8, q0_, .int x_496), (2, 0, a0_, .ref q0_), (2, 1, a0_, .ref q1_), (2, 3, a0_, .ref q2_), (2, 4, a0_, .ref q3_), (2, 5, a0_, .ref q4_), (5, 1, q1_, .ref q5_)]) rfl (fun fr_523 H locs hp hMr_523 g => ?_)
              have hF_524 := hp
              have g := g.more hF_524
              refine lv_aload_n hx hb dX2_readMemberHead_214 rfl (lv_at hl 6 rfl) ?_
              refine g_getk (C := RX2) (T := TX2) (N := 16) hx hb hts (mc_ inX2) hown hK g rfl 0 (by decide) rfl (hts _ (List.mem_cons_of_mem _ t_416)) (fun _ h9 => h9) 2 rfl dX2_readMemberHead_215 ?_
              refine g_calli (va_runV (As := []) (rest := []) ⟨hx, hb, hml, hown, hts⟩ (r_X8_kind_2 l dC dI L kd tys fr_523 H.size g.2.2.2.1 q0_ mq0_ kq0_ 1201 kb_1201 (g.fcts [0] rfl)) (cwV 0 hts (gV_ t_1118 t_1119 t_1120 t_184 t_1121) rfl rfl rfl (by decide +kernel) ⟨(Nat.le_of_ble_eq_true rfl), (Nat.le_of_ble_eq_true rfl)⟩) (pre3V g hK mq0_ kq0_ (by decide) (q := (RX8, TX8, 10)) rfl) rfl rfl hl.1 rfl (lv_room (Nat.le_of_ble_eq_true rfl)) dX2_readMemberHead_218 ⟨(Nat.le_of_ble_eq_true rfl), (Nat.le_of_ble_eq_true rfl)⟩) g hK (by decide) (by decide) (fx' := [(8, 6, q0_, .int 1201), (8, 8, q0_, .int x_496), (2, 0, a0_, .ref q0_), (2, 1, a0_, .ref q1_), (2, 3, a0_, .ref q2_), (2, 4, a0_, .ref q3_), (2, 5, a0_, .ref q4_), (5, 1, q1_, .ref q5_)]) rfl (fun r_525 fr_525 H locs hp hMr_525 g => ?_)
              obtain ⟨h_526, -⟩ := hp
              obtain rfl : r_525 = 0 := h_526
              refine lv_bipush (v := 44) hx hb dX2_readMemberHead_221 (by decide) ?_
              refine lv_icmp_ne (tgt := 230) hx hb dX2_readMemberHead_223 (by decide) (fun c_ => ?_) (fun c_ => absurd c_ (by decide))
              refine lv_iconst (v := 0) hx hb dX2_readMemberHead_230 (by decide) ?_
              refine lv_istore (lv' := [(6, .int 0), (7, .int v199_7), (5, .int (-1)), (4, .int r_7), (2, .long r_6), (1, .int r_5), (0, .ref a0_)]) hx hb dX2_readMemberHead_231 hl (by decide) rfl (fun ls hl => ?_)
              refine lv_iload hx hb dX2_readMemberHead_233 (lv_at hl 0 rfl) ?_
              refine lv_if_eq (tgt := 245) hx hb dX2_readMemberHead_235 (by decide) (fun c_ => ?_) (fun c_ => absurd (by decide) c_)
              obtain ⟨y_527, ey_527⟩ : ∃ z : Int32, z = v199_7 + 1 := ⟨_, rfl⟩
              refine lv_iinc (v := y_527) (lv' := [(7, .int y_527), (6, .int 0), (5, .int (-1)), (4, .int r_7), (2, .long r_6), (1, .int r_5), (0, .ref a0_)]) hx hb dX2_readMemberHead_245 hl (k := 1) rfl (by rw [ey_527]; rfl) (by decide) rfl (fun ls hl => ?_)
              have ty_527 := add_bd ey_527 b_514 kb_1 (by decide)
              have b_528 : bd 1 4 y_527 := add_rg ty_527 b_514 kb_1 (by decide)
              refine lv_goto (tgt := 199) hx hb dX2_readMemberHead_248 (by decide) ?_
              have hl9 := lv_sub hl [0, 1, 2, 3, 4, 5, 6] (by rfl : lv_pick [(7, .int y_527), (6, .int 0), (5, .int (-1)), (4, .int r_7), (2, .long r_6), (1, .int r_5), (0, .ref a0_)] [0, 1, 2, 3, 4, 5, 6] = [(7, .int y_527), (6, .int 0), (5, .int (-1)), (4, .int r_7), (2, .long r_6), (1, .int r_5), (0, .ref a0_)])
              have g9 := g.sub (fx' := [(8, 6, q0_, .int 1201), (8, 8, q0_, .int x_496), (2, 0, a0_, .ref q0_), (2, 1, a0_, .ref q1_), (2, 3, a0_, .ref q2_), (2, 4, a0_, .ref q3_), (2, 5, a0_, .ref q4_), (5, 1, q1_, .ref q5_)]) [0, 1, 2, 3, 4, 5, 6, 7] rfl
              exact ih199  y_527 0 1201 (bd_sub b_528 (by decide)) (bd_sub kb_0 (by decide)) kb_1201 (by have h9_0 := b_528; unfold bd at h9_0; have h9_1 := bv199_6; unfold bd at h9_1; have h9_2 := bv199_7; unfold bd at h9_2; have h9_3 := bw199_8_6_q0_; unfold bd at h9_3; have h9_4 := kb_0; unfold bd at h9_4; have h9_5 := kb_1; unfold bd at h9_5; have h9_6 := kb_1201; unfold bd at h9_6; have h9_7 := kb_3; unfold bd at h9_7; have h9_8 := kb_m1; unfold bd at h9_8; omega) _ _ _ _ g9  hl9
      have kb_0 : bd 0 0 (0 : Int32) := ⟨by decide, by decide⟩
      have hl9 := lv_sub hl [0, 1, 2, 3, 4, 5, 6] (by rfl : lv_pick [(7, .int 0), (6, .int 1), (5, .int (-1)), (4, .int r_7), (2, .long r_6), (1, .int r_5), (0, .ref a0_)] [0, 1, 2, 3, 4, 5, 6] = [(7, .int 0), (6, .int 1), (5, .int (-1)), (4, .int r_7), (2, .long r_6), (1, .int r_5), (0, .ref a0_)])
      have g9 := g.sub (fx' := [(8, 6, q0_, .int x_501), (8, 8, q0_, .int x_496), (2, 0, a0_, .ref q0_), (2, 1, a0_, .ref q1_), (2, 3, a0_, .ref q2_), (2, 4, a0_, .ref q3_), (2, 5, a0_, .ref q4_), (5, 1, q1_, .ref q5_)]) [0, 1, 2, 3, 4, 5, 6, 7] rfl
      exact loop_506 (11) 0 1 x_501 (bd_sub kb_0 (by decide)) (bd_sub kb_1 (by decide)) h_502 (by have h9_0 := h_502; unfold bd at h9_0; have h9_1 := kb_0; unfold bd at h9_1; have h9_2 := kb_1; unfold bd at h9_2; have h9_3 := kb_1201; unfold bd at h9_3; have h9_4 := kb_3; unfold bd at h9_4; have h9_5 := kb_m1; unfold bd at h9_5; omega) _ _ _ _ g9  hl9
