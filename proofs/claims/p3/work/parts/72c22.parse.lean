set_option maxHeartbeats 4000000 in
set_option maxRecDepth 100000 in
theorem r_X2_readMemberHead (l : Launch) (dC : Nat → ClassId) (dI : Nat → Nat → Nat) (L : List Nat) (kd : Nat → Nat) (tys : List (ClassId × FieldType)) (f0 : Nat → va_E) (sz : Nat) (hWT : WT L kd tys f0) (a0_ : Nat) (ma0_ : a0_ ∈ L) (ka0_ : kd a0_ = 2) (q0_ : Nat) (mq0_ : q0_ ∈ L) (kq0_ : kd q0_ = 8) (q1_ : Nat) (mq1_ : q1_ ∈ L) (kq1_ : kd q1_ = 5) (q2_ : Nat) (mq2_ : q2_ ∈ L) (kq2_ : kd q2_ = 7) (q3_ : Nat) (mq3_ : q3_ ∈ L) (kq3_ : kd q3_ = 9) (q4_ : Nat) (mq4_ : q4_ ∈ L) (kq4_ : kd q4_ = 6) (q5_ : Nat) (mq5_ : q5_ ∈ L) (kq5_ : kd q5_ = 9) (y0_ : Int32) (by0_ : bd 0 0 y0_) (hfx : Fs L kd f0 [(2, 0, a0_, .ref q0_), (2, 1, a0_, .ref q1_), (2, 3, a0_, .ref q2_), (2, 4, a0_, .ref q3_), (2, 5, a0_, .ref q4_), (5, 1, q1_, .ref q5_), (8, 8, q0_, .int y0_)]) : Met l yX2_readMemberHead (.code yX2_readMemberHead cX2_readMemberHead 8 none :: lw_g) ({ frames := 3, cells := 0, slots := 0, locals := 72 }) (va_Pc [.ref a0_] (P3 (dC, dI) L tys f0 sz)) (va_Qv (fun (f : Nat → va_E) => (∃ z0_ : Int32, bd 1 1201 z0_ ∧ ∃ z3_ : Int32, bd 1 12 z3_ ∧ ∃ z4_ : Nat, (z4_ ∈ L ∧ kd z4_ = 6) ∧ ∃ z5_ : Int32, bd 1 96 z5_ ∧ ∃ z6_ : Int32, bd 0 0 z6_ ∧ Fs L kd f [(8, 6, q0_, .int z0_), (8, 8, q0_, .int y0_), (2, 6, a0_, .int 0), (9, 8, q3_, .int z3_), (2, 5, a0_, .ref z4_), (7, 3, q2_, .int z5_), (6, 12, z4_, .int z6_)]) ∨ (∃ z0_ : Int32, bd 1201 1201 z0_ ∧ ∃ z1_ : Int32, bd 1 7 z1_ ∧ ∃ z2_ : Nat, (z2_ ∈ L ∧ kd z2_ = 6) ∧ Fs L kd f [(8, 6, q0_, .int z0_), (8, 8, q0_, .int z1_), (2, 5, a0_, .ref z2_)])) (Q3 (dC, dI) L kd tys [(2, 5), (2, 6), (5, 4), (6, 0), (6, 1), (6, 2), (6, 3), (6, 6), (6, 7), (6, 8), (6, 9), (6, 10), (6, 11), (6, 12), (7, 3), (8, 6), (8, 8), (8, 9), (9, 8)] [132, 134, 135, 156] f0 sz) (pA L sz)) 0 0 (pA L sz) := by
  refine Met.ofW (cc := cX2_readMemberHead) (maxL := 8) (ret := none) (by decide) rfl ?_
  intro p e s m args below meth c s₁ B hml hv
  obtain ⟨rfl, hsz, hP, hK, hD0⟩ := hv
  have hx := B.exec
  have hb := B.bytes
  have hr := B.returns
  have hts := atoms_spec (ws := (.code yX2_readMemberHead cX2_readMemberHead 8 none :: lw_g)) B.pre
  have hown : s.vm.findClass RX2 = some m.cls := findClass_of_methodNamed B.named
  have hlocks := B.notSynchronized
  subst hsz
  have g : G3 (dC, dI) L kd tys s f0 [(2, 5), (2, 6), (5, 4), (6, 0), (6, 1), (6, 2), (6, 3), (6, 6), (6, 7), (6, 8), (6, 9), (6, 10), (6, 11), (6, 12), (7, 3), (8, 6), (8, 8), (8, 9), (9, 8)] [132, 134, 135, 156] f0 s.heap [] [(2, 0, a0_, .ref q0_), (2, 1, a0_, .ref q1_), (2, 3, a0_, .ref q2_), (2, 4, a0_, .ref q3_), (2, 5, a0_, .ref q4_), (5, 1, q1_, .ref q5_), (8, 8, q0_, .int y0_)] := G3.start hP hD0 hWT hfx
  have hl := lv_entry ([.ref a0_]) (n := 8) (Nat.le_of_ble_eq_true rfl)
  rw [lg_entry_eq]
  generalize (lg_sl ([.ref a0_]) ++ List.replicate (8 - (lg_sl ([.ref a0_])).length) Slot.unset).toArray = ls at hl ⊢
  have hl : lv_has ls 8 [(0, .ref a0_)] := hl
  refine W_q (fun Q hQ => ?_)
  refine lv_aload_n hx hb dX2_readMemberHead_0 rfl (lv_at hl 0 rfl) ?_
  refine g_getk (C := RX2) (T := TX2) (N := 16) hx hb hts (mc_ inX2) hown hK g rfl 0 (by decide) rfl (hts _ (List.mem_cons_of_mem _ t_416)) (fun _ h9 => h9) 0 rfl dX2_readMemberHead_1 ?_
  refine g_callv (va_runV (As := []) (rest := []) ⟨hx, hb, hml, hown, hts⟩ (r_X8_next l dC dI L kd tys f0 s.heap.size g.2.2.2.1 q0_ mq0_ kq0_) (cwV 0 hts (gV_ t_1131 t_1103 t_1104 t_184 t_1105) rfl rfl rfl (by decide +kernel) ⟨(Nat.le_of_ble_eq_true rfl), (Nat.le_of_ble_eq_true rfl)⟩) (pre3V g hK mq0_ kq0_ (by decide) (q := (RX8, TX8, 10)) rfl) rfl rfl hl.1 rfl (lv_room (Nat.le_of_ble_eq_true rfl)) dX2_readMemberHead_4 ⟨(Nat.le_of_ble_eq_true rfl), (Nat.le_of_ble_eq_true rfl)⟩) g hK (by decide) (by decide) (fx' := [(2, 0, a0_, .ref q0_), (2, 1, a0_, .ref q1_), (2, 3, a0_, .ref q2_), (2, 4, a0_, .ref q3_), (2, 5, a0_, .ref q4_), (5, 1, q1_, .ref q5_), (8, 8, q0_, .int y0_)]) rfl (fun fr_1 H locs hp hMr_1 g => ?_)
  obtain ⟨x_2, h_3, hF_4⟩ := hp
  have g := g.more hF_4
  refine lv_aload_n hx hb dX2_readMemberHead_7 rfl (lv_at hl 0 rfl) ?_
  refine g_getk (C := RX2) (T := TX2) (N := 16) hx hb hts (mc_ inX2) hown hK g rfl 0 (by decide) rfl (hts _ (List.mem_cons_of_mem _ t_416)) (fun _ h9 => h9) 1 rfl dX2_readMemberHead_8 ?_
  refine g_calli (va_runV (As := []) (rest := []) ⟨hx, hb, hml, hown, hts⟩ (r_X8_place l dC dI L kd tys fr_1 H.size g.2.2.2.1 q0_ mq0_ kq0_) (cwV 0 hts (gV_ t_1110 t_1111 t_1112 t_184 t_1113) rfl rfl rfl (by decide +kernel) ⟨(Nat.le_of_ble_eq_true rfl), (Nat.le_of_ble_eq_true rfl)⟩) (pre3V g hK mq0_ kq0_ (by decide) (q := (RX8, TX8, 10)) rfl) rfl rfl hl.1 rfl (lv_room (Nat.le_of_ble_eq_true rfl)) dX2_readMemberHead_11 ⟨(Nat.le_of_ble_eq_true rfl), (Nat.le_of_ble_eq_true rfl)⟩) g hK (by decide) (by decide) (fx' := [(8, 6, q0_, .int x_2), (2, 0, a0_, .ref q0_), (2, 1, a0_, .ref q1_), (2, 3, a0_, .ref q2_), (2, 4, a0_, .ref q3_), (2, 5, a0_, .ref q4_), (5, 1, q1_, .ref q5_), (8, 8, q0_, .int y0_)]) rfl (fun r_5 fr_5 H locs hp hMr_5 g => ?_)
  refine lv_istore_n (lv' := [(1, .int r_5), (0, .ref a0_)]) hx hb dX2_readMemberHead_14 rfl hl (by decide) rfl (fun ls hl => ?_)
  refine lv_aload_n hx hb dX2_readMemberHead_15 rfl (lv_at hl 1 rfl) ?_
  refine g_getk (C := RX2) (T := TX2) (N := 16) hx hb hts (mc_ inX2) hown hK g rfl 0 (by decide) rfl (hts _ (List.mem_cons_of_mem _ t_416)) (fun _ h9 => h9) 1 rfl dX2_readMemberHead_16 ?_
  refine g_calll (va_runV (As := []) (rest := []) ⟨hx, hb, hml, hown, hts⟩ (r_X8_value l dC dI L kd tys fr_5 H.size g.2.2.2.1 q0_ mq0_ kq0_) (cwV 0 hts (gV_ t_1114 t_1115 t_1116 t_184 t_1117) rfl rfl rfl (by decide +kernel) ⟨(Nat.le_of_ble_eq_true rfl), (Nat.le_of_ble_eq_true rfl)⟩) (pre3V g hK mq0_ kq0_ (by decide) (q := (RX8, TX8, 10)) rfl) rfl rfl hl.1 rfl (lv_room (Nat.le_of_ble_eq_true rfl)) dX2_readMemberHead_19 ⟨(Nat.le_of_ble_eq_true rfl), (Nat.le_of_ble_eq_true rfl)⟩) g hK (by decide) (by decide) (fx' := [(8, 6, q0_, .int x_2), (2, 0, a0_, .ref q0_), (2, 1, a0_, .ref q1_), (2, 3, a0_, .ref q2_), (2, 4, a0_, .ref q3_), (2, 5, a0_, .ref q4_), (5, 1, q1_, .ref q5_), (8, 8, q0_, .int y0_)]) rfl (fun r_6 fr_6 H locs hp hMr_6 g => ?_)
  refine lv_lstore_n (lv' := [(2, .long r_6), (1, .int r_5), (0, .ref a0_)]) hx hb dX2_readMemberHead_22 rfl hl (by decide) rfl (fun ls hl => ?_)
  refine lv_aload_n hx hb dX2_readMemberHead_23 rfl (lv_at hl 2 rfl) ?_
  refine g_getk (C := RX2) (T := TX2) (N := 16) hx hb hts (mc_ inX2) hown hK g rfl 3 (by decide) rfl (hts _ (List.mem_cons_of_mem _ t_419)) (fun _ h9 => h9) 3 rfl dX2_readMemberHead_24 ?_
  refine lv_aload_n hx hb dX2_readMemberHead_27 rfl (lv_at hl 2 rfl) ?_
  refine g_getk (C := RX2) (T := TX2) (N := 16) hx hb hts (mc_ inX2) hown hK g rfl 4 (by decide) rfl (hts _ (List.mem_cons_of_mem _ t_420)) (fun _ h9 => h9) 4 rfl dX2_readMemberHead_28 ?_
  refine lv_lload_n hx hb dX2_readMemberHead_31 rfl (lv_at hl 0 rfl) ?_
  refine g_calli (va_runV (As := [.ref q3_, .long r_6]) (rest := []) ⟨hx, hb, hml, hown, hts⟩ (r_X7_memberNamed l dC dI L kd tys fr_6 H.size g.2.2.2.1 q2_ mq2_ kq2_ q3_ mq3_ kq3_ r_6) (cwV 2 hts (gV_ t_1306 t_1244 t_1245 t_191 t_1246) rfl rfl rfl (by decide +kernel) ⟨(Nat.le_of_ble_eq_true rfl), (Nat.le_of_ble_eq_true rfl)⟩) (pre3V g hK mq2_ kq2_ (by decide) (q := (RX7, TX7, 19)) rfl) rfl rfl hl.1 rfl (lv_room (Nat.le_of_ble_eq_true rfl)) dX2_readMemberHead_32 ⟨(Nat.le_of_ble_eq_true rfl), (Nat.le_of_ble_eq_true rfl)⟩) g hK (by decide) (by decide) (fx' := [(8, 6, q0_, .int x_2), (2, 0, a0_, .ref q0_), (2, 1, a0_, .ref q1_), (2, 3, a0_, .ref q2_), (2, 4, a0_, .ref q3_), (2, 5, a0_, .ref q4_), (5, 1, q1_, .ref q5_), (8, 8, q0_, .int y0_)]) rfl (fun r_7 fr_7 H locs hp hMr_7 g => ?_)
  obtain ⟨h_8, -⟩ := hp
  refine lv_istore (lv' := [(4, .int r_7), (2, .long r_6), (1, .int r_5), (0, .ref a0_)]) hx hb dX2_readMemberHead_35 hl (by decide) rfl (fun ls hl => ?_)
  refine lv_iload hx hb dX2_readMemberHead_37 (lv_at hl 0 rfl) ?_
  refine lv_iconst (v := (-1)) hx hb dX2_readMemberHead_39 (by decide) ?_
  have kb_m1 : bd (-1) (-1) ((-1) : Int32) := ⟨by decide, by decide⟩
  refine lv_icmp_ne (tgt := 47) hx hb dX2_readMemberHead_40 (by decide) (fun c_9 => ?_) (fun c_9 => ?_)
  · have fc_9 := neq_f c_9
    have b_10 : bd 0 11 r_7 := neX fc_9 h_8 kb_m1 (by decide)
    refine lv_aload_n hx hb dX2_readMemberHead_47 rfl (lv_at hl 3 rfl) ?_
    refine g_getk (C := RX2) (T := TX2) (N := 16) hx hb hts (mc_ inX2) hown hK g rfl 4 (by decide) rfl (hts _ (List.mem_cons_of_mem _ t_420)) (fun _ h9 => h9) 4 rfl dX2_readMemberHead_48 ?_
    refine g_getr (K := 156) (C := RX9) (T := TX9) (N := 13) hx hb hts (mc_ inX9) hown hK g mq3_ kq3_ (by decide) rfl 9 (by decide) rfl (hts _ (List.mem_cons_of_mem _ t_510)) (fun _ h9 => h9) rfl dX2_readMemberHead_51 (fun a_11 ma_11 ka_11 g => ?_)
    refine lv_iload hx hb dX2_readMemberHead_54 (lv_at hl 0 rfl) ?_
    refine g_iald hx hb hK g ma_11 ka_11 (by decide) rfl (in_bd b_10 (by decide)) dX2_readMemberHead_56 (fun x_12 bx_12 cx_12 => ?_)
    refine lv_istore (lv' := [(5, .int x_12), (4, .int r_7), (2, .long r_6), (1, .int r_5), (0, .ref a0_)]) hx hb dX2_readMemberHead_57 hl (by decide) rfl (fun ls hl => ?_)
    refine lv_aload_n hx hb dX2_readMemberHead_59 rfl (lv_at hl 4 rfl) ?_
    refine g_getk (C := RX2) (T := TX2) (N := 16) hx hb hts (mc_ inX2) hown hK g rfl 0 (by decide) rfl (hts _ (List.mem_cons_of_mem _ t_416)) (fun _ h9 => h9) 2 rfl dX2_readMemberHead_60 ?_
    refine g_calli (va_runV (As := []) (rest := []) ⟨hx, hb, hml, hown, hts⟩ (r_X8_kind l dC dI L kd tys fr_7 H.size g.2.2.2.1 q0_ mq0_ kq0_) (cwV 0 hts (gV_ t_1118 t_1119 t_1120 t_184 t_1121) rfl rfl rfl (by decide +kernel) ⟨(Nat.le_of_ble_eq_true rfl), (Nat.le_of_ble_eq_true rfl)⟩) (pre3V g hK mq0_ kq0_ (by decide) (q := (RX8, TX8, 10)) rfl) rfl rfl hl.1 rfl (lv_room (Nat.le_of_ble_eq_true rfl)) dX2_readMemberHead_63 ⟨(Nat.le_of_ble_eq_true rfl), (Nat.le_of_ble_eq_true rfl)⟩) g hK (by decide) (by decide) (fx' := [(9, 9, q3_, .ref a_11), (8, 6, q0_, .int x_2), (2, 0, a0_, .ref q0_), (2, 1, a0_, .ref q1_), (2, 3, a0_, .ref q2_), (2, 4, a0_, .ref q3_), (2, 5, a0_, .ref q4_), (5, 1, q1_, .ref q5_), (8, 8, q0_, .int y0_)]) rfl (fun r_13 fr_13 H locs hp hMr_13 g => ?_)
    refine lv_iconst (v := 3) hx hb dX2_readMemberHead_66 (by decide) ?_
    have kb_3 : bd 3 3 (3 : Int32) := ⟨by decide, by decide⟩
    refine lv_icmp_eq (tgt := 82) hx hb dX2_readMemberHead_67 (by decide) (fun c_14 => ?_) (fun c_14 => ?_)
    · have fc_14 := eq_f c_14
      have b_15 : bd 3 3 r_13 := eqX fc_14 (bdT r_13) kb_3 (by decide)
      refine lv_iload hx hb dX2_readMemberHead_82 (lv_at hl 0 rfl) ?_
      refine lv_iconst (v := (-1)) hx hb dX2_readMemberHead_84 (by decide) ?_
      refine lv_icmp_eq (tgt := 123) hx hb dX2_readMemberHead_85 (by decide) (fun c_16 => ?_) (fun c_16 => ?_)
      · have fc_16 := eq_f c_16
        have b_17 : bd 0 (-1) x_12 := eqX fc_16 bx_12 kb_m1 (by decide)
        exact bd_no b_17 (by decide)
      · have fc_16 := neq_f c_16
        refine lv_aload_n hx hb dX2_readMemberHead_88 rfl (lv_at hl 4 rfl) ?_
        refine g_getk (C := RX2) (T := TX2) (N := 16) hx hb hts (mc_ inX2) hown hK g rfl 3 (by decide) rfl (hts _ (List.mem_cons_of_mem _ t_419)) (fun _ h9 => h9) 4 rfl dX2_readMemberHead_89 ?_
        refine g_getr (K := 137) (C := RX7) (T := TX7) (N := 19) hx hb hts (mc_ inX7) hown hK g mq2_ kq2_ (by decide) rfl 2 (by decide) rfl (hts _ (List.mem_cons_of_mem _ t_630)) (fun _ h9 => h9) rfl dX2_readMemberHead_92 (fun a_18 ma_18 ka_18 g => ?_)
        refine lv_iload hx hb dX2_readMemberHead_95 (lv_at hl 0 rfl) ?_
        refine g_aald hx hb hK g ma_18 ka_18 (by decide) rfl (by decide) (in_bd bx_12 (by decide)) dX2_readMemberHead_97 (fun a_19 ma_19 ua_19 wa_19 => ?_)
        have ka_19 : kd a_19 = 6 := by omega
        refine g_geti (C := RX6) (T := TX6) (N := 13) hx hb hts (mc_ inX6) hown hK g ma_19 ka_19 (by decide) rfl 2 (by decide) rfl (hts _ (List.mem_cons_of_mem _ t_561)) (fun _ h9 => h9) rfl dX2_readMemberHead_98 (fun x_20 bx_20 g => ?_)
        refine lv_aload_n hx hb dX2_readMemberHead_101 rfl (lv_at hl 4 rfl) ?_
        refine g_getk (C := RX2) (T := TX2) (N := 16) hx hb hts (mc_ inX2) hown hK g rfl 1 (by decide) rfl (hts _ (List.mem_cons_of_mem _ t_417)) (fun _ h9 => h9) 5 rfl dX2_readMemberHead_102 ?_
        refine g_geti (C := RX5) (T := TX5) (N := 9) hx hb hts (mc_ inX5) hown hK g mq1_ kq1_ (by decide) rfl 2 (by decide) rfl (hts _ (List.mem_cons_of_mem _ t_333)) (fun _ h9 => h9) rfl dX2_readMemberHead_105 (fun x_21 bx_21 g => ?_)
        refine lv_icmp_ne (tgt := 123) hx hb dX2_readMemberHead_108 (by decide) (fun c_22 => ?_) (fun c_22 => ?_)
        · have fc_22 := neq_f c_22
          refine lv_iload hx hb dX2_readMemberHead_123 (lv_at hl 0 rfl) ?_
          refine lv_iconst (v := (-1)) hx hb dX2_readMemberHead_125 (by decide) ?_
          refine lv_icmp_ne (tgt := 153) hx hb dX2_readMemberHead_126 (by decide) (fun c_23 => ?_) (fun c_23 => ?_)
          · have fc_23 := neq_f c_23
            refine lv_aload_n hx hb dX2_readMemberHead_153 rfl (lv_at hl 4 rfl) ?_
            refine lv_lload_n hx hb dX2_readMemberHead_154 rfl (lv_at hl 2 rfl) ?_
            refine lv_iload_n hx hb dX2_readMemberHead_155 rfl (lv_at hl 3 rfl) ?_
            refine lv_iload hx hb dX2_readMemberHead_156 (lv_at hl 1 rfl) ?_
            refine g_callv (va_runV (As := [.long r_6, .int r_5, .int r_7]) (rest := []) ⟨hx, hb, hml, hown, hts⟩ (r_X2_beginTelling l dC dI L kd tys fr_13 H.size g.2.2.2.1 a0_ ma0_ ka0_ r_6 r_5 r_7 b_10 q0_ mq0_ kq0_ q2_ mq2_ kq2_ q3_ mq3_ kq3_ y0_ by0_ (g.fcts [5, 7, 8, 11] rfl)) (cwV 3 hts (gV_ t_1307 t_1309 t_33 t_183 t_1310) rfl rfl rfl (by decide +kernel) ⟨(Nat.le_of_ble_eq_true rfl), (Nat.le_of_ble_eq_true rfl)⟩) (pre3V g hK ma0_ ka0_ (by decide) (q := (RX2, TX2, 16)) rfl) rfl rfl hl.1 rfl (lv_room (Nat.le_of_ble_eq_true rfl)) dX2_readMemberHead_158 ⟨(Nat.le_of_ble_eq_true rfl), (Nat.le_of_ble_eq_true rfl)⟩) g hK (by decide) (by decide) (fx' := [(5, 2, q1_, .int x_21), (7, 2, q2_, .ref a_18), (9, 9, q3_, .ref a_11), (8, 6, q0_, .int x_2), (2, 0, a0_, .ref q0_), (2, 1, a0_, .ref q1_), (2, 3, a0_, .ref q2_), (2, 4, a0_, .ref q3_), (5, 1, q1_, .ref q5_), (8, 8, q0_, .int y0_)]) rfl (fun fr_24 H locs hp hMr_24 g => ?_)
            obtain ⟨x_25, h_26, a_27, ⟨ma_27, ka_27⟩, x_28, h_29, x_30, h_31, hF_32⟩ := hp
            have g := g.more hF_32
            refine lv_aload_n hx hb dX2_readMemberHead_161 rfl (lv_at hl 4 rfl) ?_
            refine g_getk (C := RX2) (T := TX2) (N := 16) hx hb hts (mc_ inX2) hown hK g rfl 0 (by decide) rfl (hts _ (List.mem_cons_of_mem _ t_416)) (fun _ h9 => h9) 9 rfl dX2_readMemberHead_162 ?_
            refine g_callv (va_runV (As := []) (rest := []) ⟨hx, hb, hml, hown, hts⟩ (r_X8_next l dC dI L kd tys fr_24 H.size g.2.2.2.1 q0_ mq0_ kq0_) (cwV 0 hts (gV_ t_1131 t_1103 t_1104 t_184 t_1105) rfl rfl rfl (by decide +kernel) ⟨(Nat.le_of_ble_eq_true rfl), (Nat.le_of_ble_eq_true rfl)⟩) (pre3V g hK mq0_ kq0_ (by decide) (q := (RX8, TX8, 10)) rfl) rfl rfl hl.1 rfl (lv_room (Nat.le_of_ble_eq_true rfl)) dX2_readMemberHead_165 ⟨(Nat.le_of_ble_eq_true rfl), (Nat.le_of_ble_eq_true rfl)⟩) g hK (by decide) (by decide) (fx' := [(2, 6, a0_, .int 0), (9, 8, q3_, .int x_25), (2, 5, a0_, .ref a_27), (7, 3, q2_, .int x_28), (6, 12, a_27, .int x_30), (5, 2, q1_, .int x_21), (7, 2, q2_, .ref a_18), (9, 9, q3_, .ref a_11), (2, 0, a0_, .ref q0_), (2, 1, a0_, .ref q1_), (2, 3, a0_, .ref q2_), (2, 4, a0_, .ref q3_), (5, 1, q1_, .ref q5_), (8, 8, q0_, .int y0_)]) rfl (fun fr_33 H locs hp hMr_33 g => ?_)
            obtain ⟨x_34, h_35, hF_36⟩ := hp
            have g := g.more hF_36
            refine lv_aload_n hx hb dX2_readMemberHead_168 rfl (lv_at hl 4 rfl) ?_
            refine g_getk (C := RX2) (T := TX2) (N := 16) hx hb hts (mc_ inX2) hown hK g rfl 0 (by decide) rfl (hts _ (List.mem_cons_of_mem _ t_416)) (fun _ h9 => h9) 9 rfl dX2_readMemberHead_169 ?_
            refine lv_bipush (v := 40) hx hb dX2_readMemberHead_172 (by decide) ?_
            refine g_callv (va_runV (As := [.int 40]) (rest := []) ⟨hx, hb, hml, hown, hts⟩ (r_X8_take l dC dI L kd tys fr_33 H.size g.2.2.2.1 q0_ mq0_ kq0_ 40 y0_ by0_ (g.fcts [14] rfl)) (cwV 1 hts (gV_ t_1098 t_1099 t_1100 t_184 t_1101) rfl rfl rfl (by decide +kernel) ⟨(Nat.le_of_ble_eq_true rfl), (Nat.le_of_ble_eq_true rfl)⟩) (pre3V g hK mq0_ kq0_ (by decide) (q := (RX8, TX8, 10)) rfl) rfl rfl hl.1 rfl (lv_room (Nat.le_of_ble_eq_true rfl)) dX2_readMemberHead_174 ⟨(Nat.le_of_ble_eq_true rfl), (Nat.le_of_ble_eq_true rfl)⟩) g hK (by decide) (by decide) (fx' := [(2, 6, a0_, .int 0), (9, 8, q3_, .int x_25), (2, 5, a0_, .ref a_27), (7, 3, q2_, .int x_28), (6, 12, a_27, .int x_30), (5, 2, q1_, .int x_21), (7, 2, q2_, .ref a_18), (9, 9, q3_, .ref a_11), (2, 0, a0_, .ref q0_), (2, 1, a0_, .ref q1_), (2, 3, a0_, .ref q2_), (2, 4, a0_, .ref q3_), (5, 1, q1_, .ref q5_)]) rfl (fun fr_37 H locs hp hMr_37 g => ?_)
            rcases hp with ⟨x_38, h_39, hF_40⟩ | ⟨x_41, h_42, hF_43⟩
            · have g := g.more hF_40
              refine lv_aload_n hx hb dX2_readMemberHead_177 rfl (lv_at hl 4 rfl) ?_
              refine g_getk (C := RX2) (T := TX2) (N := 16) hx hb hts (mc_ inX2) hown hK g rfl 0 (by decide) rfl (hts _ (List.mem_cons_of_mem _ t_416)) (fun _ h9 => h9) 10 rfl dX2_readMemberHead_178 ?_
              refine g_calli (va_runV (As := []) (rest := []) ⟨hx, hb, hml, hown, hts⟩ (r_X8_kind l dC dI L kd tys fr_37 H.size g.2.2.2.1 q0_ mq0_ kq0_) (cwV 0 hts (gV_ t_1118 t_1119 t_1120 t_184 t_1121) rfl rfl rfl (by decide +kernel) ⟨(Nat.le_of_ble_eq_true rfl), (Nat.le_of_ble_eq_true rfl)⟩) (pre3V g hK mq0_ kq0_ (by decide) (q := (RX8, TX8, 10)) rfl) rfl rfl hl.1 rfl (lv_room (Nat.le_of_ble_eq_true rfl)) dX2_readMemberHead_181 ⟨(Nat.le_of_ble_eq_true rfl), (Nat.le_of_ble_eq_true rfl)⟩) g hK (by decide) (by decide) (fx' := [(8, 6, q0_, .int x_38), (8, 8, q0_, .int y0_), (2, 6, a0_, .int 0), (9, 8, q3_, .int x_25), (2, 5, a0_, .ref a_27), (7, 3, q2_, .int x_28), (6, 12, a_27, .int x_30), (5, 2, q1_, .int x_21), (7, 2, q2_, .ref a_18), (9, 9, q3_, .ref a_11), (2, 0, a0_, .ref q0_), (2, 1, a0_, .ref q1_), (2, 3, a0_, .ref q2_), (2, 4, a0_, .ref q3_), (5, 1, q1_, .ref q5_)]) rfl (fun r_44 fr_44 H locs hp hMr_44 g => ?_)
              refine lv_bipush (v := 41) hx hb dX2_readMemberHead_184 (by decide) ?_
              have kb_41 : bd 41 41 (41 : Int32) := ⟨by decide, by decide⟩
              refine lv_icmp_eq (tgt := 193) hx hb dX2_readMemberHead_186 (by decide) (fun c_45 => ?_) (fun c_45 => ?_)
              · have fc_45 := eq_f c_45
                have b_46 : bd 41 41 r_44 := eqX fc_45 (bdT r_44) kb_41 (by decide)
                refine lv_iconst (v := 0) hx hb dX2_readMemberHead_193 (by decide) ?_
                refine lv_istore (lv' := [(6, .int 0), (5, .int x_12), (4, .int r_7), (2, .long r_6), (1, .int r_5), (0, .ref a0_)]) hx hb dX2_readMemberHead_194 hl (by decide) rfl (fun ls hl => ?_)
                refine lv_iconst (v := 0) hx hb dX2_readMemberHead_196 (by decide) ?_
                refine lv_istore (lv' := [(7, .int 0), (6, .int 0), (5, .int x_12), (4, .int r_7), (2, .long r_6), (1, .int r_5), (0, .ref a0_)]) hx hb dX2_readMemberHead_197 hl (by decide) rfl (fun ls hl => ?_)
                refine lv_iload hx hb dX2_readMemberHead_199 (lv_at hl 0 rfl) ?_
                refine lv_iconst (v := 3) hx hb dX2_readMemberHead_201 (by decide) ?_
                refine lv_icmp_gt (tgt := 251) hx hb dX2_readMemberHead_202 (by decide) (fun c_ => absurd c_ (by decide)) (fun c_ => ?_)
                refine lv_iload hx hb dX2_readMemberHead_205 (lv_at hl 1 rfl) ?_
                refine lv_if_eq (tgt := 251) hx hb dX2_readMemberHead_207 (by decide) (fun c_ => ?_) (fun c_ => absurd (by decide) c_)
                refine lv_aload_n hx hb dX2_readMemberHead_251 rfl (lv_at hl 6 rfl) ?_
                refine g_getk (C := RX2) (T := TX2) (N := 16) hx hb hts (mc_ inX2) hown hK g rfl 0 (by decide) rfl (hts _ (List.mem_cons_of_mem _ t_416)) (fun _ h9 => h9) 10 rfl dX2_readMemberHead_252 ?_
                refine g_calli (va_runV (As := []) (rest := []) ⟨hx, hb, hml, hown, hts⟩ (r_X8_place l dC dI L kd tys fr_44 H.size g.2.2.2.1 q0_ mq0_ kq0_) (cwV 0 hts (gV_ t_1110 t_1111 t_1112 t_184 t_1113) rfl rfl rfl (by decide +kernel) ⟨(Nat.le_of_ble_eq_true rfl), (Nat.le_of_ble_eq_true rfl)⟩) (pre3V g hK mq0_ kq0_ (by decide) (q := (RX8, TX8, 10)) rfl) rfl rfl hl.1 rfl (lv_room (Nat.le_of_ble_eq_true rfl)) dX2_readMemberHead_255 ⟨(Nat.le_of_ble_eq_true rfl), (Nat.le_of_ble_eq_true rfl)⟩) g hK (by decide) (by decide) (fx' := [(8, 6, q0_, .int x_38), (8, 8, q0_, .int y0_), (2, 6, a0_, .int 0), (9, 8, q3_, .int x_25), (2, 5, a0_, .ref a_27), (7, 3, q2_, .int x_28), (6, 12, a_27, .int x_30), (5, 2, q1_, .int x_21), (7, 2, q2_, .ref a_18), (9, 9, q3_, .ref a_11), (2, 0, a0_, .ref q0_), (2, 1, a0_, .ref q1_), (2, 3, a0_, .ref q2_), (2, 4, a0_, .ref q3_), (5, 1, q1_, .ref q5_)]) rfl (fun r_47 fr_47 H locs hp hMr_47 g => ?_)
                refine lv_istore (lv' := [(7, .int r_47), (6, .int 0), (5, .int x_12), (4, .int r_7), (2, .long r_6), (1, .int r_5), (0, .ref a0_)]) hx hb dX2_readMemberHead_258 hl (by decide) rfl (fun ls hl => ?_)
                refine lv_aload_n hx hb dX2_readMemberHead_260 rfl (lv_at hl 6 rfl) ?_
                refine g_getk (C := RX2) (T := TX2) (N := 16) hx hb hts (mc_ inX2) hown hK g rfl 0 (by decide) rfl (hts _ (List.mem_cons_of_mem _ t_416)) (fun _ h9 => h9) 10 rfl dX2_readMemberHead_261 ?_
                refine lv_bipush (v := 41) hx hb dX2_readMemberHead_264 (by decide) ?_
                refine g_callv (va_runV (As := [.int 41]) (rest := []) ⟨hx, hb, hml, hown, hts⟩ (r_X8_take l dC dI L kd tys fr_47 H.size g.2.2.2.1 q0_ mq0_ kq0_ 41 y0_ by0_ (g.fcts [1] rfl)) (cwV 1 hts (gV_ t_1098 t_1099 t_1100 t_184 t_1101) rfl rfl rfl (by decide +kernel) ⟨(Nat.le_of_ble_eq_true rfl), (Nat.le_of_ble_eq_true rfl)⟩) (pre3V g hK mq0_ kq0_ (by decide) (q := (RX8, TX8, 10)) rfl) rfl rfl hl.1 rfl (lv_room (Nat.le_of_ble_eq_true rfl)) dX2_readMemberHead_266 ⟨(Nat.le_of_ble_eq_true rfl), (Nat.le_of_ble_eq_true rfl)⟩) g hK (by decide) (by decide) (fx' := [(2, 6, a0_, .int 0), (9, 8, q3_, .int x_25), (2, 5, a0_, .ref a_27), (7, 3, q2_, .int x_28), (6, 12, a_27, .int x_30), (5, 2, q1_, .int x_21), (7, 2, q2_, .ref a_18), (9, 9, q3_, .ref a_11), (2, 0, a0_, .ref q0_), (2, 1, a0_, .ref q1_), (2, 3, a0_, .ref q2_), (2, 4, a0_, .ref q3_), (5, 1, q1_, .ref q5_)]) rfl (fun fr_48 H locs hp hMr_48 g => ?_)
                rcases hp with ⟨x_49, h_50, hF_51⟩ | ⟨x_52, h_53, hF_54⟩
                · have g := g.more hF_51
                  refine lv_iload hx hb dX2_readMemberHead_269 (lv_at hl 2 rfl) ?_
                  refine lv_iconst (v := (-1)) hx hb dX2_readMemberHead_271 (by decide) ?_
                  refine lv_icmp_eq (tgt := 308) hx hb dX2_readMemberHead_272 (by decide) (fun c_55 => ?_) (fun c_55 => ?_)
                  · have fc_55 := eq_f c_55
                    exact absurd fc_55 fc_23
                  · have fc_55 := neq_f c_55
                    refine lv_aload_n hx hb dX2_readMemberHead_275 rfl (lv_at hl 6 rfl) ?_
                    refine g_getk (C := RX2) (T := TX2) (N := 16) hx hb hts (mc_ inX2) hown hK g rfl 3 (by decide) rfl (hts _ (List.mem_cons_of_mem _ t_419)) (fun _ h9 => h9) 12 rfl dX2_readMemberHead_276 ?_
                    refine g_getk (C := RX7) (T := TX7) (N := 19) hx hb hts (mc_ inX7) hown hK g rfl 2 (by decide) rfl (hts _ (List.mem_cons_of_mem _ t_630)) (fun _ h9 => h9) 8 rfl dX2_readMemberHead_279 ?_
                    refine lv_iload hx hb dX2_readMemberHead_282 (lv_at hl 2 rfl) ?_
                    refine g_aald hx hb hK g ma_18 ka_18 (by decide) rfl (by decide) (in_bd bx_12 (by decide)) dX2_readMemberHead_284 (fun a_56 ma_56 ua_56 wa_56 => ?_)
                    have ka_56 : kd a_56 = 6 := by omega
                    refine g_geti (C := RX6) (T := TX6) (N := 13) hx hb hts (mc_ inX6) hown hK g ma_56 ka_56 (by decide) rfl 3 (by decide) rfl (hts _ (List.mem_cons_of_mem _ t_568)) (fun _ h9 => h9) rfl dX2_readMemberHead_285 (fun x_57 bx_57 g => ?_)
                    refine lv_aload_n hx hb dX2_readMemberHead_288 rfl (lv_at hl 6 rfl) ?_
                    refine g_getk (C := RX2) (T := TX2) (N := 16) hx hb hts (mc_ inX2) hown hK g rfl 5 (by decide) rfl (hts _ (List.mem_cons_of_mem _ t_421)) (fun _ h9 => h9) 5 rfl dX2_readMemberHead_289 ?_
                    refine g_geti (C := RX6) (T := TX6) (N := 13) hx hb hts (mc_ inX6) hown hK g ma_27 ka_27 (by decide) rfl 3 (by decide) rfl (hts _ (List.mem_cons_of_mem _ t_568)) (fun _ h9 => h9) rfl dX2_readMemberHead_292 (fun x_58 bx_58 g => ?_)
                    refine lv_icmp_eq (tgt := 308) hx hb dX2_readMemberHead_295 (by decide) (fun c_59 => ?_) (fun c_59 => ?_)
                    · have fc_59 := eq_f c_59
                      subst hQ
                      exact W.vret hx hb hr (fun t ht hW => ⟨⟨_, rfl, Or.inl ⟨x_49, h_50, x_25, h_26, a_27, ⟨ma_27, ka_27⟩, x_28, h_29, x_30, h_31, (g.fcts [2, 3, 4, 5, 6, 7, 8] rfl)⟩, q3_of g hK ht hW⟩, g.2.2.1.F ht⟩) g.2.2.1.2.2 dX2_readMemberHead_308
                    · have fc_59 := neq_f c_59
                      refine lv_aload_n hx hb dX2_readMemberHead_298 rfl (lv_at hl 6 rfl) ?_
                      refine g_getk (C := RX2) (T := TX2) (N := 16) hx hb hts (mc_ inX2) hown hK g rfl 0 (by decide) rfl (hts _ (List.mem_cons_of_mem _ t_416)) (fun _ h9 => h9) 12 rfl dX2_readMemberHead_299 ?_
                      refine lv_iconst (v := 5) hx hb dX2_readMemberHead_302 (by decide) ?_
                      refine lv_iload hx hb dX2_readMemberHead_303 (lv_at hl 0 rfl) ?_
                      have kb_5 : bd 5 5 (5 : Int32) := ⟨by decide, by decide⟩
                      refine g_callv (va_runV (As := [.int 5, .int r_47]) (rest := []) ⟨hx, hb, hml, hown, hts⟩ (r_X8_fail l dC dI L kd tys fr_48 H.size g.2.2.2.1 q0_ mq0_ kq0_ 5 (bd_sub kb_5 (by decide)) r_47 y0_ by0_ (g.fcts [3] rfl)) (cwV 2 hts (gV_ t_1122 t_1107 t_1108 t_184 t_1109) rfl rfl rfl (by decide +kernel) ⟨(Nat.le_of_ble_eq_true rfl), (Nat.le_of_ble_eq_true rfl)⟩) (pre3V g hK mq0_ kq0_ (by decide) (q := (RX8, TX8, 10)) rfl) rfl rfl hl.1 rfl (lv_room (Nat.le_of_ble_eq_true rfl)) dX2_readMemberHead_305 ⟨(Nat.le_of_ble_eq_true rfl), (Nat.le_of_ble_eq_true rfl)⟩) g hK (by decide) (by decide) (fx' := [(6, 3, a_27, .int x_58), (6, 3, a_56, .int x_57), (2, 6, a0_, .int 0), (9, 8, q3_, .int x_25), (2, 5, a0_, .ref a_27), (7, 3, q2_, .int x_28), (6, 12, a_27, .int x_30), (5, 2, q1_, .int x_21), (7, 2, q2_, .ref a_18), (9, 9, q3_, .ref a_11), (2, 0, a0_, .ref q0_), (2, 1, a0_, .ref q1_), (2, 3, a0_, .ref q2_), (2, 4, a0_, .ref q3_), (5, 1, q1_, .ref q5_)]) rfl (fun fr_60 H locs hp hMr_60 g => ?_)
                      obtain ⟨x_61, h_62, hF_63⟩ := hp
                      have g := g.more hF_63
                      have kb_1201 : bd 1201 1201 (1201 : Int32) := ⟨by decide, by decide⟩
                      subst hQ
                      exact W.vret hx hb hr (fun t ht hW => ⟨⟨_, rfl, Or.inr (⟨1201, kb_1201, x_61, h_62, a_27, ⟨ma_27, ka_27⟩, (g.fcts [0, 1, 6] rfl)⟩), q3_of g hK ht hW⟩, g.2.2.1.F ht⟩) g.2.2.1.2.2 dX2_readMemberHead_308
                · have g := g.more hF_54
                  refine lv_iload hx hb dX2_readMemberHead_269 (lv_at hl 2 rfl) ?_
                  refine lv_iconst (v := (-1)) hx hb dX2_readMemberHead_271 (by decide) ?_
                  refine lv_icmp_eq (tgt := 308) hx hb dX2_readMemberHead_272 (by decide) (fun c_64 => ?_) (fun c_64 => ?_)
                  · have fc_64 := eq_f c_64
                    exact absurd fc_64 fc_23
                  · have fc_64 := neq_f c_64
                    refine lv_aload_n hx hb dX2_readMemberHead_275 rfl (lv_at hl 6 rfl) ?_
                    refine g_getk (C := RX2) (T := TX2) (N := 16) hx hb hts (mc_ inX2) hown hK g rfl 3 (by decide) rfl (hts _ (List.mem_cons_of_mem _ t_419)) (fun _ h9 => h9) 12 rfl dX2_readMemberHead_276 ?_
                    refine g_getk (C := RX7) (T := TX7) (N := 19) hx hb hts (mc_ inX7) hown hK g rfl 2 (by decide) rfl (hts _ (List.mem_cons_of_mem _ t_630)) (fun _ h9 => h9) 8 rfl dX2_readMemberHead_279 ?_
                    refine lv_iload hx hb dX2_readMemberHead_282 (lv_at hl 2 rfl) ?_
                    refine g_aald hx hb hK g ma_18 ka_18 (by decide) rfl (by decide) (in_bd bx_12 (by decide)) dX2_readMemberHead_284 (fun a_65 ma_65 ua_65 wa_65 => ?_)
                    have ka_65 : kd a_65 = 6 := by omega
                    refine g_geti (C := RX6) (T := TX6) (N := 13) hx hb hts (mc_ inX6) hown hK g ma_65 ka_65 (by decide) rfl 3 (by decide) rfl (hts _ (List.mem_cons_of_mem _ t_568)) (fun _ h9 => h9) rfl dX2_readMemberHead_285 (fun x_66 bx_66 g => ?_)
                    refine lv_aload_n hx hb dX2_readMemberHead_288 rfl (lv_at hl 6 rfl) ?_
                    refine g_getk (C := RX2) (T := TX2) (N := 16) hx hb hts (mc_ inX2) hown hK g rfl 5 (by decide) rfl (hts _ (List.mem_cons_of_mem _ t_421)) (fun _ h9 => h9) 5 rfl dX2_readMemberHead_289 ?_
                    refine g_geti (C := RX6) (T := TX6) (N := 13) hx hb hts (mc_ inX6) hown hK g ma_27 ka_27 (by decide) rfl 3 (by decide) rfl (hts _ (List.mem_cons_of_mem _ t_568)) (fun _ h9 => h9) rfl dX2_readMemberHead_292 (fun x_67 bx_67 g => ?_)
                    refine lv_icmp_eq (tgt := 308) hx hb dX2_readMemberHead_295 (by decide) (fun c_68 => ?_) (fun c_68 => ?_)
                    · have fc_68 := eq_f c_68
                      have kb_1201 : bd 1201 1201 (1201 : Int32) := ⟨by decide, by decide⟩
                      subst hQ
                      exact W.vret hx hb hr (fun t ht hW => ⟨⟨_, rfl, Or.inr (⟨1201, kb_1201, x_52, h_53, a_27, ⟨ma_27, ka_27⟩, (g.fcts [2, 3, 6] rfl)⟩), q3_of g hK ht hW⟩, g.2.2.1.F ht⟩) g.2.2.1.2.2 dX2_readMemberHead_308
                    · have fc_68 := neq_f c_68
                      refine lv_aload_n hx hb dX2_readMemberHead_298 rfl (lv_at hl 6 rfl) ?_
                      refine g_getk (C := RX2) (T := TX2) (N := 16) hx hb hts (mc_ inX2) hown hK g rfl 0 (by decide) rfl (hts _ (List.mem_cons_of_mem _ t_416)) (fun _ h9 => h9) 12 rfl dX2_readMemberHead_299 ?_
                      refine lv_iconst (v := 5) hx hb dX2_readMemberHead_302 (by decide) ?_
                      refine lv_iload hx hb dX2_readMemberHead_303 (lv_at hl 0 rfl) ?_
                      have kb_5 : bd 5 5 (5 : Int32) := ⟨by decide, by decide⟩
                      refine g_callv (va_runV (As := [.int 5, .int r_47]) (rest := []) ⟨hx, hb, hml, hown, hts⟩ (r_X8_fail_2 l dC dI L kd tys fr_48 H.size g.2.2.2.1 q0_ mq0_ kq0_ 5 (bd_sub kb_5 (by decide)) r_47 x_52 h_53 (g.fcts [3] rfl)) (cwV 2 hts (gV_ t_1122 t_1107 t_1108 t_184 t_1109) rfl rfl rfl (by decide +kernel) ⟨(Nat.le_of_ble_eq_true rfl), (Nat.le_of_ble_eq_true rfl)⟩) (pre3V g hK mq0_ kq0_ (by decide) (q := (RX8, TX8, 10)) rfl) rfl rfl hl.1 rfl (lv_room (Nat.le_of_ble_eq_true rfl)) dX2_readMemberHead_305 ⟨(Nat.le_of_ble_eq_true rfl), (Nat.le_of_ble_eq_true rfl)⟩) g hK (by decide) (by decide) (fx' := [(6, 3, a_27, .int x_67), (6, 3, a_65, .int x_66), (8, 8, q0_, .int x_52), (2, 6, a0_, .int 0), (9, 8, q3_, .int x_25), (2, 5, a0_, .ref a_27), (7, 3, q2_, .int x_28), (6, 12, a_27, .int x_30), (5, 2, q1_, .int x_21), (7, 2, q2_, .ref a_18), (9, 9, q3_, .ref a_11), (2, 0, a0_, .ref q0_), (2, 1, a0_, .ref q1_), (2, 3, a0_, .ref q2_), (2, 4, a0_, .ref q3_), (5, 1, q1_, .ref q5_)]) rfl (fun fr_69 H locs hp hMr_69 g => ?_)
                      have hF_70 := hp
                      have g := g.more hF_70
                      have kb_1201 : bd 1201 1201 (1201 : Int32) := ⟨by decide, by decide⟩
                      subst hQ
                      exact W.vret hx hb hr (fun t ht hW => ⟨⟨_, rfl, Or.inr (⟨1201, kb_1201, x_52, h_53, a_27, ⟨ma_27, ka_27⟩, (g.fcts [0, 3, 6] rfl)⟩), q3_of g hK ht hW⟩, g.2.2.1.F ht⟩) g.2.2.1.2.2 dX2_readMemberHead_308
              · have fc_45 := neq_f c_45
                refine lv_iconst (v := 1) hx hb dX2_readMemberHead_189 (by decide) ?_
                refine lv_goto (tgt := 194) hx hb dX2_readMemberHead_190 (by decide) ?_
                refine lv_istore (lv' := [(6, .int 1), (5, .int x_12), (4, .int r_7), (2, .long r_6), (1, .int r_5), (0, .ref a0_)]) hx hb dX2_readMemberHead_194 hl (by decide) rfl (fun ls hl => ?_)
                refine lv_iconst (v := 0) hx hb dX2_readMemberHead_196 (by decide) ?_
                refine lv_istore (lv' := [(7, .int 0), (6, .int 1), (5, .int x_12), (4, .int r_7), (2, .long r_6), (1, .int r_5), (0, .ref a0_)]) hx hb dX2_readMemberHead_197 hl (by decide) rfl (fun ls hl => ?_)
                have loop_71 : ∀ (n : Nat) (v199_7 : Int32) (v199_6 : Int32) (w199_8_6_q0_ : Int32), bd 0 4 v199_7 → bd 0 1 v199_6 → bd 1 1201 w199_8_6_q0_ → (4 - v199_7.toInt < (n : Int)) → ∀ (f : Nat → va_E) (H : Heap) (locs : List Loc) (ls : Array Slot), G3 (dC, dI) L kd tys s f0 [(2, 5), (2, 6), (5, 4), (6, 0), (6, 1), (6, 2), (6, 3), (6, 6), (6, 7), (6, 8), (6, 9), (6, 10), (6, 11), (6, 12), (7, 3), (8, 6), (8, 8), (8, 9), (9, 8)] [132, 134, 135, 156] f H locs [(8, 6, q0_, .int w199_8_6_q0_), (8, 8, q0_, .int y0_), (2, 6, a0_, .int 0), (9, 8, q3_, .int x_25), (2, 5, a0_, .ref a_27), (7, 3, q2_, .int x_28), (6, 12, a_27, .int x_30), (5, 2, q1_, .int x_21), (7, 2, q2_, .ref a_18), (9, 9, q3_, .ref a_11), (2, 0, a0_, .ref q0_), (2, 1, a0_, .ref q1_), (2, 3, a0_, .ref q2_), (2, 4, a0_, .ref q3_), (5, 1, q1_, .ref q5_)] → lv_has ls 8 [(7, .int v199_7), (6, .int v199_6), (5, .int x_12), (4, .int r_7), (2, .long r_6), (1, .int r_5), (0, .ref a0_)] → W p l e ({ frames := 3, cells := 0, slots := 0, locals := 72 } : Room) s m [.ref a0_].toArray below meth c H locs 0 0 Q (F0 m 199 ls []) := by
                  intro n199
                  induction n199 with
                  | zero =>
                    intro v199_7 v199_6 w199_8_6_q0_ bv199_7 bv199_6 bw199_8_6_q0_ hm199 f H locs ls g  hl
                    exact absurd hm199 (by have h9_v199_7 := bv199_7; unfold bd at h9_v199_7; have h9_v199_6 := bv199_6; unfold bd at h9_v199_6; have h9_w199_8_6_q0_ := bw199_8_6_q0_; unfold bd at h9_w199_8_6_q0_; omega)
                  | succ n199 ih199 =>
                    intro v199_7 v199_6 w199_8_6_q0_ bv199_7 bv199_6 bw199_8_6_q0_ hm199 f H locs ls g  hl
                    refine lv_iload hx hb dX2_readMemberHead_199 (lv_at hl 0 rfl) ?_
                    refine lv_iconst (v := 3) hx hb dX2_readMemberHead_201 (by decide) ?_
                    refine lv_icmp_gt (tgt := 251) hx hb dX2_readMemberHead_202 (by decide) (fun c_72 => ?_) (fun c_72 => ?_)
                    · have fc_72 := lt_f c_72
                      have b_73 : bd 4 4 v199_7 := ltR fc_72 kb_3 bv199_7 (by decide)
                      refine lv_aload_n hx hb dX2_readMemberHead_251 rfl (lv_at hl 6 rfl) ?_
                      refine g_getk (C := RX2) (T := TX2) (N := 16) hx hb hts (mc_ inX2) hown hK g rfl 0 (by decide) rfl (hts _ (List.mem_cons_of_mem _ t_416)) (fun _ h9 => h9) 10 rfl dX2_readMemberHead_252 ?_
                      refine g_calli (va_runV (As := []) (rest := []) ⟨hx, hb, hml, hown, hts⟩ (r_X8_place l dC dI L kd tys f H.size g.2.2.2.1 q0_ mq0_ kq0_) (cwV 0 hts (gV_ t_1110 t_1111 t_1112 t_184 t_1113) rfl rfl rfl (by decide +kernel) ⟨(Nat.le_of_ble_eq_true rfl), (Nat.le_of_ble_eq_true rfl)⟩) (pre3V g hK mq0_ kq0_ (by decide) (q := (RX8, TX8, 10)) rfl) rfl rfl hl.1 rfl (lv_room (Nat.le_of_ble_eq_true rfl)) dX2_readMemberHead_255 ⟨(Nat.le_of_ble_eq_true rfl), (Nat.le_of_ble_eq_true rfl)⟩) g hK (by decide) (by decide) (fx' := [(8, 6, q0_, .int w199_8_6_q0_), (8, 8, q0_, .int y0_), (2, 6, a0_, .int 0), (9, 8, q3_, .int x_25), (2, 5, a0_, .ref a_27), (7, 3, q2_, .int x_28), (6, 12, a_27, .int x_30), (5, 2, q1_, .int x_21), (7, 2, q2_, .ref a_18), (9, 9, q3_, .ref a_11), (2, 0, a0_, .ref q0_), (2, 1, a0_, .ref q1_), (2, 3, a0_, .ref q2_), (2, 4, a0_, .ref q3_), (5, 1, q1_, .ref q5_)]) rfl (fun r_74 fr_74 H locs hp hMr_74 g => ?_)
                      refine lv_istore (lv' := [(7, .int r_74), (6, .int v199_6), (5, .int x_12), (4, .int r_7), (2, .long r_6), (1, .int r_5), (0, .ref a0_)]) hx hb dX2_readMemberHead_258 hl (by decide) rfl (fun ls hl => ?_)
                      refine lv_aload_n hx hb dX2_readMemberHead_260 rfl (lv_at hl 6 rfl) ?_
                      refine g_getk (C := RX2) (T := TX2) (N := 16) hx hb hts (mc_ inX2) hown hK g rfl 0 (by decide) rfl (hts _ (List.mem_cons_of_mem _ t_416)) (fun _ h9 => h9) 10 rfl dX2_readMemberHead_261 ?_
                      refine lv_bipush (v := 41) hx hb dX2_readMemberHead_264 (by decide) ?_
                      refine g_callv (va_runV (As := [.int 41]) (rest := []) ⟨hx, hb, hml, hown, hts⟩ (r_X8_take l dC dI L kd tys fr_74 H.size g.2.2.2.1 q0_ mq0_ kq0_ 41 y0_ by0_ (g.fcts [1] rfl)) (cwV 1 hts (gV_ t_1098 t_1099 t_1100 t_184 t_1101) rfl rfl rfl (by decide +kernel) ⟨(Nat.le_of_ble_eq_true rfl), (Nat.le_of_ble_eq_true rfl)⟩) (pre3V g hK mq0_ kq0_ (by decide) (q := (RX8, TX8, 10)) rfl) rfl rfl hl.1 rfl (lv_room (Nat.le_of_ble_eq_true rfl)) dX2_readMemberHead_266 ⟨(Nat.le_of_ble_eq_true rfl), (Nat.le_of_ble_eq_true rfl)⟩) g hK (by decide) (by decide) (fx' := [(2, 6, a0_, .int 0), (9, 8, q3_, .int x_25), (2, 5, a0_, .ref a_27), (7, 3, q2_, .int x_28), (6, 12, a_27, .int x_30), (5, 2, q1_, .int x_21), (7, 2, q2_, .ref a_18), (9, 9, q3_, .ref a_11), (2, 0, a0_, .ref q0_), (2, 1, a0_, .ref q1_), (2, 3, a0_, .ref q2_), (2, 4, a0_, .ref q3_), (5, 1, q1_, .ref q5_)]) rfl (fun fr_75 H locs hp hMr_75 g => ?_)
                      rcases hp with ⟨x_76, h_77, hF_78⟩ | ⟨x_79, h_80, hF_81⟩
                      · have g := g.more hF_78
                        refine lv_iload hx hb dX2_readMemberHead_269 (lv_at hl 2 rfl) ?_
                        refine lv_iconst (v := (-1)) hx hb dX2_readMemberHead_271 (by decide) ?_
                        refine lv_icmp_eq (tgt := 308) hx hb dX2_readMemberHead_272 (by decide) (fun c_82 => ?_) (fun c_82 => ?_)
                        · have fc_82 := eq_f c_82
                          exact absurd fc_82 fc_23
                        · have fc_82 := neq_f c_82
                          refine lv_aload_n hx hb dX2_readMemberHead_275 rfl (lv_at hl 6 rfl) ?_
                          refine g_getk (C := RX2) (T := TX2) (N := 16) hx hb hts (mc_ inX2) hown hK g rfl 3 (by decide) rfl (hts _ (List.mem_cons_of_mem _ t_419)) (fun _ h9 => h9) 12 rfl dX2_readMemberHead_276 ?_
                          refine g_getk (C := RX7) (T := TX7) (N := 19) hx hb hts (mc_ inX7) hown hK g rfl 2 (by decide) rfl (hts _ (List.mem_cons_of_mem _ t_630)) (fun _ h9 => h9) 8 rfl dX2_readMemberHead_279 ?_
                          refine lv_iload hx hb dX2_readMemberHead_282 (lv_at hl 2 rfl) ?_
                          refine g_aald hx hb hK g ma_18 ka_18 (by decide) rfl (by decide) (in_bd bx_12 (by decide)) dX2_readMemberHead_284 (fun a_83 ma_83 ua_83 wa_83 => ?_)
                          have ka_83 : kd a_83 = 6 := by omega
                          refine g_geti (C := RX6) (T := TX6) (N := 13) hx hb hts (mc_ inX6) hown hK g ma_83 ka_83 (by decide) rfl 3 (by decide) rfl (hts _ (List.mem_cons_of_mem _ t_568)) (fun _ h9 => h9) rfl dX2_readMemberHead_285 (fun x_84 bx_84 g => ?_)
                          refine lv_aload_n hx hb dX2_readMemberHead_288 rfl (lv_at hl 6 rfl) ?_
                          refine g_getk (C := RX2) (T := TX2) (N := 16) hx hb hts (mc_ inX2) hown hK g rfl 5 (by decide) rfl (hts _ (List.mem_cons_of_mem _ t_421)) (fun _ h9 => h9) 5 rfl dX2_readMemberHead_289 ?_
                          refine g_geti (C := RX6) (T := TX6) (N := 13) hx hb hts (mc_ inX6) hown hK g ma_27 ka_27 (by decide) rfl 3 (by decide) rfl (hts _ (List.mem_cons_of_mem _ t_568)) (fun _ h9 => h9) rfl dX2_readMemberHead_292 (fun x_85 bx_85 g => ?_)
                          refine lv_icmp_eq (tgt := 308) hx hb dX2_readMemberHead_295 (by decide) (fun c_86 => ?_) (fun c_86 => ?_)
                          · have fc_86 := eq_f c_86
                            subst hQ
                            exact W.vret hx hb hr (fun t ht hW => ⟨⟨_, rfl, Or.inl ⟨x_76, h_77, x_25, h_26, a_27, ⟨ma_27, ka_27⟩, x_28, h_29, x_30, h_31, (g.fcts [2, 3, 4, 5, 6, 7, 8] rfl)⟩, q3_of g hK ht hW⟩, g.2.2.1.F ht⟩) g.2.2.1.2.2 dX2_readMemberHead_308
                          · have fc_86 := neq_f c_86
                            refine lv_aload_n hx hb dX2_readMemberHead_298 rfl (lv_at hl 6 rfl) ?_
                            refine g_getk (C := RX2) (T := TX2) (N := 16) hx hb hts (mc_ inX2) hown hK g rfl 0 (by decide) rfl (hts _ (List.mem_cons_of_mem _ t_416)) (fun _ h9 => h9) 12 rfl dX2_readMemberHead_299 ?_
                            refine lv_iconst (v := 5) hx hb dX2_readMemberHead_302 (by decide) ?_
                            refine lv_iload hx hb dX2_readMemberHead_303 (lv_at hl 0 rfl) ?_
                            have kb_5 : bd 5 5 (5 : Int32) := ⟨by decide, by decide⟩
                            refine g_callv (va_runV (As := [.int 5, .int r_74]) (rest := []) ⟨hx, hb, hml, hown, hts⟩ (r_X8_fail l dC dI L kd tys fr_75 H.size g.2.2.2.1 q0_ mq0_ kq0_ 5 (bd_sub kb_5 (by decide)) r_74 y0_ by0_ (g.fcts [3] rfl)) (cwV 2 hts (gV_ t_1122 t_1107 t_1108 t_184 t_1109) rfl rfl rfl (by decide +kernel) ⟨(Nat.le_of_ble_eq_true rfl), (Nat.le_of_ble_eq_true rfl)⟩) (pre3V g hK mq0_ kq0_ (by decide) (q := (RX8, TX8, 10)) rfl) rfl rfl hl.1 rfl (lv_room (Nat.le_of_ble_eq_true rfl)) dX2_readMemberHead_305 ⟨(Nat.le_of_ble_eq_true rfl), (Nat.le_of_ble_eq_true rfl)⟩) g hK (by decide) (by decide) (fx' := [(6, 3, a_27, .int x_85), (6, 3, a_83, .int x_84), (2, 6, a0_, .int 0), (9, 8, q3_, .int x_25), (2, 5, a0_, .ref a_27), (7, 3, q2_, .int x_28), (6, 12, a_27, .int x_30), (5, 2, q1_, .int x_21), (7, 2, q2_, .ref a_18), (9, 9, q3_, .ref a_11), (2, 0, a0_, .ref q0_), (2, 1, a0_, .ref q1_), (2, 3, a0_, .ref q2_), (2, 4, a0_, .ref q3_), (5, 1, q1_, .ref q5_)]) rfl (fun fr_87 H locs hp hMr_87 g => ?_)
                            obtain ⟨x_88, h_89, hF_90⟩ := hp
                            have g := g.more hF_90
                            have kb_1201 : bd 1201 1201 (1201 : Int32) := ⟨by decide, by decide⟩
                            subst hQ
                            exact W.vret hx hb hr (fun t ht hW => ⟨⟨_, rfl, Or.inr (⟨1201, kb_1201, x_88, h_89, a_27, ⟨ma_27, ka_27⟩, (g.fcts [0, 1, 6] rfl)⟩), q3_of g hK ht hW⟩, g.2.2.1.F ht⟩) g.2.2.1.2.2 dX2_readMemberHead_308
                      · have g := g.more hF_81
                        refine lv_iload hx hb dX2_readMemberHead_269 (lv_at hl 2 rfl) ?_
                        refine lv_iconst (v := (-1)) hx hb dX2_readMemberHead_271 (by decide) ?_
                        refine lv_icmp_eq (tgt := 308) hx hb dX2_readMemberHead_272 (by decide) (fun c_91 => ?_) (fun c_91 => ?_)
                        · have fc_91 := eq_f c_91
                          exact absurd fc_91 fc_23
                        · have fc_91 := neq_f c_91
                          refine lv_aload_n hx hb dX2_readMemberHead_275 rfl (lv_at hl 6 rfl) ?_
                          refine g_getk (C := RX2) (T := TX2) (N := 16) hx hb hts (mc_ inX2) hown hK g rfl 3 (by decide) rfl (hts _ (List.mem_cons_of_mem _ t_419)) (fun _ h9 => h9) 12 rfl dX2_readMemberHead_276 ?_
                          refine g_getk (C := RX7) (T := TX7) (N := 19) hx hb hts (mc_ inX7) hown hK g rfl 2 (by decide) rfl (hts _ (List.mem_cons_of_mem _ t_630)) (fun _ h9 => h9) 8 rfl dX2_readMemberHead_279 ?_
                          refine lv_iload hx hb dX2_readMemberHead_282 (lv_at hl 2 rfl) ?_
                          refine g_aald hx hb hK g ma_18 ka_18 (by decide) rfl (by decide) (in_bd bx_12 (by decide)) dX2_readMemberHead_284 (fun a_92 ma_92 ua_92 wa_92 => ?_)
                          have ka_92 : kd a_92 = 6 := by omega
                          refine g_geti (C := RX6) (T := TX6) (N := 13) hx hb hts (mc_ inX6) hown hK g ma_92 ka_92 (by decide) rfl 3 (by decide) rfl (hts _ (List.mem_cons_of_mem _ t_568)) (fun _ h9 => h9) rfl dX2_readMemberHead_285 (fun x_93 bx_93 g => ?_)
                          refine lv_aload_n hx hb dX2_readMemberHead_288 rfl (lv_at hl 6 rfl) ?_
                          refine g_getk (C := RX2) (T := TX2) (N := 16) hx hb hts (mc_ inX2) hown hK g rfl 5 (by decide) rfl (hts _ (List.mem_cons_of_mem _ t_421)) (fun _ h9 => h9) 5 rfl dX2_readMemberHead_289 ?_
                          refine g_geti (C := RX6) (T := TX6) (N := 13) hx hb hts (mc_ inX6) hown hK g ma_27 ka_27 (by decide) rfl 3 (by decide) rfl (hts _ (List.mem_cons_of_mem _ t_568)) (fun _ h9 => h9) rfl dX2_readMemberHead_292 (fun x_94 bx_94 g => ?_)
                          refine lv_icmp_eq (tgt := 308) hx hb dX2_readMemberHead_295 (by decide) (fun c_95 => ?_) (fun c_95 => ?_)
                          · have fc_95 := eq_f c_95
                            have kb_1201 : bd 1201 1201 (1201 : Int32) := ⟨by decide, by decide⟩
                            subst hQ
                            exact W.vret hx hb hr (fun t ht hW => ⟨⟨_, rfl, Or.inr (⟨1201, kb_1201, x_79, h_80, a_27, ⟨ma_27, ka_27⟩, (g.fcts [2, 3, 6] rfl)⟩), q3_of g hK ht hW⟩, g.2.2.1.F ht⟩) g.2.2.1.2.2 dX2_readMemberHead_308
                          · have fc_95 := neq_f c_95
                            refine lv_aload_n hx hb dX2_readMemberHead_298 rfl (lv_at hl 6 rfl) ?_
                            refine g_getk (C := RX2) (T := TX2) (N := 16) hx hb hts (mc_ inX2) hown hK g rfl 0 (by decide) rfl (hts _ (List.mem_cons_of_mem _ t_416)) (fun _ h9 => h9) 12 rfl dX2_readMemberHead_299 ?_
                            refine lv_iconst (v := 5) hx hb dX2_readMemberHead_302 (by decide) ?_
                            refine lv_iload hx hb dX2_readMemberHead_303 (lv_at hl 0 rfl) ?_
                            have kb_5 : bd 5 5 (5 : Int32) := ⟨by decide, by decide⟩
                            refine g_callv (va_runV (As := [.int 5, .int r_74]) (rest := []) ⟨hx, hb, hml, hown, hts⟩ (r_X8_fail_2 l dC dI L kd tys fr_75 H.size g.2.2.2.1 q0_ mq0_ kq0_ 5 (bd_sub kb_5 (by decide)) r_74 x_79 h_80 (g.fcts [3] rfl)) (cwV 2 hts (gV_ t_1122 t_1107 t_1108 t_184 t_1109) rfl rfl rfl (by decide +kernel) ⟨(Nat.le_of_ble_eq_true rfl), (Nat.le_of_ble_eq_true rfl)⟩) (pre3V g hK mq0_ kq0_ (by decide) (q := (RX8, TX8, 10)) rfl) rfl rfl hl.1 rfl (lv_room (Nat.le_of_ble_eq_true rfl)) dX2_readMemberHead_305 ⟨(Nat.le_of_ble_eq_true rfl), (Nat.le_of_ble_eq_true rfl)⟩) g hK (by decide) (by decide) (fx' := [(6, 3, a_27, .int x_94), (6, 3, a_92, .int x_93), (8, 8, q0_, .int x_79), (2, 6, a0_, .int 0), (9, 8, q3_, .int x_25), (2, 5, a0_, .ref a_27), (7, 3, q2_, .int x_28), (6, 12, a_27, .int x_30), (5, 2, q1_, .int x_21), (7, 2, q2_, .ref a_18), (9, 9, q3_, .ref a_11), (2, 0, a0_, .ref q0_), (2, 1, a0_, .ref q1_), (2, 3, a0_, .ref q2_), (2, 4, a0_, .ref q3_), (5, 1, q1_, .ref q5_)]) rfl (fun fr_96 H locs hp hMr_96 g => ?_)
                            have hF_97 := hp
                            have g := g.more hF_97
                            have kb_1201 : bd 1201 1201 (1201 : Int32) := ⟨by decide, by decide⟩
                            subst hQ
                            exact W.vret hx hb hr (fun t ht hW => ⟨⟨_, rfl, Or.inr (⟨1201, kb_1201, x_79, h_80, a_27, ⟨ma_27, ka_27⟩, (g.fcts [0, 3, 6] rfl)⟩), q3_of g hK ht hW⟩, g.2.2.1.F ht⟩) g.2.2.1.2.2 dX2_readMemberHead_308
                    · have fc_72 := nlt_f c_72
                      have b_98 : bd 0 3 v199_7 := leL fc_72 bv199_7 kb_3 (by decide)
                      refine lv_iload hx hb dX2_readMemberHead_205 (lv_at hl 1 rfl) ?_
                      have kb_0 : bd 0 0 (0 : Int32) := ⟨by decide, by decide⟩
                      refine lv_if_eq (tgt := 251) hx hb dX2_readMemberHead_207 (by decide) (fun c_99 => ?_) (fun c_99 => ?_)
                      · have fc_99 := eq_f c_99
                        have b_100 : bd 0 0 v199_6 := eqX fc_99 bv199_6 kb_0 (by decide)
                        refine lv_aload_n hx hb dX2_readMemberHead_251 rfl (lv_at hl 6 rfl) ?_
                        refine g_getk (C := RX2) (T := TX2) (N := 16) hx hb hts (mc_ inX2) hown hK g rfl 0 (by decide) rfl (hts _ (List.mem_cons_of_mem _ t_416)) (fun _ h9 => h9) 10 rfl dX2_readMemberHead_252 ?_
                        refine g_calli (va_runV (As := []) (rest := []) ⟨hx, hb, hml, hown, hts⟩ (r_X8_place l dC dI L kd tys f H.size g.2.2.2.1 q0_ mq0_ kq0_) (cwV 0 hts (gV_ t_1110 t_1111 t_1112 t_184 t_1113) rfl rfl rfl (by decide +kernel) ⟨(Nat.le_of_ble_eq_true rfl), (Nat.le_of_ble_eq_true rfl)⟩) (pre3V g hK mq0_ kq0_ (by decide) (q := (RX8, TX8, 10)) rfl) rfl rfl hl.1 rfl (lv_room (Nat.le_of_ble_eq_true rfl)) dX2_readMemberHead_255 ⟨(Nat.le_of_ble_eq_true rfl), (Nat.le_of_ble_eq_true rfl)⟩) g hK (by decide) (by decide) (fx' := [(8, 6, q0_, .int w199_8_6_q0_), (8, 8, q0_, .int y0_), (2, 6, a0_, .int 0), (9, 8, q3_, .int x_25), (2, 5, a0_, .ref a_27), (7, 3, q2_, .int x_28), (6, 12, a_27, .int x_30), (5, 2, q1_, .int x_21), (7, 2, q2_, .ref a_18), (9, 9, q3_, .ref a_11), (2, 0, a0_, .ref q0_), (2, 1, a0_, .ref q1_), (2, 3, a0_, .ref q2_), (2, 4, a0_, .ref q3_), (5, 1, q1_, .ref q5_)]) rfl (fun r_101 fr_101 H locs hp hMr_101 g => ?_)
                        refine lv_istore (lv' := [(7, .int r_101), (6, .int v199_6), (5, .int x_12), (4, .int r_7), (2, .long r_6), (1, .int r_5), (0, .ref a0_)]) hx hb dX2_readMemberHead_258 hl (by decide) rfl (fun ls hl => ?_)
                        refine lv_aload_n hx hb dX2_readMemberHead_260 rfl (lv_at hl 6 rfl) ?_
                        refine g_getk (C := RX2) (T := TX2) (N := 16) hx hb hts (mc_ inX2) hown hK g rfl 0 (by decide) rfl (hts _ (List.mem_cons_of_mem _ t_416)) (fun _ h9 => h9) 10 rfl dX2_readMemberHead_261 ?_
                        refine lv_bipush (v := 41) hx hb dX2_readMemberHead_264 (by decide) ?_
                        refine g_callv (va_runV (As := [.int 41]) (rest := []) ⟨hx, hb, hml, hown, hts⟩ (r_X8_take l dC dI L kd tys fr_101 H.size g.2.2.2.1 q0_ mq0_ kq0_ 41 y0_ by0_ (g.fcts [1] rfl)) (cwV 1 hts (gV_ t_1098 t_1099 t_1100 t_184 t_1101) rfl rfl rfl (by decide +kernel) ⟨(Nat.le_of_ble_eq_true rfl), (Nat.le_of_ble_eq_true rfl)⟩) (pre3V g hK mq0_ kq0_ (by decide) (q := (RX8, TX8, 10)) rfl) rfl rfl hl.1 rfl (lv_room (Nat.le_of_ble_eq_true rfl)) dX2_readMemberHead_266 ⟨(Nat.le_of_ble_eq_true rfl), (Nat.le_of_ble_eq_true rfl)⟩) g hK (by decide) (by decide) (fx' := [(2, 6, a0_, .int 0), (9, 8, q3_, .int x_25), (2, 5, a0_, .ref a_27), (7, 3, q2_, .int x_28), (6, 12, a_27, .int x_30), (5, 2, q1_, .int x_21), (7, 2, q2_, .ref a_18), (9, 9, q3_, .ref a_11), (2, 0, a0_, .ref q0_), (2, 1, a0_, .ref q1_), (2, 3, a0_, .ref q2_), (2, 4, a0_, .ref q3_), (5, 1, q1_, .ref q5_)]) rfl (fun fr_102 H locs hp hMr_102 g => ?_)
                        rcases hp with ⟨x_103, h_104, hF_105⟩ | ⟨x_106, h_107, hF_108⟩
                        · have g := g.more hF_105
                          refine lv_iload hx hb dX2_readMemberHead_269 (lv_at hl 2 rfl) ?_
                          refine lv_iconst (v := (-1)) hx hb dX2_readMemberHead_271 (by decide) ?_
                          refine lv_icmp_eq (tgt := 308) hx hb dX2_readMemberHead_272 (by decide) (fun c_109 => ?_) (fun c_109 => ?_)
                          · have fc_109 := eq_f c_109
                            exact absurd fc_109 fc_23
                          · have fc_109 := neq_f c_109
                            refine lv_aload_n hx hb dX2_readMemberHead_275 rfl (lv_at hl 6 rfl) ?_
                            refine g_getk (C := RX2) (T := TX2) (N := 16) hx hb hts (mc_ inX2) hown hK g rfl 3 (by decide) rfl (hts _ (List.mem_cons_of_mem _ t_419)) (fun _ h9 => h9) 12 rfl dX2_readMemberHead_276 ?_
                            refine g_getk (C := RX7) (T := TX7) (N := 19) hx hb hts (mc_ inX7) hown hK g rfl 2 (by decide) rfl (hts _ (List.mem_cons_of_mem _ t_630)) (fun _ h9 => h9) 8 rfl dX2_readMemberHead_279 ?_
                            refine lv_iload hx hb dX2_readMemberHead_282 (lv_at hl 2 rfl) ?_
                            refine g_aald hx hb hK g ma_18 ka_18 (by decide) rfl (by decide) (in_bd bx_12 (by decide)) dX2_readMemberHead_284 (fun a_110 ma_110 ua_110 wa_110 => ?_)
                            have ka_110 : kd a_110 = 6 := by omega
                            refine g_geti (C := RX6) (T := TX6) (N := 13) hx hb hts (mc_ inX6) hown hK g ma_110 ka_110 (by decide) rfl 3 (by decide) rfl (hts _ (List.mem_cons_of_mem _ t_568)) (fun _ h9 => h9) rfl dX2_readMemberHead_285 (fun x_111 bx_111 g => ?_)
                            refine lv_aload_n hx hb dX2_readMemberHead_288 rfl (lv_at hl 6 rfl) ?_
                            refine g_getk (C := RX2) (T := TX2) (N := 16) hx hb hts (mc_ inX2) hown hK g rfl 5 (by decide) rfl (hts _ (List.mem_cons_of_mem _ t_421)) (fun _ h9 => h9) 5 rfl dX2_readMemberHead_289 ?_
                            refine g_geti (C := RX6) (T := TX6) (N := 13) hx hb hts (mc_ inX6) hown hK g ma_27 ka_27 (by decide) rfl 3 (by decide) rfl (hts _ (List.mem_cons_of_mem _ t_568)) (fun _ h9 => h9) rfl dX2_readMemberHead_292 (fun x_112 bx_112 g => ?_)
                            refine lv_icmp_eq (tgt := 308) hx hb dX2_readMemberHead_295 (by decide) (fun c_113 => ?_) (fun c_113 => ?_)
                            · have fc_113 := eq_f c_113
                              subst hQ
                              exact W.vret hx hb hr (fun t ht hW => ⟨⟨_, rfl, Or.inl ⟨x_103, h_104, x_25, h_26, a_27, ⟨ma_27, ka_27⟩, x_28, h_29, x_30, h_31, (g.fcts [2, 3, 4, 5, 6, 7, 8] rfl)⟩, q3_of g hK ht hW⟩, g.2.2.1.F ht⟩) g.2.2.1.2.2 dX2_readMemberHead_308
                            · have fc_113 := neq_f c_113
                              refine lv_aload_n hx hb dX2_readMemberHead_298 rfl (lv_at hl 6 rfl) ?_
                              refine g_getk (C := RX2) (T := TX2) (N := 16) hx hb hts (mc_ inX2) hown hK g rfl 0 (by decide) rfl (hts _ (List.mem_cons_of_mem _ t_416)) (fun _ h9 => h9) 12 rfl dX2_readMemberHead_299 ?_
                              refine lv_iconst (v := 5) hx hb dX2_readMemberHead_302 (by decide) ?_
                              refine lv_iload hx hb dX2_readMemberHead_303 (lv_at hl 0 rfl) ?_
                              have kb_5 : bd 5 5 (5 : Int32) := ⟨by decide, by decide⟩
                              refine g_callv (va_runV (As := [.int 5, .int r_101]) (rest := []) ⟨hx, hb, hml, hown, hts⟩ (r_X8_fail l dC dI L kd tys fr_102 H.size g.2.2.2.1 q0_ mq0_ kq0_ 5 (bd_sub kb_5 (by decide)) r_101 y0_ by0_ (g.fcts [3] rfl)) (cwV 2 hts (gV_ t_1122 t_1107 t_1108 t_184 t_1109) rfl rfl rfl (by decide +kernel) ⟨(Nat.le_of_ble_eq_true rfl), (Nat.le_of_ble_eq_true rfl)⟩) (pre3V g hK mq0_ kq0_ (by decide) (q := (RX8, TX8, 10)) rfl) rfl rfl hl.1 rfl (lv_room (Nat.le_of_ble_eq_true rfl)) dX2_readMemberHead_305 ⟨(Nat.le_of_ble_eq_true rfl), (Nat.le_of_ble_eq_true rfl)⟩) g hK (by decide) (by decide) (fx' := [(6, 3, a_27, .int x_112), (6, 3, a_110, .int x_111), (2, 6, a0_, .int 0), (9, 8, q3_, .int x_25), (2, 5, a0_, .ref a_27), (7, 3, q2_, .int x_28), (6, 12, a_27, .int x_30), (5, 2, q1_, .int x_21), (7, 2, q2_, .ref a_18), (9, 9, q3_, .ref a_11), (2, 0, a0_, .ref q0_), (2, 1, a0_, .ref q1_), (2, 3, a0_, .ref q2_), (2, 4, a0_, .ref q3_), (5, 1, q1_, .ref q5_)]) rfl (fun fr_114 H locs hp hMr_114 g => ?_)
                              obtain ⟨x_115, h_116, hF_117⟩ := hp
                              have g := g.more hF_117
                              have kb_1201 : bd 1201 1201 (1201 : Int32) := ⟨by decide, by decide⟩
                              subst hQ
                              exact W.vret hx hb hr (fun t ht hW => ⟨⟨_, rfl, Or.inr (⟨1201, kb_1201, x_115, h_116, a_27, ⟨ma_27, ka_27⟩, (g.fcts [0, 1, 6] rfl)⟩), q3_of g hK ht hW⟩, g.2.2.1.F ht⟩) g.2.2.1.2.2 dX2_readMemberHead_308
                        · have g := g.more hF_108
                          refine lv_iload hx hb dX2_readMemberHead_269 (lv_at hl 2 rfl) ?_
                          refine lv_iconst (v := (-1)) hx hb dX2_readMemberHead_271 (by decide) ?_
                          refine lv_icmp_eq (tgt := 308) hx hb dX2_readMemberHead_272 (by decide) (fun c_118 => ?_) (fun c_118 => ?_)
                          · have fc_118 := eq_f c_118
                            exact absurd fc_118 fc_23
                          · have fc_118 := neq_f c_118
                            refine lv_aload_n hx hb dX2_readMemberHead_275 rfl (lv_at hl 6 rfl) ?_
                            refine g_getk (C := RX2) (T := TX2) (N := 16) hx hb hts (mc_ inX2) hown hK g rfl 3 (by decide) rfl (hts _ (List.mem_cons_of_mem _ t_419)) (fun _ h9 => h9) 12 rfl dX2_readMemberHead_276 ?_
                            refine g_getk (C := RX7) (T := TX7) (N := 19) hx hb hts (mc_ inX7) hown hK g rfl 2 (by decide) rfl (hts _ (List.mem_cons_of_mem _ t_630)) (fun _ h9 => h9) 8 rfl dX2_readMemberHead_279 ?_
                            refine lv_iload hx hb dX2_readMemberHead_282 (lv_at hl 2 rfl) ?_
                            refine g_aald hx hb hK g ma_18 ka_18 (by decide) rfl (by decide) (in_bd bx_12 (by decide)) dX2_readMemberHead_284 (fun a_119 ma_119 ua_119 wa_119 => ?_)
                            have ka_119 : kd a_119 = 6 := by omega
                            refine g_geti (C := RX6) (T := TX6) (N := 13) hx hb hts (mc_ inX6) hown hK g ma_119 ka_119 (by decide) rfl 3 (by decide) rfl (hts _ (List.mem_cons_of_mem _ t_568)) (fun _ h9 => h9) rfl dX2_readMemberHead_285 (fun x_120 bx_120 g => ?_)
                            refine lv_aload_n hx hb dX2_readMemberHead_288 rfl (lv_at hl 6 rfl) ?_
                            refine g_getk (C := RX2) (T := TX2) (N := 16) hx hb hts (mc_ inX2) hown hK g rfl 5 (by decide) rfl (hts _ (List.mem_cons_of_mem _ t_421)) (fun _ h9 => h9) 5 rfl dX2_readMemberHead_289 ?_
                            refine g_geti (C := RX6) (T := TX6) (N := 13) hx hb hts (mc_ inX6) hown hK g ma_27 ka_27 (by decide) rfl 3 (by decide) rfl (hts _ (List.mem_cons_of_mem _ t_568)) (fun _ h9 => h9) rfl dX2_readMemberHead_292 (fun x_121 bx_121 g => ?_)
                            refine lv_icmp_eq (tgt := 308) hx hb dX2_readMemberHead_295 (by decide) (fun c_122 => ?_) (fun c_122 => ?_)
                            · have fc_122 := eq_f c_122
                              have kb_1201 : bd 1201 1201 (1201 : Int32) := ⟨by decide, by decide⟩
                              subst hQ
                              exact W.vret hx hb hr (fun t ht hW => ⟨⟨_, rfl, Or.inr (⟨1201, kb_1201, x_106, h_107, a_27, ⟨ma_27, ka_27⟩, (g.fcts [2, 3, 6] rfl)⟩), q3_of g hK ht hW⟩, g.2.2.1.F ht⟩) g.2.2.1.2.2 dX2_readMemberHead_308
                            · have fc_122 := neq_f c_122
                              refine lv_aload_n hx hb dX2_readMemberHead_298 rfl (lv_at hl 6 rfl) ?_
                              refine g_getk (C := RX2) (T := TX2) (N := 16) hx hb hts (mc_ inX2) hown hK g rfl 0 (by decide) rfl (hts _ (List.mem_cons_of_mem _ t_416)) (fun _ h9 => h9) 12 rfl dX2_readMemberHead_299 ?_
                              refine lv_iconst (v := 5) hx hb dX2_readMemberHead_302 (by decide) ?_
                              refine lv_iload hx hb dX2_readMemberHead_303 (lv_at hl 0 rfl) ?_
                              have kb_5 : bd 5 5 (5 : Int32) := ⟨by decide, by decide⟩
                              refine g_callv (va_runV (As := [.int 5, .int r_101]) (rest := []) ⟨hx, hb, hml, hown, hts⟩ (r_X8_fail_2 l dC dI L kd tys fr_102 H.size g.2.2.2.1 q0_ mq0_ kq0_ 5 (bd_sub kb_5 (by decide)) r_101 x_106 h_107 (g.fcts [3] rfl)) (cwV 2 hts (gV_ t_1122 t_1107 t_1108 t_184 t_1109) rfl rfl rfl (by decide +kernel) ⟨(Nat.le_of_ble_eq_true rfl), (Nat.le_of_ble_eq_true rfl)⟩) (pre3V g hK mq0_ kq0_ (by decide) (q := (RX8, TX8, 10)) rfl) rfl rfl hl.1 rfl (lv_room (Nat.le_of_ble_eq_true rfl)) dX2_readMemberHead_305 ⟨(Nat.le_of_ble_eq_true rfl), (Nat.le_of_ble_eq_true rfl)⟩) g hK (by decide) (by decide) (fx' := [(6, 3, a_27, .int x_121), (6, 3, a_119, .int x_120), (8, 8, q0_, .int x_106), (2, 6, a0_, .int 0), (9, 8, q3_, .int x_25), (2, 5, a0_, .ref a_27), (7, 3, q2_, .int x_28), (6, 12, a_27, .int x_30), (5, 2, q1_, .int x_21), (7, 2, q2_, .ref a_18), (9, 9, q3_, .ref a_11), (2, 0, a0_, .ref q0_), (2, 1, a0_, .ref q1_), (2, 3, a0_, .ref q2_), (2, 4, a0_, .ref q3_), (5, 1, q1_, .ref q5_)]) rfl (fun fr_123 H locs hp hMr_123 g => ?_)
                              have hF_124 := hp
                              have g := g.more hF_124
                              have kb_1201 : bd 1201 1201 (1201 : Int32) := ⟨by decide, by decide⟩
                              subst hQ
                              exact W.vret hx hb hr (fun t ht hW => ⟨⟨_, rfl, Or.inr (⟨1201, kb_1201, x_106, h_107, a_27, ⟨ma_27, ka_27⟩, (g.fcts [0, 3, 6] rfl)⟩), q3_of g hK ht hW⟩, g.2.2.1.F ht⟩) g.2.2.1.2.2 dX2_readMemberHead_308
                      · have fc_99 := neq_f c_99
                        have b_125 : bd 1 1 v199_6 := neX fc_99 bv199_6 kb_0 (by decide)
                        refine lv_aload_n hx hb dX2_readMemberHead_210 rfl (lv_at hl 6 rfl) ?_
                        refine g_callv (va_runV (As := []) (rest := []) ⟨hx, hb, hml, hown, hts⟩ (r_X2_readParam l dC dI L kd tys f H.size g.2.2.2.1 a0_ ma0_ ka0_ q0_ mq0_ kq0_ q1_ mq1_ kq1_ a_27 ma_27 ka_27 q5_ mq5_ kq5_ y0_ by0_ (g.fcts [10, 11, 4, 14, 1] rfl)) (cwV 0 hts (gV_ t_1313 t_1315 t_34 t_183 t_1316) rfl rfl rfl (by decide +kernel) ⟨(Nat.le_of_ble_eq_true rfl), (Nat.le_of_ble_eq_true rfl)⟩) (pre3V g hK ma0_ ka0_ (by decide) (q := (RX2, TX2, 16)) rfl) rfl rfl hl.1 rfl (lv_room (Nat.le_of_ble_eq_true rfl)) dX2_readMemberHead_211 ⟨(Nat.le_of_ble_eq_true rfl), (Nat.le_of_ble_eq_true rfl)⟩) g hK (by decide) (by decide) (fx' := [(2, 6, a0_, .int 0), (9, 8, q3_, .int x_25), (2, 5, a0_, .ref a_27), (7, 3, q2_, .int x_28), (6, 12, a_27, .int x_30), (5, 2, q1_, .int x_21), (7, 2, q2_, .ref a_18), (9, 9, q3_, .ref a_11), (2, 0, a0_, .ref q0_), (2, 1, a0_, .ref q1_), (2, 3, a0_, .ref q2_), (2, 4, a0_, .ref q3_), (5, 1, q1_, .ref q5_)]) rfl (fun fr_126 H locs hp hMr_126 g => ?_)
                        rcases hp with ⟨x_127, h_128, x_129, h_130, x_131, h_132, hF_133⟩ | ⟨x_134, h_135, hF_136⟩
                        · have g := g.more hF_133
                          refine lv_aload_n hx hb dX2_readMemberHead_214 rfl (lv_at hl 6 rfl) ?_
                          refine g_getk (C := RX2) (T := TX2) (N := 16) hx hb hts (mc_ inX2) hown hK g rfl 0 (by decide) rfl (hts _ (List.mem_cons_of_mem _ t_416)) (fun _ h9 => h9) 12 rfl dX2_readMemberHead_215 ?_
                          refine g_calli (va_runV (As := []) (rest := []) ⟨hx, hb, hml, hown, hts⟩ (r_X8_kind l dC dI L kd tys fr_126 H.size g.2.2.2.1 q0_ mq0_ kq0_) (cwV 0 hts (gV_ t_1118 t_1119 t_1120 t_184 t_1121) rfl rfl rfl (by decide +kernel) ⟨(Nat.le_of_ble_eq_true rfl), (Nat.le_of_ble_eq_true rfl)⟩) (pre3V g hK mq0_ kq0_ (by decide) (q := (RX8, TX8, 10)) rfl) rfl rfl hl.1 rfl (lv_room (Nat.le_of_ble_eq_true rfl)) dX2_readMemberHead_218 ⟨(Nat.le_of_ble_eq_true rfl), (Nat.le_of_ble_eq_true rfl)⟩) g hK (by decide) (by decide) (fx' := [(6, 3, a_27, .int x_127), (5, 4, q1_, .int x_129), (8, 6, q0_, .int x_131), (8, 8, q0_, .int y0_), (2, 6, a0_, .int 0), (9, 8, q3_, .int x_25), (2, 5, a0_, .ref a_27), (7, 3, q2_, .int x_28), (6, 12, a_27, .int x_30), (5, 2, q1_, .int x_21), (7, 2, q2_, .ref a_18), (9, 9, q3_, .ref a_11), (2, 0, a0_, .ref q0_), (2, 1, a0_, .ref q1_), (2, 3, a0_, .ref q2_), (2, 4, a0_, .ref q3_), (5, 1, q1_, .ref q5_)]) rfl (fun r_137 fr_137 H locs hp hMr_137 g => ?_)
                          refine lv_bipush (v := 44) hx hb dX2_readMemberHead_221 (by decide) ?_
                          have kb_44 : bd 44 44 (44 : Int32) := ⟨by decide, by decide⟩
                          refine lv_icmp_ne (tgt := 230) hx hb dX2_readMemberHead_223 (by decide) (fun c_138 => ?_) (fun c_138 => ?_)
                          · have fc_138 := neq_f c_138
                            refine lv_iconst (v := 0) hx hb dX2_readMemberHead_230 (by decide) ?_
                            refine lv_istore (lv' := [(6, .int 0), (7, .int v199_7), (5, .int x_12), (4, .int r_7), (2, .long r_6), (1, .int r_5), (0, .ref a0_)]) hx hb dX2_readMemberHead_231 hl (by decide) rfl (fun ls hl => ?_)
                            refine lv_iload hx hb dX2_readMemberHead_233 (lv_at hl 0 rfl) ?_
                            refine lv_if_eq (tgt := 245) hx hb dX2_readMemberHead_235 (by decide) (fun c_ => ?_) (fun c_ => absurd (by decide) c_)
                            have kb_1 : bd 1 1 (1 : Int32) := ⟨by decide, by decide⟩
                            obtain ⟨y_139, ey_139⟩ : ∃ z : Int32, z = v199_7 + 1 := ⟨_, rfl⟩
                            refine lv_iinc (v := y_139) (lv' := [(7, .int y_139), (6, .int 0), (5, .int x_12), (4, .int r_7), (2, .long r_6), (1, .int r_5), (0, .ref a0_)]) hx hb dX2_readMemberHead_245 hl (k := 1) rfl (by rw [ey_139]; rfl) (by decide) rfl (fun ls hl => ?_)
                            have ty_139 := add_bd ey_139 b_98 kb_1 (by decide)
                            have b_140 : bd 1 4 y_139 := add_rg ty_139 b_98 kb_1 (by decide)
                            refine lv_goto (tgt := 199) hx hb dX2_readMemberHead_248 (by decide) ?_
                            have hl9 := lv_sub hl [0, 1, 2, 3, 4, 5, 6] (by rfl : lv_pick [(7, .int y_139), (6, .int 0), (5, .int x_12), (4, .int r_7), (2, .long r_6), (1, .int r_5), (0, .ref a0_)] [0, 1, 2, 3, 4, 5, 6] = [(7, .int y_139), (6, .int 0), (5, .int x_12), (4, .int r_7), (2, .long r_6), (1, .int r_5), (0, .ref a0_)])
                            have g9 := g.sub (fx' := [(8, 6, q0_, .int x_131), (8, 8, q0_, .int y0_), (2, 6, a0_, .int 0), (9, 8, q3_, .int x_25), (2, 5, a0_, .ref a_27), (7, 3, q2_, .int x_28), (6, 12, a_27, .int x_30), (5, 2, q1_, .int x_21), (7, 2, q2_, .ref a_18), (9, 9, q3_, .ref a_11), (2, 0, a0_, .ref q0_), (2, 1, a0_, .ref q1_), (2, 3, a0_, .ref q2_), (2, 4, a0_, .ref q3_), (5, 1, q1_, .ref q5_)]) [2, 3, 4, 5, 6, 7, 8, 9, 10, 11, 12, 13, 14, 15, 16] rfl
                            exact ih199  y_139 0 x_131 (bd_sub b_140 (by decide)) (bd_sub kb_0 (by decide)) h_132 (by have h9_0 := b_140; unfold bd at h9_0; have h9_1 := bv199_6; unfold bd at h9_1; have h9_2 := bv199_7; unfold bd at h9_2; have h9_3 := bw199_8_6_q0_; unfold bd at h9_3; have h9_4 := h_132; unfold bd at h9_4; have h9_5 := kb_0; unfold bd at h9_5; have h9_6 := kb_1; unfold bd at h9_6; have h9_7 := kb_3; unfold bd at h9_7; have h9_8 := kb_41; unfold bd at h9_8; have h9_9 := kb_44; unfold bd at h9_9; have h9_10 := kb_m1; unfold bd at h9_10; omega) _ _ _ _ g9  hl9
                          · have fc_138 := eq_f c_138
                            have b_141 : bd 44 44 r_137 := eqX fc_138 (bdT r_137) kb_44 (by decide)
                            refine lv_iconst (v := 1) hx hb dX2_readMemberHead_226 (by decide) ?_
                            refine lv_goto (tgt := 231) hx hb dX2_readMemberHead_227 (by decide) ?_
                            refine lv_istore (lv' := [(6, .int 1), (7, .int v199_7), (5, .int x_12), (4, .int r_7), (2, .long r_6), (1, .int r_5), (0, .ref a0_)]) hx hb dX2_readMemberHead_231 hl (by decide) rfl (fun ls hl => ?_)
                            refine lv_iload hx hb dX2_readMemberHead_233 (lv_at hl 0 rfl) ?_
                            refine lv_if_eq (tgt := 245) hx hb dX2_readMemberHead_235 (by decide) (fun c_ => absurd c_ (by decide)) (fun c_ => ?_)
                            refine lv_aload_n hx hb dX2_readMemberHead_238 rfl (lv_at hl 6 rfl) ?_
                            refine g_getk (C := RX2) (T := TX2) (N := 16) hx hb hts (mc_ inX2) hown hK g rfl 0 (by decide) rfl (hts _ (List.mem_cons_of_mem _ t_416)) (fun _ h9 => h9) 12 rfl dX2_readMemberHead_239 ?_
                            refine g_callv (va_runV (As := []) (rest := []) ⟨hx, hb, hml, hown, hts⟩ (r_X8_next l dC dI L kd tys fr_137 H.size g.2.2.2.1 q0_ mq0_ kq0_) (cwV 0 hts (gV_ t_1131 t_1103 t_1104 t_184 t_1105) rfl rfl rfl (by decide +kernel) ⟨(Nat.le_of_ble_eq_true rfl), (Nat.le_of_ble_eq_true rfl)⟩) (pre3V g hK mq0_ kq0_ (by decide) (q := (RX8, TX8, 10)) rfl) rfl rfl hl.1 rfl (lv_room (Nat.le_of_ble_eq_true rfl)) dX2_readMemberHead_242 ⟨(Nat.le_of_ble_eq_true rfl), (Nat.le_of_ble_eq_true rfl)⟩) g hK (by decide) (by decide) (fx' := [(6, 3, a_27, .int x_127), (5, 4, q1_, .int x_129), (8, 8, q0_, .int y0_), (2, 6, a0_, .int 0), (9, 8, q3_, .int x_25), (2, 5, a0_, .ref a_27), (7, 3, q2_, .int x_28), (6, 12, a_27, .int x_30), (5, 2, q1_, .int x_21), (7, 2, q2_, .ref a_18), (9, 9, q3_, .ref a_11), (2, 0, a0_, .ref q0_), (2, 1, a0_, .ref q1_), (2, 3, a0_, .ref q2_), (2, 4, a0_, .ref q3_), (5, 1, q1_, .ref q5_)]) rfl (fun fr_142 H locs hp hMr_142 g => ?_)
                            obtain ⟨x_143, h_144, hF_145⟩ := hp
                            have g := g.more hF_145
                            have kb_1 : bd 1 1 (1 : Int32) := ⟨by decide, by decide⟩
                            obtain ⟨y_146, ey_146⟩ : ∃ z : Int32, z = v199_7 + 1 := ⟨_, rfl⟩
                            refine lv_iinc (v := y_146) (lv' := [(7, .int y_146), (6, .int 1), (5, .int x_12), (4, .int r_7), (2, .long r_6), (1, .int r_5), (0, .ref a0_)]) hx hb dX2_readMemberHead_245 hl (k := 1) rfl (by rw [ey_146]; rfl) (by decide) rfl (fun ls hl => ?_)
                            have ty_146 := add_bd ey_146 b_98 kb_1 (by decide)
                            have b_147 : bd 1 4 y_146 := add_rg ty_146 b_98 kb_1 (by decide)
                            refine lv_goto (tgt := 199) hx hb dX2_readMemberHead_248 (by decide) ?_
                            have hl9 := lv_sub hl [0, 1, 2, 3, 4, 5, 6] (by rfl : lv_pick [(7, .int y_146), (6, .int 1), (5, .int x_12), (4, .int r_7), (2, .long r_6), (1, .int r_5), (0, .ref a0_)] [0, 1, 2, 3, 4, 5, 6] = [(7, .int y_146), (6, .int 1), (5, .int x_12), (4, .int r_7), (2, .long r_6), (1, .int r_5), (0, .ref a0_)])
                            have g9 := g.sub (fx' := [(8, 6, q0_, .int x_143), (8, 8, q0_, .int y0_), (2, 6, a0_, .int 0), (9, 8, q3_, .int x_25), (2, 5, a0_, .ref a_27), (7, 3, q2_, .int x_28), (6, 12, a_27, .int x_30), (5, 2, q1_, .int x_21), (7, 2, q2_, .ref a_18), (9, 9, q3_, .ref a_11), (2, 0, a0_, .ref q0_), (2, 1, a0_, .ref q1_), (2, 3, a0_, .ref q2_), (2, 4, a0_, .ref q3_), (5, 1, q1_, .ref q5_)]) [0, 3, 4, 5, 6, 7, 8, 9, 10, 11, 12, 13, 14, 15, 16] rfl
                            exact ih199  y_146 1 x_143 (bd_sub b_147 (by decide)) (bd_sub kb_1 (by decide)) h_144 (by have h9_0 := b_147; unfold bd at h9_0; have h9_1 := bv199_6; unfold bd at h9_1; have h9_2 := bv199_7; unfold bd at h9_2; have h9_3 := bw199_8_6_q0_; unfold bd at h9_3; have h9_4 := h_144; unfold bd at h9_4; have h9_5 := kb_0; unfold bd at h9_5; have h9_6 := kb_1; unfold bd at h9_6; have h9_7 := kb_3; unfold bd at h9_7; have h9_8 := kb_41; unfold bd at h9_8; have h9_9 := kb_44; unfold bd at h9_9; have h9_10 := kb_m1; unfold bd at h9_10; omega) _ _ _ _ g9  hl9
                        · have g := g.more hF_136
                          refine lv_aload_n hx hb dX2_readMemberHead_214 rfl (lv_at hl 6 rfl) ?_
                          refine g_getk (C := RX2) (T := TX2) (N := 16) hx hb hts (mc_ inX2) hown hK g rfl 0 (by decide) rfl (hts _ (List.mem_cons_of_mem _ t_416)) (fun _ h9 => h9) 10 rfl dX2_readMemberHead_215 ?_
                          have kb_1201 : bd 1201 1201 (1201 : Int32) := ⟨by decide, by decide⟩
                          refine g_calli (va_runV (As := []) (rest := []) ⟨hx, hb, hml, hown, hts⟩ (r_X8_kind_2 l dC dI L kd tys fr_126 H.size g.2.2.2.1 q0_ mq0_ kq0_ 1201 kb_1201 (g.fcts [0] rfl)) (cwV 0 hts (gV_ t_1118 t_1119 t_1120 t_184 t_1121) rfl rfl rfl (by decide +kernel) ⟨(Nat.le_of_ble_eq_true rfl), (Nat.le_of_ble_eq_true rfl)⟩) (pre3V g hK mq0_ kq0_ (by decide) (q := (RX8, TX8, 10)) rfl) rfl rfl hl.1 rfl (lv_room (Nat.le_of_ble_eq_true rfl)) dX2_readMemberHead_218 ⟨(Nat.le_of_ble_eq_true rfl), (Nat.le_of_ble_eq_true rfl)⟩) g hK (by decide) (by decide) (fx' := [(8, 6, q0_, .int 1201), (8, 8, q0_, .int x_134), (2, 6, a0_, .int 0), (9, 8, q3_, .int x_25), (2, 5, a0_, .ref a_27), (7, 3, q2_, .int x_28), (6, 12, a_27, .int x_30), (5, 2, q1_, .int x_21), (7, 2, q2_, .ref a_18), (9, 9, q3_, .ref a_11), (2, 0, a0_, .ref q0_), (2, 1, a0_, .ref q1_), (2, 3, a0_, .ref q2_), (2, 4, a0_, .ref q3_), (5, 1, q1_, .ref q5_)]) rfl (fun r_148 fr_148 H locs hp hMr_148 g => ?_)
                          obtain ⟨h_149, -⟩ := hp
                          obtain rfl : r_148 = 0 := h_149
                          refine lv_bipush (v := 44) hx hb dX2_readMemberHead_221 (by decide) ?_
                          refine lv_icmp_ne (tgt := 230) hx hb dX2_readMemberHead_223 (by decide) (fun c_ => ?_) (fun c_ => absurd c_ (by decide))
                          refine lv_iconst (v := 0) hx hb dX2_readMemberHead_230 (by decide) ?_
                          refine lv_istore (lv' := [(6, .int 0), (7, .int v199_7), (5, .int x_12), (4, .int r_7), (2, .long r_6), (1, .int r_5), (0, .ref a0_)]) hx hb dX2_readMemberHead_231 hl (by decide) rfl (fun ls hl => ?_)
                          refine lv_iload hx hb dX2_readMemberHead_233 (lv_at hl 0 rfl) ?_
                          refine lv_if_eq (tgt := 245) hx hb dX2_readMemberHead_235 (by decide) (fun c_ => ?_) (fun c_ => absurd (by decide) c_)
                          have kb_1 : bd 1 1 (1 : Int32) := ⟨by decide, by decide⟩
                          obtain ⟨y_150, ey_150⟩ : ∃ z : Int32, z = v199_7 + 1 := ⟨_, rfl⟩
                          refine lv_iinc (v := y_150) (lv' := [(7, .int y_150), (6, .int 0), (5, .int x_12), (4, .int r_7), (2, .long r_6), (1, .int r_5), (0, .ref a0_)]) hx hb dX2_readMemberHead_245 hl (k := 1) rfl (by rw [ey_150]; rfl) (by decide) rfl (fun ls hl => ?_)
                          have ty_150 := add_bd ey_150 b_98 kb_1 (by decide)
                          have b_151 : bd 1 4 y_150 := add_rg ty_150 b_98 kb_1 (by decide)
                          refine lv_goto (tgt := 199) hx hb dX2_readMemberHead_248 (by decide) ?_
                          refine lv_iload hx hb dX2_readMemberHead_199 (lv_at hl 0 rfl) ?_
                          refine lv_iconst (v := 3) hx hb dX2_readMemberHead_201 (by decide) ?_
                          refine lv_icmp_gt (tgt := 251) hx hb dX2_readMemberHead_202 (by decide) (fun c_152 => ?_) (fun c_152 => ?_)
                          · have fc_152 := lt_f c_152
                            have b_153 : bd 4 4 y_150 := ltR fc_152 kb_3 b_151 (by decide)
                            have b_154 : bd 3 3 v199_7 := add_inv ty_150 b_153 b_98 kb_1 (by decide)
                            refine lv_aload_n hx hb dX2_readMemberHead_251 rfl (lv_at hl 6 rfl) ?_
                            refine g_getk (C := RX2) (T := TX2) (N := 16) hx hb hts (mc_ inX2) hown hK g rfl 0 (by decide) rfl (hts _ (List.mem_cons_of_mem _ t_416)) (fun _ h9 => h9) 10 rfl dX2_readMemberHead_252 ?_
                            refine g_calli (va_runV (As := []) (rest := []) ⟨hx, hb, hml, hown, hts⟩ (r_X8_place l dC dI L kd tys fr_148 H.size g.2.2.2.1 q0_ mq0_ kq0_) (cwV 0 hts (gV_ t_1110 t_1111 t_1112 t_184 t_1113) rfl rfl rfl (by decide +kernel) ⟨(Nat.le_of_ble_eq_true rfl), (Nat.le_of_ble_eq_true rfl)⟩) (pre3V g hK mq0_ kq0_ (by decide) (q := (RX8, TX8, 10)) rfl) rfl rfl hl.1 rfl (lv_room (Nat.le_of_ble_eq_true rfl)) dX2_readMemberHead_255 ⟨(Nat.le_of_ble_eq_true rfl), (Nat.le_of_ble_eq_true rfl)⟩) g hK (by decide) (by decide) (fx' := [(8, 6, q0_, .int 1201), (8, 8, q0_, .int x_134), (2, 6, a0_, .int 0), (9, 8, q3_, .int x_25), (2, 5, a0_, .ref a_27), (7, 3, q2_, .int x_28), (6, 12, a_27, .int x_30), (5, 2, q1_, .int x_21), (7, 2, q2_, .ref a_18), (9, 9, q3_, .ref a_11), (2, 0, a0_, .ref q0_), (2, 1, a0_, .ref q1_), (2, 3, a0_, .ref q2_), (2, 4, a0_, .ref q3_), (5, 1, q1_, .ref q5_)]) rfl (fun r_155 fr_155 H locs hp hMr_155 g => ?_)
                            refine lv_istore (lv' := [(7, .int r_155), (6, .int 0), (5, .int x_12), (4, .int r_7), (2, .long r_6), (1, .int r_5), (0, .ref a0_)]) hx hb dX2_readMemberHead_258 hl (by decide) rfl (fun ls hl => ?_)
                            refine lv_aload_n hx hb dX2_readMemberHead_260 rfl (lv_at hl 6 rfl) ?_
                            refine g_getk (C := RX2) (T := TX2) (N := 16) hx hb hts (mc_ inX2) hown hK g rfl 0 (by decide) rfl (hts _ (List.mem_cons_of_mem _ t_416)) (fun _ h9 => h9) 10 rfl dX2_readMemberHead_261 ?_
                            refine lv_bipush (v := 41) hx hb dX2_readMemberHead_264 (by decide) ?_
                            refine g_callv (va_runV (As := [.int 41]) (rest := []) ⟨hx, hb, hml, hown, hts⟩ (r_X8_take_2 l dC dI L kd tys fr_155 H.size g.2.2.2.1 q0_ mq0_ kq0_ 41 1201 kb_1201 x_134 h_135 (g.fcts [0, 1] rfl)) (cwV 1 hts (gV_ t_1098 t_1099 t_1100 t_184 t_1101) rfl rfl rfl (by decide +kernel) ⟨(Nat.le_of_ble_eq_true rfl), (Nat.le_of_ble_eq_true rfl)⟩) (pre3V g hK mq0_ kq0_ (by decide) (q := (RX8, TX8, 10)) rfl) rfl rfl hl.1 rfl (lv_room (Nat.le_of_ble_eq_true rfl)) dX2_readMemberHead_266 ⟨(Nat.le_of_ble_eq_true rfl), (Nat.le_of_ble_eq_true rfl)⟩) g hK (by decide) (by decide) (fx' := [(8, 8, q0_, .int x_134), (2, 6, a0_, .int 0), (9, 8, q3_, .int x_25), (2, 5, a0_, .ref a_27), (7, 3, q2_, .int x_28), (6, 12, a_27, .int x_30), (5, 2, q1_, .int x_21), (7, 2, q2_, .ref a_18), (9, 9, q3_, .ref a_11), (2, 0, a0_, .ref q0_), (2, 1, a0_, .ref q1_), (2, 3, a0_, .ref q2_), (2, 4, a0_, .ref q3_), (5, 1, q1_, .ref q5_)]) rfl (fun fr_156 H locs hp hMr_156 g => ?_)
                            obtain ⟨x_157, h_158, hF_159⟩ := hp
                            have g := g.more hF_159
                            refine lv_iload hx hb dX2_readMemberHead_269 (lv_at hl 2 rfl) ?_
                            refine lv_iconst (v := (-1)) hx hb dX2_readMemberHead_271 (by decide) ?_
                            refine lv_icmp_eq (tgt := 308) hx hb dX2_readMemberHead_272 (by decide) (fun c_160 => ?_) (fun c_160 => ?_)
                            · have fc_160 := eq_f c_160
                              exact absurd fc_160 fc_23
                            · have fc_160 := neq_f c_160
                              refine lv_aload_n hx hb dX2_readMemberHead_275 rfl (lv_at hl 6 rfl) ?_
                              refine g_getk (C := RX2) (T := TX2) (N := 16) hx hb hts (mc_ inX2) hown hK g rfl 3 (by decide) rfl (hts _ (List.mem_cons_of_mem _ t_419)) (fun _ h9 => h9) 12 rfl dX2_readMemberHead_276 ?_
                              refine g_getk (C := RX7) (T := TX7) (N := 19) hx hb hts (mc_ inX7) hown hK g rfl 2 (by decide) rfl (hts _ (List.mem_cons_of_mem _ t_630)) (fun _ h9 => h9) 8 rfl dX2_readMemberHead_279 ?_
                              refine lv_iload hx hb dX2_readMemberHead_282 (lv_at hl 2 rfl) ?_
                              refine g_aald hx hb hK g ma_18 ka_18 (by decide) rfl (by decide) (in_bd bx_12 (by decide)) dX2_readMemberHead_284 (fun a_161 ma_161 ua_161 wa_161 => ?_)
                              have ka_161 : kd a_161 = 6 := by omega
                              refine g_geti (C := RX6) (T := TX6) (N := 13) hx hb hts (mc_ inX6) hown hK g ma_161 ka_161 (by decide) rfl 3 (by decide) rfl (hts _ (List.mem_cons_of_mem _ t_568)) (fun _ h9 => h9) rfl dX2_readMemberHead_285 (fun x_162 bx_162 g => ?_)
                              refine lv_aload_n hx hb dX2_readMemberHead_288 rfl (lv_at hl 6 rfl) ?_
                              refine g_getk (C := RX2) (T := TX2) (N := 16) hx hb hts (mc_ inX2) hown hK g rfl 5 (by decide) rfl (hts _ (List.mem_cons_of_mem _ t_421)) (fun _ h9 => h9) 5 rfl dX2_readMemberHead_289 ?_
                              refine g_geti (C := RX6) (T := TX6) (N := 13) hx hb hts (mc_ inX6) hown hK g ma_27 ka_27 (by decide) rfl 3 (by decide) rfl (hts _ (List.mem_cons_of_mem _ t_568)) (fun _ h9 => h9) rfl dX2_readMemberHead_292 (fun x_163 bx_163 g => ?_)
                              refine lv_icmp_eq (tgt := 308) hx hb dX2_readMemberHead_295 (by decide) (fun c_164 => ?_) (fun c_164 => ?_)
                              · have fc_164 := eq_f c_164
                                subst hQ
                                exact W.vret hx hb hr (fun t ht hW => ⟨⟨_, rfl, Or.inr (⟨x_157, h_158, x_134, h_135, a_27, ⟨ma_27, ka_27⟩, (g.fcts [2, 3, 6] rfl)⟩), q3_of g hK ht hW⟩, g.2.2.1.F ht⟩) g.2.2.1.2.2 dX2_readMemberHead_308
                              · have fc_164 := neq_f c_164
                                refine lv_aload_n hx hb dX2_readMemberHead_298 rfl (lv_at hl 6 rfl) ?_
                                refine g_getk (C := RX2) (T := TX2) (N := 16) hx hb hts (mc_ inX2) hown hK g rfl 0 (by decide) rfl (hts _ (List.mem_cons_of_mem _ t_416)) (fun _ h9 => h9) 12 rfl dX2_readMemberHead_299 ?_
                                refine lv_iconst (v := 5) hx hb dX2_readMemberHead_302 (by decide) ?_
                                refine lv_iload hx hb dX2_readMemberHead_303 (lv_at hl 0 rfl) ?_
                                have kb_5 : bd 5 5 (5 : Int32) := ⟨by decide, by decide⟩
                                refine g_callv (va_runV (As := [.int 5, .int r_155]) (rest := []) ⟨hx, hb, hml, hown, hts⟩ (r_X8_fail_2 l dC dI L kd tys fr_156 H.size g.2.2.2.1 q0_ mq0_ kq0_ 5 (bd_sub kb_5 (by decide)) r_155 x_134 h_135 (g.fcts [3] rfl)) (cwV 2 hts (gV_ t_1122 t_1107 t_1108 t_184 t_1109) rfl rfl rfl (by decide +kernel) ⟨(Nat.le_of_ble_eq_true rfl), (Nat.le_of_ble_eq_true rfl)⟩) (pre3V g hK mq0_ kq0_ (by decide) (q := (RX8, TX8, 10)) rfl) rfl rfl hl.1 rfl (lv_room (Nat.le_of_ble_eq_true rfl)) dX2_readMemberHead_305 ⟨(Nat.le_of_ble_eq_true rfl), (Nat.le_of_ble_eq_true rfl)⟩) g hK (by decide) (by decide) (fx' := [(6, 3, a_27, .int x_163), (6, 3, a_161, .int x_162), (8, 8, q0_, .int x_134), (2, 6, a0_, .int 0), (9, 8, q3_, .int x_25), (2, 5, a0_, .ref a_27), (7, 3, q2_, .int x_28), (6, 12, a_27, .int x_30), (5, 2, q1_, .int x_21), (7, 2, q2_, .ref a_18), (9, 9, q3_, .ref a_11), (2, 0, a0_, .ref q0_), (2, 1, a0_, .ref q1_), (2, 3, a0_, .ref q2_), (2, 4, a0_, .ref q3_), (5, 1, q1_, .ref q5_)]) rfl (fun fr_165 H locs hp hMr_165 g => ?_)
                                have hF_166 := hp
                                have g := g.more hF_166
                                subst hQ
                                exact W.vret hx hb hr (fun t ht hW => ⟨⟨_, rfl, Or.inr (⟨1201, kb_1201, x_134, h_135, a_27, ⟨ma_27, ka_27⟩, (g.fcts [0, 3, 6] rfl)⟩), q3_of g hK ht hW⟩, g.2.2.1.F ht⟩) g.2.2.1.2.2 dX2_readMemberHead_308
                          · have fc_152 := nlt_f c_152
                            have b_167 : bd 1 3 y_150 := leL fc_152 b_151 kb_3 (by decide)
                            have b_168 : bd 0 2 v199_7 := add_inv ty_150 b_167 b_98 kb_1 (by decide)
                            refine lv_iload hx hb dX2_readMemberHead_205 (lv_at hl 1 rfl) ?_
                            refine lv_if_eq (tgt := 251) hx hb dX2_readMemberHead_207 (by decide) (fun c_ => ?_) (fun c_ => absurd (by decide) c_)
                            refine lv_aload_n hx hb dX2_readMemberHead_251 rfl (lv_at hl 6 rfl) ?_
                            refine g_getk (C := RX2) (T := TX2) (N := 16) hx hb hts (mc_ inX2) hown hK g rfl 0 (by decide) rfl (hts _ (List.mem_cons_of_mem _ t_416)) (fun _ h9 => h9) 10 rfl dX2_readMemberHead_252 ?_
                            refine g_calli (va_runV (As := []) (rest := []) ⟨hx, hb, hml, hown, hts⟩ (r_X8_place l dC dI L kd tys fr_148 H.size g.2.2.2.1 q0_ mq0_ kq0_) (cwV 0 hts (gV_ t_1110 t_1111 t_1112 t_184 t_1113) rfl rfl rfl (by decide +kernel) ⟨(Nat.le_of_ble_eq_true rfl), (Nat.le_of_ble_eq_true rfl)⟩) (pre3V g hK mq0_ kq0_ (by decide) (q := (RX8, TX8, 10)) rfl) rfl rfl hl.1 rfl (lv_room (Nat.le_of_ble_eq_true rfl)) dX2_readMemberHead_255 ⟨(Nat.le_of_ble_eq_true rfl), (Nat.le_of_ble_eq_true rfl)⟩) g hK (by decide) (by decide) (fx' := [(8, 6, q0_, .int 1201), (8, 8, q0_, .int x_134), (2, 6, a0_, .int 0), (9, 8, q3_, .int x_25), (2, 5, a0_, .ref a_27), (7, 3, q2_, .int x_28), (6, 12, a_27, .int x_30), (5, 2, q1_, .int x_21), (7, 2, q2_, .ref a_18), (9, 9, q3_, .ref a_11), (2, 0, a0_, .ref q0_), (2, 1, a0_, .ref q1_), (2, 3, a0_, .ref q2_), (2, 4, a0_, .ref q3_), (5, 1, q1_, .ref q5_)]) rfl (fun r_169 fr_169 H locs hp hMr_169 g => ?_)
                            refine lv_istore (lv' := [(7, .int r_169), (6, .int 0), (5, .int x_12), (4, .int r_7), (2, .long r_6), (1, .int r_5), (0, .ref a0_)]) hx hb dX2_readMemberHead_258 hl (by decide) rfl (fun ls hl => ?_)
                            refine lv_aload_n hx hb dX2_readMemberHead_260 rfl (lv_at hl 6 rfl) ?_
                            refine g_getk (C := RX2) (T := TX2) (N := 16) hx hb hts (mc_ inX2) hown hK g rfl 0 (by decide) rfl (hts _ (List.mem_cons_of_mem _ t_416)) (fun _ h9 => h9) 10 rfl dX2_readMemberHead_261 ?_
                            refine lv_bipush (v := 41) hx hb dX2_readMemberHead_264 (by decide) ?_
                            refine g_callv (va_runV (As := [.int 41]) (rest := []) ⟨hx, hb, hml, hown, hts⟩ (r_X8_take_2 l dC dI L kd tys fr_169 H.size g.2.2.2.1 q0_ mq0_ kq0_ 41 1201 kb_1201 x_134 h_135 (g.fcts [0, 1] rfl)) (cwV 1 hts (gV_ t_1098 t_1099 t_1100 t_184 t_1101) rfl rfl rfl (by decide +kernel) ⟨(Nat.le_of_ble_eq_true rfl), (Nat.le_of_ble_eq_true rfl)⟩) (pre3V g hK mq0_ kq0_ (by decide) (q := (RX8, TX8, 10)) rfl) rfl rfl hl.1 rfl (lv_room (Nat.le_of_ble_eq_true rfl)) dX2_readMemberHead_266 ⟨(Nat.le_of_ble_eq_true rfl), (Nat.le_of_ble_eq_true rfl)⟩) g hK (by decide) (by decide) (fx' := [(8, 8, q0_, .int x_134), (2, 6, a0_, .int 0), (9, 8, q3_, .int x_25), (2, 5, a0_, .ref a_27), (7, 3, q2_, .int x_28), (6, 12, a_27, .int x_30), (5, 2, q1_, .int x_21), (7, 2, q2_, .ref a_18), (9, 9, q3_, .ref a_11), (2, 0, a0_, .ref q0_), (2, 1, a0_, .ref q1_), (2, 3, a0_, .ref q2_), (2, 4, a0_, .ref q3_), (5, 1, q1_, .ref q5_)]) rfl (fun fr_170 H locs hp hMr_170 g => ?_)
                            obtain ⟨x_171, h_172, hF_173⟩ := hp
                            have g := g.more hF_173
                            refine lv_iload hx hb dX2_readMemberHead_269 (lv_at hl 2 rfl) ?_
                            refine lv_iconst (v := (-1)) hx hb dX2_readMemberHead_271 (by decide) ?_
                            refine lv_icmp_eq (tgt := 308) hx hb dX2_readMemberHead_272 (by decide) (fun c_174 => ?_) (fun c_174 => ?_)
                            · have fc_174 := eq_f c_174
                              exact absurd fc_174 fc_23
                            · have fc_174 := neq_f c_174
                              refine lv_aload_n hx hb dX2_readMemberHead_275 rfl (lv_at hl 6 rfl) ?_
                              refine g_getk (C := RX2) (T := TX2) (N := 16) hx hb hts (mc_ inX2) hown hK g rfl 3 (by decide) rfl (hts _ (List.mem_cons_of_mem _ t_419)) (fun _ h9 => h9) 12 rfl dX2_readMemberHead_276 ?_
                              refine g_getk (C := RX7) (T := TX7) (N := 19) hx hb hts (mc_ inX7) hown hK g rfl 2 (by decide) rfl (hts _ (List.mem_cons_of_mem _ t_630)) (fun _ h9 => h9) 8 rfl dX2_readMemberHead_279 ?_
                              refine lv_iload hx hb dX2_readMemberHead_282 (lv_at hl 2 rfl) ?_
                              refine g_aald hx hb hK g ma_18 ka_18 (by decide) rfl (by decide) (in_bd bx_12 (by decide)) dX2_readMemberHead_284 (fun a_175 ma_175 ua_175 wa_175 => ?_)
                              have ka_175 : kd a_175 = 6 := by omega
                              refine g_geti (C := RX6) (T := TX6) (N := 13) hx hb hts (mc_ inX6) hown hK g ma_175 ka_175 (by decide) rfl 3 (by decide) rfl (hts _ (List.mem_cons_of_mem _ t_568)) (fun _ h9 => h9) rfl dX2_readMemberHead_285 (fun x_176 bx_176 g => ?_)
                              refine lv_aload_n hx hb dX2_readMemberHead_288 rfl (lv_at hl 6 rfl) ?_
                              refine g_getk (C := RX2) (T := TX2) (N := 16) hx hb hts (mc_ inX2) hown hK g rfl 5 (by decide) rfl (hts _ (List.mem_cons_of_mem _ t_421)) (fun _ h9 => h9) 5 rfl dX2_readMemberHead_289 ?_
                              refine g_geti (C := RX6) (T := TX6) (N := 13) hx hb hts (mc_ inX6) hown hK g ma_27 ka_27 (by decide) rfl 3 (by decide) rfl (hts _ (List.mem_cons_of_mem _ t_568)) (fun _ h9 => h9) rfl dX2_readMemberHead_292 (fun x_177 bx_177 g => ?_)
                              refine lv_icmp_eq (tgt := 308) hx hb dX2_readMemberHead_295 (by decide) (fun c_178 => ?_) (fun c_178 => ?_)
                              · have fc_178 := eq_f c_178
                                subst hQ
                                exact W.vret hx hb hr (fun t ht hW => ⟨⟨_, rfl, Or.inr (⟨x_171, h_172, x_134, h_135, a_27, ⟨ma_27, ka_27⟩, (g.fcts [2, 3, 6] rfl)⟩), q3_of g hK ht hW⟩, g.2.2.1.F ht⟩) g.2.2.1.2.2 dX2_readMemberHead_308
                              · have fc_178 := neq_f c_178
                                refine lv_aload_n hx hb dX2_readMemberHead_298 rfl (lv_at hl 6 rfl) ?_
                                refine g_getk (C := RX2) (T := TX2) (N := 16) hx hb hts (mc_ inX2) hown hK g rfl 0 (by decide) rfl (hts _ (List.mem_cons_of_mem _ t_416)) (fun _ h9 => h9) 12 rfl dX2_readMemberHead_299 ?_
                                refine lv_iconst (v := 5) hx hb dX2_readMemberHead_302 (by decide) ?_
                                refine lv_iload hx hb dX2_readMemberHead_303 (lv_at hl 0 rfl) ?_
                                have kb_5 : bd 5 5 (5 : Int32) := ⟨by decide, by decide⟩
                                refine g_callv (va_runV (As := [.int 5, .int r_169]) (rest := []) ⟨hx, hb, hml, hown, hts⟩ (r_X8_fail_2 l dC dI L kd tys fr_170 H.size g.2.2.2.1 q0_ mq0_ kq0_ 5 (bd_sub kb_5 (by decide)) r_169 x_134 h_135 (g.fcts [3] rfl)) (cwV 2 hts (gV_ t_1122 t_1107 t_1108 t_184 t_1109) rfl rfl rfl (by decide +kernel) ⟨(Nat.le_of_ble_eq_true rfl), (Nat.le_of_ble_eq_true rfl)⟩) (pre3V g hK mq0_ kq0_ (by decide) (q := (RX8, TX8, 10)) rfl) rfl rfl hl.1 rfl (lv_room (Nat.le_of_ble_eq_true rfl)) dX2_readMemberHead_305 ⟨(Nat.le_of_ble_eq_true rfl), (Nat.le_of_ble_eq_true rfl)⟩) g hK (by decide) (by decide) (fx' := [(6, 3, a_27, .int x_177), (6, 3, a_175, .int x_176), (8, 8, q0_, .int x_134), (2, 6, a0_, .int 0), (9, 8, q3_, .int x_25), (2, 5, a0_, .ref a_27), (7, 3, q2_, .int x_28), (6, 12, a_27, .int x_30), (5, 2, q1_, .int x_21), (7, 2, q2_, .ref a_18), (9, 9, q3_, .ref a_11), (2, 0, a0_, .ref q0_), (2, 1, a0_, .ref q1_), (2, 3, a0_, .ref q2_), (2, 4, a0_, .ref q3_), (5, 1, q1_, .ref q5_)]) rfl (fun fr_179 H locs hp hMr_179 g => ?_)
                                have hF_180 := hp
                                have g := g.more hF_180
                                subst hQ
                                exact W.vret hx hb hr (fun t ht hW => ⟨⟨_, rfl, Or.inr (⟨1201, kb_1201, x_134, h_135, a_27, ⟨ma_27, ka_27⟩, (g.fcts [0, 3, 6] rfl)⟩), q3_of g hK ht hW⟩, g.2.2.1.F ht⟩) g.2.2.1.2.2 dX2_readMemberHead_308
                have kb_0 : bd 0 0 (0 : Int32) := ⟨by decide, by decide⟩
                have kb_1 : bd 1 1 (1 : Int32) := ⟨by decide, by decide⟩
                have hl9 := lv_sub hl [0, 1, 2, 3, 4, 5, 6] (by rfl : lv_pick [(7, .int 0), (6, .int 1), (5, .int x_12), (4, .int r_7), (2, .long r_6), (1, .int r_5), (0, .ref a0_)] [0, 1, 2, 3, 4, 5, 6] = [(7, .int 0), (6, .int 1), (5, .int x_12), (4, .int r_7), (2, .long r_6), (1, .int r_5), (0, .ref a0_)])
                have g9 := g.sub (fx' := [(8, 6, q0_, .int x_38), (8, 8, q0_, .int y0_), (2, 6, a0_, .int 0), (9, 8, q3_, .int x_25), (2, 5, a0_, .ref a_27), (7, 3, q2_, .int x_28), (6, 12, a_27, .int x_30), (5, 2, q1_, .int x_21), (7, 2, q2_, .ref a_18), (9, 9, q3_, .ref a_11), (2, 0, a0_, .ref q0_), (2, 1, a0_, .ref q1_), (2, 3, a0_, .ref q2_), (2, 4, a0_, .ref q3_), (5, 1, q1_, .ref q5_)]) [0, 1, 2, 3, 4, 5, 6, 7, 8, 9, 10, 11, 12, 13, 14] rfl
                exact loop_71 (11) 0 1 x_38 (bd_sub kb_0 (by decide)) (bd_sub kb_1 (by decide)) h_39 (by have h9_0 := h_39; unfold bd at h9_0; have h9_1 := kb_0; unfold bd at h9_1; have h9_2 := kb_1; unfold bd at h9_2; have h9_3 := kb_3; unfold bd at h9_3; have h9_4 := kb_41; unfold bd at h9_4; have h9_5 := kb_m1; unfold bd at h9_5; omega) _ _ _ _ g9  hl9
            · have g := g.more hF_43
              refine lv_aload_n hx hb dX2_readMemberHead_177 rfl (lv_at hl 4 rfl) ?_
              refine g_getk (C := RX2) (T := TX2) (N := 16) hx hb hts (mc_ inX2) hown hK g rfl 0 (by decide) rfl (hts _ (List.mem_cons_of_mem _ t_416)) (fun _ h9 => h9) 10 rfl dX2_readMemberHead_178 ?_
              have kb_1201 : bd 1201 1201 (1201 : Int32) := ⟨by decide, by decide⟩
              refine g_calli (va_runV (As := []) (rest := []) ⟨hx, hb, hml, hown, hts⟩ (r_X8_kind_2 l dC dI L kd tys fr_37 H.size g.2.2.2.1 q0_ mq0_ kq0_ 1201 kb_1201 (g.fcts [0] rfl)) (cwV 0 hts (gV_ t_1118 t_1119 t_1120 t_184 t_1121) rfl rfl rfl (by decide +kernel) ⟨(Nat.le_of_ble_eq_true rfl), (Nat.le_of_ble_eq_true rfl)⟩) (pre3V g hK mq0_ kq0_ (by decide) (q := (RX8, TX8, 10)) rfl) rfl rfl hl.1 rfl (lv_room (Nat.le_of_ble_eq_true rfl)) dX2_readMemberHead_181 ⟨(Nat.le_of_ble_eq_true rfl), (Nat.le_of_ble_eq_true rfl)⟩) g hK (by decide) (by decide) (fx' := [(8, 6, q0_, .int 1201), (8, 8, q0_, .int x_41), (2, 6, a0_, .int 0), (9, 8, q3_, .int x_25), (2, 5, a0_, .ref a_27), (7, 3, q2_, .int x_28), (6, 12, a_27, .int x_30), (5, 2, q1_, .int x_21), (7, 2, q2_, .ref a_18), (9, 9, q3_, .ref a_11), (2, 0, a0_, .ref q0_), (2, 1, a0_, .ref q1_), (2, 3, a0_, .ref q2_), (2, 4, a0_, .ref q3_), (5, 1, q1_, .ref q5_)]) rfl (fun r_181 fr_181 H locs hp hMr_181 g => ?_)
              obtain ⟨h_182, -⟩ := hp
              obtain rfl : r_181 = 0 := h_182
              refine lv_bipush (v := 41) hx hb dX2_readMemberHead_184 (by decide) ?_
              refine lv_icmp_eq (tgt := 193) hx hb dX2_readMemberHead_186 (by decide) (fun c_ => absurd c_ (by decide)) (fun c_ => ?_)
              refine lv_iconst (v := 1) hx hb dX2_readMemberHead_189 (by decide) ?_
              refine lv_goto (tgt := 194) hx hb dX2_readMemberHead_190 (by decide) ?_
              refine lv_istore (lv' := [(6, .int 1), (5, .int x_12), (4, .int r_7), (2, .long r_6), (1, .int r_5), (0, .ref a0_)]) hx hb dX2_readMemberHead_194 hl (by decide) rfl (fun ls hl => ?_)
              refine lv_iconst (v := 0) hx hb dX2_readMemberHead_196 (by decide) ?_
              refine lv_istore (lv' := [(7, .int 0), (6, .int 1), (5, .int x_12), (4, .int r_7), (2, .long r_6), (1, .int r_5), (0, .ref a0_)]) hx hb dX2_readMemberHead_197 hl (by decide) rfl (fun ls hl => ?_)
              have loop_183 : ∀ (n : Nat) (v199_7 : Int32) (v199_6 : Int32), bd 0 4 v199_7 → bd 0 1 v199_6 → (4 - v199_7.toInt < (n : Int)) → ∀ (f : Nat → va_E) (H : Heap) (locs : List Loc) (ls : Array Slot), G3 (dC, dI) L kd tys s f0 [(2, 5), (2, 6), (5, 4), (6, 0), (6, 1), (6, 2), (6, 3), (6, 6), (6, 7), (6, 8), (6, 9), (6, 10), (6, 11), (6, 12), (7, 3), (8, 6), (8, 8), (8, 9), (9, 8)] [132, 134, 135, 156] f H locs [(8, 6, q0_, .int 1201), (8, 8, q0_, .int x_41), (2, 6, a0_, .int 0), (9, 8, q3_, .int x_25), (2, 5, a0_, .ref a_27), (7, 3, q2_, .int x_28), (6, 12, a_27, .int x_30), (5, 2, q1_, .int x_21), (7, 2, q2_, .ref a_18), (9, 9, q3_, .ref a_11), (2, 0, a0_, .ref q0_), (2, 1, a0_, .ref q1_), (2, 3, a0_, .ref q2_), (2, 4, a0_, .ref q3_), (5, 1, q1_, .ref q5_)] → lv_has ls 8 [(7, .int v199_7), (6, .int v199_6), (5, .int x_12), (4, .int r_7), (2, .long r_6), (1, .int r_5), (0, .ref a0_)] → W p l e ({ frames := 3, cells := 0, slots := 0, locals := 72 } : Room) s m [.ref a0_].toArray below meth c H locs 0 0 Q (F0 m 199 ls []) := by
                intro n199
                induction n199 with
                | zero =>
                  intro v199_7 v199_6 bv199_7 bv199_6 hm199 f H locs ls g  hl
                  exact absurd hm199 (by have h9_v199_7 := bv199_7; unfold bd at h9_v199_7; have h9_v199_6 := bv199_6; unfold bd at h9_v199_6; omega)
                | succ n199 ih199 =>
                  intro v199_7 v199_6 bv199_7 bv199_6 hm199 f H locs ls g  hl
                  refine lv_iload hx hb dX2_readMemberHead_199 (lv_at hl 0 rfl) ?_
                  refine lv_iconst (v := 3) hx hb dX2_readMemberHead_201 (by decide) ?_
                  refine lv_icmp_gt (tgt := 251) hx hb dX2_readMemberHead_202 (by decide) (fun c_184 => ?_) (fun c_184 => ?_)
                  · have fc_184 := lt_f c_184
                    have b_185 : bd 4 4 v199_7 := ltR fc_184 kb_3 bv199_7 (by decide)
                    refine lv_aload_n hx hb dX2_readMemberHead_251 rfl (lv_at hl 6 rfl) ?_
                    refine g_getk (C := RX2) (T := TX2) (N := 16) hx hb hts (mc_ inX2) hown hK g rfl 0 (by decide) rfl (hts _ (List.mem_cons_of_mem _ t_416)) (fun _ h9 => h9) 10 rfl dX2_readMemberHead_252 ?_
                    refine g_calli (va_runV (As := []) (rest := []) ⟨hx, hb, hml, hown, hts⟩ (r_X8_place l dC dI L kd tys f H.size g.2.2.2.1 q0_ mq0_ kq0_) (cwV 0 hts (gV_ t_1110 t_1111 t_1112 t_184 t_1113) rfl rfl rfl (by decide +kernel) ⟨(Nat.le_of_ble_eq_true rfl), (Nat.le_of_ble_eq_true rfl)⟩) (pre3V g hK mq0_ kq0_ (by decide) (q := (RX8, TX8, 10)) rfl) rfl rfl hl.1 rfl (lv_room (Nat.le_of_ble_eq_true rfl)) dX2_readMemberHead_255 ⟨(Nat.le_of_ble_eq_true rfl), (Nat.le_of_ble_eq_true rfl)⟩) g hK (by decide) (by decide) (fx' := [(8, 6, q0_, .int 1201), (8, 8, q0_, .int x_41), (2, 6, a0_, .int 0), (9, 8, q3_, .int x_25), (2, 5, a0_, .ref a_27), (7, 3, q2_, .int x_28), (6, 12, a_27, .int x_30), (5, 2, q1_, .int x_21), (7, 2, q2_, .ref a_18), (9, 9, q3_, .ref a_11), (2, 0, a0_, .ref q0_), (2, 1, a0_, .ref q1_), (2, 3, a0_, .ref q2_), (2, 4, a0_, .ref q3_), (5, 1, q1_, .ref q5_)]) rfl (fun r_186 fr_186 H locs hp hMr_186 g => ?_)
                    refine lv_istore (lv' := [(7, .int r_186), (6, .int v199_6), (5, .int x_12), (4, .int r_7), (2, .long r_6), (1, .int r_5), (0, .ref a0_)]) hx hb dX2_readMemberHead_258 hl (by decide) rfl (fun ls hl => ?_)
                    refine lv_aload_n hx hb dX2_readMemberHead_260 rfl (lv_at hl 6 rfl) ?_
                    refine g_getk (C := RX2) (T := TX2) (N := 16) hx hb hts (mc_ inX2) hown hK g rfl 0 (by decide) rfl (hts _ (List.mem_cons_of_mem _ t_416)) (fun _ h9 => h9) 10 rfl dX2_readMemberHead_261 ?_
                    refine lv_bipush (v := 41) hx hb dX2_readMemberHead_264 (by decide) ?_
                    refine g_callv (va_runV (As := [.int 41]) (rest := []) ⟨hx, hb, hml, hown, hts⟩ (r_X8_take_2 l dC dI L kd tys fr_186 H.size g.2.2.2.1 q0_ mq0_ kq0_ 41 1201 kb_1201 x_41 h_42 (g.fcts [0, 1] rfl)) (cwV 1 hts (gV_ t_1098 t_1099 t_1100 t_184 t_1101) rfl rfl rfl (by decide +kernel) ⟨(Nat.le_of_ble_eq_true rfl), (Nat.le_of_ble_eq_true rfl)⟩) (pre3V g hK mq0_ kq0_ (by decide) (q := (RX8, TX8, 10)) rfl) rfl rfl hl.1 rfl (lv_room (Nat.le_of_ble_eq_true rfl)) dX2_readMemberHead_266 ⟨(Nat.le_of_ble_eq_true rfl), (Nat.le_of_ble_eq_true rfl)⟩) g hK (by decide) (by decide) (fx' := [(8, 8, q0_, .int x_41), (2, 6, a0_, .int 0), (9, 8, q3_, .int x_25), (2, 5, a0_, .ref a_27), (7, 3, q2_, .int x_28), (6, 12, a_27, .int x_30), (5, 2, q1_, .int x_21), (7, 2, q2_, .ref a_18), (9, 9, q3_, .ref a_11), (2, 0, a0_, .ref q0_), (2, 1, a0_, .ref q1_), (2, 3, a0_, .ref q2_), (2, 4, a0_, .ref q3_), (5, 1, q1_, .ref q5_)]) rfl (fun fr_187 H locs hp hMr_187 g => ?_)
                    obtain ⟨x_188, h_189, hF_190⟩ := hp
                    have g := g.more hF_190
                    refine lv_iload hx hb dX2_readMemberHead_269 (lv_at hl 2 rfl) ?_
                    refine lv_iconst (v := (-1)) hx hb dX2_readMemberHead_271 (by decide) ?_
                    refine lv_icmp_eq (tgt := 308) hx hb dX2_readMemberHead_272 (by decide) (fun c_191 => ?_) (fun c_191 => ?_)
                    · have fc_191 := eq_f c_191
                      exact absurd fc_191 fc_23
                    · have fc_191 := neq_f c_191
                      refine lv_aload_n hx hb dX2_readMemberHead_275 rfl (lv_at hl 6 rfl) ?_
                      refine g_getk (C := RX2) (T := TX2) (N := 16) hx hb hts (mc_ inX2) hown hK g rfl 3 (by decide) rfl (hts _ (List.mem_cons_of_mem _ t_419)) (fun _ h9 => h9) 12 rfl dX2_readMemberHead_276 ?_
                      refine g_getk (C := RX7) (T := TX7) (N := 19) hx hb hts (mc_ inX7) hown hK g rfl 2 (by decide) rfl (hts _ (List.mem_cons_of_mem _ t_630)) (fun _ h9 => h9) 8 rfl dX2_readMemberHead_279 ?_
                      refine lv_iload hx hb dX2_readMemberHead_282 (lv_at hl 2 rfl) ?_
                      refine g_aald hx hb hK g ma_18 ka_18 (by decide) rfl (by decide) (in_bd bx_12 (by decide)) dX2_readMemberHead_284 (fun a_192 ma_192 ua_192 wa_192 => ?_)
                      have ka_192 : kd a_192 = 6 := by omega
                      refine g_geti (C := RX6) (T := TX6) (N := 13) hx hb hts (mc_ inX6) hown hK g ma_192 ka_192 (by decide) rfl 3 (by decide) rfl (hts _ (List.mem_cons_of_mem _ t_568)) (fun _ h9 => h9) rfl dX2_readMemberHead_285 (fun x_193 bx_193 g => ?_)
                      refine lv_aload_n hx hb dX2_readMemberHead_288 rfl (lv_at hl 6 rfl) ?_
                      refine g_getk (C := RX2) (T := TX2) (N := 16) hx hb hts (mc_ inX2) hown hK g rfl 5 (by decide) rfl (hts _ (List.mem_cons_of_mem _ t_421)) (fun _ h9 => h9) 5 rfl dX2_readMemberHead_289 ?_
                      refine g_geti (C := RX6) (T := TX6) (N := 13) hx hb hts (mc_ inX6) hown hK g ma_27 ka_27 (by decide) rfl 3 (by decide) rfl (hts _ (List.mem_cons_of_mem _ t_568)) (fun _ h9 => h9) rfl dX2_readMemberHead_292 (fun x_194 bx_194 g => ?_)
                      refine lv_icmp_eq (tgt := 308) hx hb dX2_readMemberHead_295 (by decide) (fun c_195 => ?_) (fun c_195 => ?_)
                      · have fc_195 := eq_f c_195
                        subst hQ
                        exact W.vret hx hb hr (fun t ht hW => ⟨⟨_, rfl, Or.inr (⟨x_188, h_189, x_41, h_42, a_27, ⟨ma_27, ka_27⟩, (g.fcts [2, 3, 6] rfl)⟩), q3_of g hK ht hW⟩, g.2.2.1.F ht⟩) g.2.2.1.2.2 dX2_readMemberHead_308
                      · have fc_195 := neq_f c_195
                        refine lv_aload_n hx hb dX2_readMemberHead_298 rfl (lv_at hl 6 rfl) ?_
                        refine g_getk (C := RX2) (T := TX2) (N := 16) hx hb hts (mc_ inX2) hown hK g rfl 0 (by decide) rfl (hts _ (List.mem_cons_of_mem _ t_416)) (fun _ h9 => h9) 12 rfl dX2_readMemberHead_299 ?_
                        refine lv_iconst (v := 5) hx hb dX2_readMemberHead_302 (by decide) ?_
                        refine lv_iload hx hb dX2_readMemberHead_303 (lv_at hl 0 rfl) ?_
                        have kb_5 : bd 5 5 (5 : Int32) := ⟨by decide, by decide⟩
                        refine g_callv (va_runV (As := [.int 5, .int r_186]) (rest := []) ⟨hx, hb, hml, hown, hts⟩ (r_X8_fail_2 l dC dI L kd tys fr_187 H.size g.2.2.2.1 q0_ mq0_ kq0_ 5 (bd_sub kb_5 (by decide)) r_186 x_41 h_42 (g.fcts [3] rfl)) (cwV 2 hts (gV_ t_1122 t_1107 t_1108 t_184 t_1109) rfl rfl rfl (by decide +kernel) ⟨(Nat.le_of_ble_eq_true rfl), (Nat.le_of_ble_eq_true rfl)⟩) (pre3V g hK mq0_ kq0_ (by decide) (q := (RX8, TX8, 10)) rfl) rfl rfl hl.1 rfl (lv_room (Nat.le_of_ble_eq_true rfl)) dX2_readMemberHead_305 ⟨(Nat.le_of_ble_eq_true rfl), (Nat.le_of_ble_eq_true rfl)⟩) g hK (by decide) (by decide) (fx' := [(6, 3, a_27, .int x_194), (6, 3, a_192, .int x_193), (8, 8, q0_, .int x_41), (2, 6, a0_, .int 0), (9, 8, q3_, .int x_25), (2, 5, a0_, .ref a_27), (7, 3, q2_, .int x_28), (6, 12, a_27, .int x_30), (5, 2, q1_, .int x_21), (7, 2, q2_, .ref a_18), (9, 9, q3_, .ref a_11), (2, 0, a0_, .ref q0_), (2, 1, a0_, .ref q1_), (2, 3, a0_, .ref q2_), (2, 4, a0_, .ref q3_), (5, 1, q1_, .ref q5_)]) rfl (fun fr_196 H locs hp hMr_196 g => ?_)
                        have hF_197 := hp
                        have g := g.more hF_197
                        subst hQ
                        exact W.vret hx hb hr (fun t ht hW => ⟨⟨_, rfl, Or.inr (⟨1201, kb_1201, x_41, h_42, a_27, ⟨ma_27, ka_27⟩, (g.fcts [0, 3, 6] rfl)⟩), q3_of g hK ht hW⟩, g.2.2.1.F ht⟩) g.2.2.1.2.2 dX2_readMemberHead_308
                  · have fc_184 := nlt_f c_184
                    have b_198 : bd 0 3 v199_7 := leL fc_184 bv199_7 kb_3 (by decide)
                    refine lv_iload hx hb dX2_readMemberHead_205 (lv_at hl 1 rfl) ?_
                    have kb_0 : bd 0 0 (0 : Int32) := ⟨by decide, by decide⟩
                    refine lv_if_eq (tgt := 251) hx hb dX2_readMemberHead_207 (by decide) (fun c_199 => ?_) (fun c_199 => ?_)
                    · have fc_199 := eq_f c_199
                      have b_200 : bd 0 0 v199_6 := eqX fc_199 bv199_6 kb_0 (by decide)
                      refine lv_aload_n hx hb dX2_readMemberHead_251 rfl (lv_at hl 6 rfl) ?_
                      refine g_getk (C := RX2) (T := TX2) (N := 16) hx hb hts (mc_ inX2) hown hK g rfl 0 (by decide) rfl (hts _ (List.mem_cons_of_mem _ t_416)) (fun _ h9 => h9) 10 rfl dX2_readMemberHead_252 ?_
                      refine g_calli (va_runV (As := []) (rest := []) ⟨hx, hb, hml, hown, hts⟩ (r_X8_place l dC dI L kd tys f H.size g.2.2.2.1 q0_ mq0_ kq0_) (cwV 0 hts (gV_ t_1110 t_1111 t_1112 t_184 t_1113) rfl rfl rfl (by decide +kernel) ⟨(Nat.le_of_ble_eq_true rfl), (Nat.le_of_ble_eq_true rfl)⟩) (pre3V g hK mq0_ kq0_ (by decide) (q := (RX8, TX8, 10)) rfl) rfl rfl hl.1 rfl (lv_room (Nat.le_of_ble_eq_true rfl)) dX2_readMemberHead_255 ⟨(Nat.le_of_ble_eq_true rfl), (Nat.le_of_ble_eq_true rfl)⟩) g hK (by decide) (by decide) (fx' := [(8, 6, q0_, .int 1201), (8, 8, q0_, .int x_41), (2, 6, a0_, .int 0), (9, 8, q3_, .int x_25), (2, 5, a0_, .ref a_27), (7, 3, q2_, .int x_28), (6, 12, a_27, .int x_30), (5, 2, q1_, .int x_21), (7, 2, q2_, .ref a_18), (9, 9, q3_, .ref a_11), (2, 0, a0_, .ref q0_), (2, 1, a0_, .ref q1_), (2, 3, a0_, .ref q2_), (2, 4, a0_, .ref q3_), (5, 1, q1_, .ref q5_)]) rfl (fun r_201 fr_201 H locs hp hMr_201 g => ?_)
                      refine lv_istore (lv' := [(7, .int r_201), (6, .int v199_6), (5, .int x_12), (4, .int r_7), (2, .long r_6), (1, .int r_5), (0, .ref a0_)]) hx hb dX2_readMemberHead_258 hl (by decide) rfl (fun ls hl => ?_)
                      refine lv_aload_n hx hb dX2_readMemberHead_260 rfl (lv_at hl 6 rfl) ?_
                      refine g_getk (C := RX2) (T := TX2) (N := 16) hx hb hts (mc_ inX2) hown hK g rfl 0 (by decide) rfl (hts _ (List.mem_cons_of_mem _ t_416)) (fun _ h9 => h9) 10 rfl dX2_readMemberHead_261 ?_
                      refine lv_bipush (v := 41) hx hb dX2_readMemberHead_264 (by decide) ?_
                      refine g_callv (va_runV (As := [.int 41]) (rest := []) ⟨hx, hb, hml, hown, hts⟩ (r_X8_take_2 l dC dI L kd tys fr_201 H.size g.2.2.2.1 q0_ mq0_ kq0_ 41 1201 kb_1201 x_41 h_42 (g.fcts [0, 1] rfl)) (cwV 1 hts (gV_ t_1098 t_1099 t_1100 t_184 t_1101) rfl rfl rfl (by decide +kernel) ⟨(Nat.le_of_ble_eq_true rfl), (Nat.le_of_ble_eq_true rfl)⟩) (pre3V g hK mq0_ kq0_ (by decide) (q := (RX8, TX8, 10)) rfl) rfl rfl hl.1 rfl (lv_room (Nat.le_of_ble_eq_true rfl)) dX2_readMemberHead_266 ⟨(Nat.le_of_ble_eq_true rfl), (Nat.le_of_ble_eq_true rfl)⟩) g hK (by decide) (by decide) (fx' := [(8, 8, q0_, .int x_41), (2, 6, a0_, .int 0), (9, 8, q3_, .int x_25), (2, 5, a0_, .ref a_27), (7, 3, q2_, .int x_28), (6, 12, a_27, .int x_30), (5, 2, q1_, .int x_21), (7, 2, q2_, .ref a_18), (9, 9, q3_, .ref a_11), (2, 0, a0_, .ref q0_), (2, 1, a0_, .ref q1_), (2, 3, a0_, .ref q2_), (2, 4, a0_, .ref q3_), (5, 1, q1_, .ref q5_)]) rfl (fun fr_202 H locs hp hMr_202 g => ?_)
                      obtain ⟨x_203, h_204, hF_205⟩ := hp
                      have g := g.more hF_205
                      refine lv_iload hx hb dX2_readMemberHead_269 (lv_at hl 2 rfl) ?_
                      refine lv_iconst (v := (-1)) hx hb dX2_readMemberHead_271 (by decide) ?_
                      refine lv_icmp_eq (tgt := 308) hx hb dX2_readMemberHead_272 (by decide) (fun c_206 => ?_) (fun c_206 => ?_)
                      · have fc_206 := eq_f c_206
                        exact absurd fc_206 fc_23
                      · have fc_206 := neq_f c_206
                        refine lv_aload_n hx hb dX2_readMemberHead_275 rfl (lv_at hl 6 rfl) ?_
                        refine g_getk (C := RX2) (T := TX2) (N := 16) hx hb hts (mc_ inX2) hown hK g rfl 3 (by decide) rfl (hts _ (List.mem_cons_of_mem _ t_419)) (fun _ h9 => h9) 12 rfl dX2_readMemberHead_276 ?_
                        refine g_getk (C := RX7) (T := TX7) (N := 19) hx hb hts (mc_ inX7) hown hK g rfl 2 (by decide) rfl (hts _ (List.mem_cons_of_mem _ t_630)) (fun _ h9 => h9) 8 rfl dX2_readMemberHead_279 ?_
                        refine lv_iload hx hb dX2_readMemberHead_282 (lv_at hl 2 rfl) ?_
                        refine g_aald hx hb hK g ma_18 ka_18 (by decide) rfl (by decide) (in_bd bx_12 (by decide)) dX2_readMemberHead_284 (fun a_207 ma_207 ua_207 wa_207 => ?_)
                        have ka_207 : kd a_207 = 6 := by omega
                        refine g_geti (C := RX6) (T := TX6) (N := 13) hx hb hts (mc_ inX6) hown hK g ma_207 ka_207 (by decide) rfl 3 (by decide) rfl (hts _ (List.mem_cons_of_mem _ t_568)) (fun _ h9 => h9) rfl dX2_readMemberHead_285 (fun x_208 bx_208 g => ?_)
                        refine lv_aload_n hx hb dX2_readMemberHead_288 rfl (lv_at hl 6 rfl) ?_
                        refine g_getk (C := RX2) (T := TX2) (N := 16) hx hb hts (mc_ inX2) hown hK g rfl 5 (by decide) rfl (hts _ (List.mem_cons_of_mem _ t_421)) (fun _ h9 => h9) 5 rfl dX2_readMemberHead_289 ?_
                        refine g_geti (C := RX6) (T := TX6) (N := 13) hx hb hts (mc_ inX6) hown hK g ma_27 ka_27 (by decide) rfl 3 (by decide) rfl (hts _ (List.mem_cons_of_mem _ t_568)) (fun _ h9 => h9) rfl dX2_readMemberHead_292 (fun x_209 bx_209 g => ?_)
                        refine lv_icmp_eq (tgt := 308) hx hb dX2_readMemberHead_295 (by decide) (fun c_210 => ?_) (fun c_210 => ?_)
                        · have fc_210 := eq_f c_210
                          subst hQ
                          exact W.vret hx hb hr (fun t ht hW => ⟨⟨_, rfl, Or.inr (⟨x_203, h_204, x_41, h_42, a_27, ⟨ma_27, ka_27⟩, (g.fcts [2, 3, 6] rfl)⟩), q3_of g hK ht hW⟩, g.2.2.1.F ht⟩) g.2.2.1.2.2 dX2_readMemberHead_308
                        · have fc_210 := neq_f c_210
                          refine lv_aload_n hx hb dX2_readMemberHead_298 rfl (lv_at hl 6 rfl) ?_
                          refine g_getk (C := RX2) (T := TX2) (N := 16) hx hb hts (mc_ inX2) hown hK g rfl 0 (by decide) rfl (hts _ (List.mem_cons_of_mem _ t_416)) (fun _ h9 => h9) 12 rfl dX2_readMemberHead_299 ?_
                          refine lv_iconst (v := 5) hx hb dX2_readMemberHead_302 (by decide) ?_
                          refine lv_iload hx hb dX2_readMemberHead_303 (lv_at hl 0 rfl) ?_
                          have kb_5 : bd 5 5 (5 : Int32) := ⟨by decide, by decide⟩
                          refine g_callv (va_runV (As := [.int 5, .int r_201]) (rest := []) ⟨hx, hb, hml, hown, hts⟩ (r_X8_fail_2 l dC dI L kd tys fr_202 H.size g.2.2.2.1 q0_ mq0_ kq0_ 5 (bd_sub kb_5 (by decide)) r_201 x_41 h_42 (g.fcts [3] rfl)) (cwV 2 hts (gV_ t_1122 t_1107 t_1108 t_184 t_1109) rfl rfl rfl (by decide +kernel) ⟨(Nat.le_of_ble_eq_true rfl), (Nat.le_of_ble_eq_true rfl)⟩) (pre3V g hK mq0_ kq0_ (by decide) (q := (RX8, TX8, 10)) rfl) rfl rfl hl.1 rfl (lv_room (Nat.le_of_ble_eq_true rfl)) dX2_readMemberHead_305 ⟨(Nat.le_of_ble_eq_true rfl), (Nat.le_of_ble_eq_true rfl)⟩) g hK (by decide) (by decide) (fx' := [(6, 3, a_27, .int x_209), (6, 3, a_207, .int x_208), (8, 8, q0_, .int x_41), (2, 6, a0_, .int 0), (9, 8, q3_, .int x_25), (2, 5, a0_, .ref a_27), (7, 3, q2_, .int x_28), (6, 12, a_27, .int x_30), (5, 2, q1_, .int x_21), (7, 2, q2_, .ref a_18), (9, 9, q3_, .ref a_11), (2, 0, a0_, .ref q0_), (2, 1, a0_, .ref q1_), (2, 3, a0_, .ref q2_), (2, 4, a0_, .ref q3_), (5, 1, q1_, .ref q5_)]) rfl (fun fr_211 H locs hp hMr_211 g => ?_)
                          have hF_212 := hp
                          have g := g.more hF_212
                          subst hQ
                          exact W.vret hx hb hr (fun t ht hW => ⟨⟨_, rfl, Or.inr (⟨1201, kb_1201, x_41, h_42, a_27, ⟨ma_27, ka_27⟩, (g.fcts [0, 3, 6] rfl)⟩), q3_of g hK ht hW⟩, g.2.2.1.F ht⟩) g.2.2.1.2.2 dX2_readMemberHead_308
                    · have fc_199 := neq_f c_199
                      have b_213 : bd 1 1 v199_6 := neX fc_199 bv199_6 kb_0 (by decide)
                      refine lv_aload_n hx hb dX2_readMemberHead_210 rfl (lv_at hl 6 rfl) ?_
                      refine g_callv (va_runV (As := []) (rest := []) ⟨hx, hb, hml, hown, hts⟩ (r_X2_readParam_2 l dC dI L kd tys f H.size g.2.2.2.1 a0_ ma0_ ka0_ q0_ mq0_ kq0_ q1_ mq1_ kq1_ a_27 ma_27 ka_27 q5_ mq5_ kq5_ 1201 kb_1201 x_41 h_42 (g.fcts [10, 11, 4, 14, 0, 1] rfl)) (cwV 0 hts (gV_ t_1313 t_1315 t_34 t_183 t_1316) rfl rfl rfl (by decide +kernel) ⟨(Nat.le_of_ble_eq_true rfl), (Nat.le_of_ble_eq_true rfl)⟩) (pre3V g hK ma0_ ka0_ (by decide) (q := (RX2, TX2, 16)) rfl) rfl rfl hl.1 rfl (lv_room (Nat.le_of_ble_eq_true rfl)) dX2_readMemberHead_211 ⟨(Nat.le_of_ble_eq_true rfl), (Nat.le_of_ble_eq_true rfl)⟩) g hK (by decide) (by decide) (fx' := [(8, 8, q0_, .int x_41), (2, 6, a0_, .int 0), (9, 8, q3_, .int x_25), (2, 5, a0_, .ref a_27), (7, 3, q2_, .int x_28), (6, 12, a_27, .int x_30), (5, 2, q1_, .int x_21), (7, 2, q2_, .ref a_18), (9, 9, q3_, .ref a_11), (2, 0, a0_, .ref q0_), (2, 1, a0_, .ref q1_), (2, 3, a0_, .ref q2_), (2, 4, a0_, .ref q3_), (5, 1, q1_, .ref q5_)]) rfl (fun fr_214 H locs hp hMr_214 g => ?_)
                      have hF_215 := hp
                      have g := g.more hF_215
                      refine lv_aload_n hx hb dX2_readMemberHead_214 rfl (lv_at hl 6 rfl) ?_
                      refine g_getk (C := RX2) (T := TX2) (N := 16) hx hb hts (mc_ inX2) hown hK g rfl 0 (by decide) rfl (hts _ (List.mem_cons_of_mem _ t_416)) (fun _ h9 => h9) 10 rfl dX2_readMemberHead_215 ?_
                      refine g_calli (va_runV (As := []) (rest := []) ⟨hx, hb, hml, hown, hts⟩ (r_X8_kind_2 l dC dI L kd tys fr_214 H.size g.2.2.2.1 q0_ mq0_ kq0_ 1201 kb_1201 (g.fcts [0] rfl)) (cwV 0 hts (gV_ t_1118 t_1119 t_1120 t_184 t_1121) rfl rfl rfl (by decide +kernel) ⟨(Nat.le_of_ble_eq_true rfl), (Nat.le_of_ble_eq_true rfl)⟩) (pre3V g hK mq0_ kq0_ (by decide) (q := (RX8, TX8, 10)) rfl) rfl rfl hl.1 rfl (lv_room (Nat.le_of_ble_eq_true rfl)) dX2_readMemberHead_218 ⟨(Nat.le_of_ble_eq_true rfl), (Nat.le_of_ble_eq_true rfl)⟩) g hK (by decide) (by decide) (fx' := [(8, 6, q0_, .int 1201), (8, 8, q0_, .int x_41), (2, 6, a0_, .int 0), (9, 8, q3_, .int x_25), (2, 5, a0_, .ref a_27), (7, 3, q2_, .int x_28), (6, 12, a_27, .int x_30), (5, 2, q1_, .int x_21), (7, 2, q2_, .ref a_18), (9, 9, q3_, .ref a_11), (2, 0, a0_, .ref q0_), (2, 1, a0_, .ref q1_), (2, 3, a0_, .ref q2_), (2, 4, a0_, .ref q3_), (5, 1, q1_, .ref q5_)]) rfl (fun r_216 fr_216 H locs hp hMr_216 g => ?_)
                      obtain ⟨h_217, -⟩ := hp
                      obtain rfl : r_216 = 0 := h_217
                      refine lv_bipush (v := 44) hx hb dX2_readMemberHead_221 (by decide) ?_
                      refine lv_icmp_ne (tgt := 230) hx hb dX2_readMemberHead_223 (by decide) (fun c_ => ?_) (fun c_ => absurd c_ (by decide))
                      refine lv_iconst (v := 0) hx hb dX2_readMemberHead_230 (by decide) ?_
                      refine lv_istore (lv' := [(6, .int 0), (7, .int v199_7), (5, .int x_12), (4, .int r_7), (2, .long r_6), (1, .int r_5), (0, .ref a0_)]) hx hb dX2_readMemberHead_231 hl (by decide) rfl (fun ls hl => ?_)
                      refine lv_iload hx hb dX2_readMemberHead_233 (lv_at hl 0 rfl) ?_
                      refine lv_if_eq (tgt := 245) hx hb dX2_readMemberHead_235 (by decide) (fun c_ => ?_) (fun c_ => absurd (by decide) c_)
                      have kb_1 : bd 1 1 (1 : Int32) := ⟨by decide, by decide⟩
                      obtain ⟨y_218, ey_218⟩ : ∃ z : Int32, z = v199_7 + 1 := ⟨_, rfl⟩
                      refine lv_iinc (v := y_218) (lv' := [(7, .int y_218), (6, .int 0), (5, .int x_12), (4, .int r_7), (2, .long r_6), (1, .int r_5), (0, .ref a0_)]) hx hb dX2_readMemberHead_245 hl (k := 1) rfl (by rw [ey_218]; rfl) (by decide) rfl (fun ls hl => ?_)
                      have ty_218 := add_bd ey_218 b_198 kb_1 (by decide)
                      have b_219 : bd 1 4 y_218 := add_rg ty_218 b_198 kb_1 (by decide)
                      refine lv_goto (tgt := 199) hx hb dX2_readMemberHead_248 (by decide) ?_
                      have hl9 := lv_sub hl [0, 1, 2, 3, 4, 5, 6] (by rfl : lv_pick [(7, .int y_218), (6, .int 0), (5, .int x_12), (4, .int r_7), (2, .long r_6), (1, .int r_5), (0, .ref a0_)] [0, 1, 2, 3, 4, 5, 6] = [(7, .int y_218), (6, .int 0), (5, .int x_12), (4, .int r_7), (2, .long r_6), (1, .int r_5), (0, .ref a0_)])
                      have g9 := g.sub (fx' := [(8, 6, q0_, .int 1201), (8, 8, q0_, .int x_41), (2, 6, a0_, .int 0), (9, 8, q3_, .int x_25), (2, 5, a0_, .ref a_27), (7, 3, q2_, .int x_28), (6, 12, a_27, .int x_30), (5, 2, q1_, .int x_21), (7, 2, q2_, .ref a_18), (9, 9, q3_, .ref a_11), (2, 0, a0_, .ref q0_), (2, 1, a0_, .ref q1_), (2, 3, a0_, .ref q2_), (2, 4, a0_, .ref q3_), (5, 1, q1_, .ref q5_)]) [0, 1, 2, 3, 4, 5, 6, 7, 8, 9, 10, 11, 12, 13, 14] rfl
                      exact ih199  y_218 0 (bd_sub b_219 (by decide)) (bd_sub kb_0 (by decide)) (by have h9_0 := b_219; unfold bd at h9_0; have h9_1 := bv199_6; unfold bd at h9_1; have h9_2 := bv199_7; unfold bd at h9_2; have h9_3 := kb_0; unfold bd at h9_3; have h9_4 := kb_1; unfold bd at h9_4; have h9_5 := kb_1201; unfold bd at h9_5; have h9_6 := kb_3; unfold bd at h9_6; have h9_7 := kb_m1; unfold bd at h9_7; omega) _ _ _ _ g9  hl9
              have kb_0 : bd 0 0 (0 : Int32) := ⟨by decide, by decide⟩
              have kb_1 : bd 1 1 (1 : Int32) := ⟨by decide, by decide⟩
              have hl9 := lv_sub hl [0, 1, 2, 3, 4, 5, 6] (by rfl : lv_pick [(7, .int 0), (6, .int 1), (5, .int x_12), (4, .int r_7), (2, .long r_6), (1, .int r_5), (0, .ref a0_)] [0, 1, 2, 3, 4, 5, 6] = [(7, .int 0), (6, .int 1), (5, .int x_12), (4, .int r_7), (2, .long r_6), (1, .int r_5), (0, .ref a0_)])
              have g9 := g.sub (fx' := [(8, 6, q0_, .int 1201), (8, 8, q0_, .int x_41), (2, 6, a0_, .int 0), (9, 8, q3_, .int x_25), (2, 5, a0_, .ref a_27), (7, 3, q2_, .int x_28), (6, 12, a_27, .int x_30), (5, 2, q1_, .int x_21), (7, 2, q2_, .ref a_18), (9, 9, q3_, .ref a_11), (2, 0, a0_, .ref q0_), (2, 1, a0_, .ref q1_), (2, 3, a0_, .ref q2_), (2, 4, a0_, .ref q3_), (5, 1, q1_, .ref q5_)]) [0, 1, 2, 3, 4, 5, 6, 7, 8, 9, 10, 11, 12, 13, 14] rfl
              exact loop_183 (11) 0 1 (bd_sub kb_0 (by decide)) (bd_sub kb_1 (by decide)) (by have h9_0 := kb_0; unfold bd at h9_0; have h9_1 := kb_1; unfold bd at h9_1; have h9_2 := kb_1201; unfold bd at h9_2; have h9_3 := kb_3; unfold bd at h9_3; have h9_4 := kb_m1; unfold bd at h9_4; omega) _ _ _ _ g9  hl9
          · have fc_23 := eq_f c_23
            exact absurd fc_23 fc_16
        · have fc_22 := eq_f c_22
          refine lv_aload_n hx hb dX2_readMemberHead_111 rfl (lv_at hl 4 rfl) ?_
          refine g_getk (C := RX2) (T := TX2) (N := 16) hx hb hts (mc_ inX2) hown hK g rfl 0 (by decide) rfl (hts _ (List.mem_cons_of_mem _ t_416)) (fun _ h9 => h9) 5 rfl dX2_readMemberHead_112 ?_
          refine lv_iconst (v := 2) hx hb dX2_readMemberHead_115 (by decide) ?_
          refine lv_iload_n hx hb dX2_readMemberHead_116 rfl (lv_at hl 3 rfl) ?_
          have kb_2 : bd 2 2 (2 : Int32) := ⟨by decide, by decide⟩
          refine g_callv (va_runV (As := [.int 2, .int r_5]) (rest := []) ⟨hx, hb, hml, hown, hts⟩ (r_X8_fail l dC dI L kd tys fr_13 H.size g.2.2.2.1 q0_ mq0_ kq0_ 2 (bd_sub kb_2 (by decide)) r_5 y0_ by0_ (g.fcts [11] rfl)) (cwV 2 hts (gV_ t_1122 t_1107 t_1108 t_184 t_1109) rfl rfl rfl (by decide +kernel) ⟨(Nat.le_of_ble_eq_true rfl), (Nat.le_of_ble_eq_true rfl)⟩) (pre3V g hK mq0_ kq0_ (by decide) (q := (RX8, TX8, 10)) rfl) rfl rfl hl.1 rfl (lv_room (Nat.le_of_ble_eq_true rfl)) dX2_readMemberHead_117 ⟨(Nat.le_of_ble_eq_true rfl), (Nat.le_of_ble_eq_true rfl)⟩) g hK (by decide) (by decide) (fx' := [(5, 2, q1_, .int x_21), (6, 2, a_19, .int x_20), (7, 2, q2_, .ref a_18), (9, 9, q3_, .ref a_11), (2, 0, a0_, .ref q0_), (2, 1, a0_, .ref q1_), (2, 3, a0_, .ref q2_), (2, 4, a0_, .ref q3_), (2, 5, a0_, .ref q4_), (5, 1, q1_, .ref q5_)]) rfl (fun fr_220 H locs hp hMr_220 g => ?_)
          obtain ⟨x_221, h_222, hF_223⟩ := hp
          have g := g.more hF_223
          refine lv_goto (tgt := 161) hx hb dX2_readMemberHead_120 (by decide) ?_
          refine lv_aload_n hx hb dX2_readMemberHead_161 rfl (lv_at hl 4 rfl) ?_
          refine g_getk (C := RX2) (T := TX2) (N := 16) hx hb hts (mc_ inX2) hown hK g rfl 0 (by decide) rfl (hts _ (List.mem_cons_of_mem _ t_416)) (fun _ h9 => h9) 6 rfl dX2_readMemberHead_162 ?_
          have kb_1201 : bd 1201 1201 (1201 : Int32) := ⟨by decide, by decide⟩
          refine g_callv (va_runV (As := []) (rest := []) ⟨hx, hb, hml, hown, hts⟩ (r_X8_next_2 l dC dI L kd tys fr_220 H.size g.2.2.2.1 q0_ mq0_ kq0_ 1201 kb_1201 (g.fcts [0] rfl)) (cwV 0 hts (gV_ t_1131 t_1103 t_1104 t_184 t_1105) rfl rfl rfl (by decide +kernel) ⟨(Nat.le_of_ble_eq_true rfl), (Nat.le_of_ble_eq_true rfl)⟩) (pre3V g hK mq0_ kq0_ (by decide) (q := (RX8, TX8, 10)) rfl) rfl rfl hl.1 rfl (lv_room (Nat.le_of_ble_eq_true rfl)) dX2_readMemberHead_165 ⟨(Nat.le_of_ble_eq_true rfl), (Nat.le_of_ble_eq_true rfl)⟩) g hK (by decide) (by decide) (fx' := [(8, 6, q0_, .int 1201), (8, 8, q0_, .int x_221), (5, 2, q1_, .int x_21), (6, 2, a_19, .int x_20), (7, 2, q2_, .ref a_18), (9, 9, q3_, .ref a_11), (2, 0, a0_, .ref q0_), (2, 1, a0_, .ref q1_), (2, 3, a0_, .ref q2_), (2, 4, a0_, .ref q3_), (2, 5, a0_, .ref q4_), (5, 1, q1_, .ref q5_)]) rfl (fun fr_224 H locs hp hMr_224 g => ?_)
          refine lv_aload_n hx hb dX2_readMemberHead_168 rfl (lv_at hl 4 rfl) ?_
          refine g_getk (C := RX2) (T := TX2) (N := 16) hx hb hts (mc_ inX2) hown hK g rfl 0 (by decide) rfl (hts _ (List.mem_cons_of_mem _ t_416)) (fun _ h9 => h9) 6 rfl dX2_readMemberHead_169 ?_
          refine lv_bipush (v := 40) hx hb dX2_readMemberHead_172 (by decide) ?_
          refine g_callv (va_runV (As := [.int 40]) (rest := []) ⟨hx, hb, hml, hown, hts⟩ (r_X8_take_2 l dC dI L kd tys fr_224 H.size g.2.2.2.1 q0_ mq0_ kq0_ 40 1201 kb_1201 x_221 h_222 (g.fcts [0, 1] rfl)) (cwV 1 hts (gV_ t_1098 t_1099 t_1100 t_184 t_1101) rfl rfl rfl (by decide +kernel) ⟨(Nat.le_of_ble_eq_true rfl), (Nat.le_of_ble_eq_true rfl)⟩) (pre3V g hK mq0_ kq0_ (by decide) (q := (RX8, TX8, 10)) rfl) rfl rfl hl.1 rfl (lv_room (Nat.le_of_ble_eq_true rfl)) dX2_readMemberHead_174 ⟨(Nat.le_of_ble_eq_true rfl), (Nat.le_of_ble_eq_true rfl)⟩) g hK (by decide) (by decide) (fx' := [(8, 8, q0_, .int x_221), (5, 2, q1_, .int x_21), (6, 2, a_19, .int x_20), (7, 2, q2_, .ref a_18), (9, 9, q3_, .ref a_11), (2, 0, a0_, .ref q0_), (2, 1, a0_, .ref q1_), (2, 3, a0_, .ref q2_), (2, 4, a0_, .ref q3_), (2, 5, a0_, .ref q4_), (5, 1, q1_, .ref q5_)]) rfl (fun fr_225 H locs hp hMr_225 g => ?_)
          obtain ⟨x_226, h_227, hF_228⟩ := hp
          have g := g.more hF_228
          refine lv_aload_n hx hb dX2_readMemberHead_177 rfl (lv_at hl 4 rfl) ?_
          refine g_getk (C := RX2) (T := TX2) (N := 16) hx hb hts (mc_ inX2) hown hK g rfl 0 (by decide) rfl (hts _ (List.mem_cons_of_mem _ t_416)) (fun _ h9 => h9) 6 rfl dX2_readMemberHead_178 ?_
          refine g_calli (va_runV (As := []) (rest := []) ⟨hx, hb, hml, hown, hts⟩ (r_X8_kind_2 l dC dI L kd tys fr_225 H.size g.2.2.2.1 q0_ mq0_ kq0_ x_226 h_227 (g.fcts [0] rfl)) (cwV 0 hts (gV_ t_1118 t_1119 t_1120 t_184 t_1121) rfl rfl rfl (by decide +kernel) ⟨(Nat.le_of_ble_eq_true rfl), (Nat.le_of_ble_eq_true rfl)⟩) (pre3V g hK mq0_ kq0_ (by decide) (q := (RX8, TX8, 10)) rfl) rfl rfl hl.1 rfl (lv_room (Nat.le_of_ble_eq_true rfl)) dX2_readMemberHead_181 ⟨(Nat.le_of_ble_eq_true rfl), (Nat.le_of_ble_eq_true rfl)⟩) g hK (by decide) (by decide) (fx' := [(8, 6, q0_, .int x_226), (8, 8, q0_, .int x_221), (5, 2, q1_, .int x_21), (6, 2, a_19, .int x_20), (7, 2, q2_, .ref a_18), (9, 9, q3_, .ref a_11), (2, 0, a0_, .ref q0_), (2, 1, a0_, .ref q1_), (2, 3, a0_, .ref q2_), (2, 4, a0_, .ref q3_), (2, 5, a0_, .ref q4_), (5, 1, q1_, .ref q5_)]) rfl (fun r_229 fr_229 H locs hp hMr_229 g => ?_)
          obtain ⟨h_230, -⟩ := hp
          obtain rfl : r_229 = 0 := h_230
          refine lv_bipush (v := 41) hx hb dX2_readMemberHead_184 (by decide) ?_
          refine lv_icmp_eq (tgt := 193) hx hb dX2_readMemberHead_186 (by decide) (fun c_ => absurd c_ (by decide)) (fun c_ => ?_)
          refine lv_iconst (v := 1) hx hb dX2_readMemberHead_189 (by decide) ?_
          refine lv_goto (tgt := 194) hx hb dX2_readMemberHead_190 (by decide) ?_
          refine lv_istore (lv' := [(6, .int 1), (5, .int x_12), (4, .int r_7), (2, .long r_6), (1, .int r_5), (0, .ref a0_)]) hx hb dX2_readMemberHead_194 hl (by decide) rfl (fun ls hl => ?_)
          refine lv_iconst (v := 0) hx hb dX2_readMemberHead_196 (by decide) ?_
          refine lv_istore (lv' := [(7, .int 0), (6, .int 1), (5, .int x_12), (4, .int r_7), (2, .long r_6), (1, .int r_5), (0, .ref a0_)]) hx hb dX2_readMemberHead_197 hl (by decide) rfl (fun ls hl => ?_)
          have loop_231 : ∀ (n : Nat) (v199_7 : Int32) (v199_6 : Int32) (w199_8_6_q0_ : Int32), bd 0 4 v199_7 → bd 0 1 v199_6 → bd 1201 1201 w199_8_6_q0_ → (4 - v199_7.toInt < (n : Int)) → ∀ (f : Nat → va_E) (H : Heap) (locs : List Loc) (ls : Array Slot), G3 (dC, dI) L kd tys s f0 [(2, 5), (2, 6), (5, 4), (6, 0), (6, 1), (6, 2), (6, 3), (6, 6), (6, 7), (6, 8), (6, 9), (6, 10), (6, 11), (6, 12), (7, 3), (8, 6), (8, 8), (8, 9), (9, 8)] [132, 134, 135, 156] f H locs [(8, 6, q0_, .int w199_8_6_q0_), (8, 8, q0_, .int x_221), (5, 2, q1_, .int x_21), (6, 2, a_19, .int x_20), (7, 2, q2_, .ref a_18), (9, 9, q3_, .ref a_11), (2, 0, a0_, .ref q0_), (2, 1, a0_, .ref q1_), (2, 3, a0_, .ref q2_), (2, 4, a0_, .ref q3_), (2, 5, a0_, .ref q4_), (5, 1, q1_, .ref q5_)] → lv_has ls 8 [(7, .int v199_7), (6, .int v199_6), (5, .int x_12), (4, .int r_7), (2, .long r_6), (1, .int r_5), (0, .ref a0_)] → W p l e ({ frames := 3, cells := 0, slots := 0, locals := 72 } : Room) s m [.ref a0_].toArray below meth c H locs 0 0 Q (F0 m 199 ls []) := by
            intro n199
            induction n199 with
            | zero =>
              intro v199_7 v199_6 w199_8_6_q0_ bv199_7 bv199_6 bw199_8_6_q0_ hm199 f H locs ls g  hl
              exact absurd hm199 (by have h9_v199_7 := bv199_7; unfold bd at h9_v199_7; have h9_v199_6 := bv199_6; unfold bd at h9_v199_6; have h9_w199_8_6_q0_ := bw199_8_6_q0_; unfold bd at h9_w199_8_6_q0_; omega)
            | succ n199 ih199 =>
              intro v199_7 v199_6 w199_8_6_q0_ bv199_7 bv199_6 bw199_8_6_q0_ hm199 f H locs ls g  hl
              refine lv_iload hx hb dX2_readMemberHead_199 (lv_at hl 0 rfl) ?_
              refine lv_iconst (v := 3) hx hb dX2_readMemberHead_201 (by decide) ?_
              refine lv_icmp_gt (tgt := 251) hx hb dX2_readMemberHead_202 (by decide) (fun c_232 => ?_) (fun c_232 => ?_)
              · have fc_232 := lt_f c_232
                have b_233 : bd 4 4 v199_7 := ltR fc_232 kb_3 bv199_7 (by decide)
                refine lv_aload_n hx hb dX2_readMemberHead_251 rfl (lv_at hl 6 rfl) ?_
                refine g_getk (C := RX2) (T := TX2) (N := 16) hx hb hts (mc_ inX2) hown hK g rfl 0 (by decide) rfl (hts _ (List.mem_cons_of_mem _ t_416)) (fun _ h9 => h9) 6 rfl dX2_readMemberHead_252 ?_
                refine g_calli (va_runV (As := []) (rest := []) ⟨hx, hb, hml, hown, hts⟩ (r_X8_place l dC dI L kd tys f H.size g.2.2.2.1 q0_ mq0_ kq0_) (cwV 0 hts (gV_ t_1110 t_1111 t_1112 t_184 t_1113) rfl rfl rfl (by decide +kernel) ⟨(Nat.le_of_ble_eq_true rfl), (Nat.le_of_ble_eq_true rfl)⟩) (pre3V g hK mq0_ kq0_ (by decide) (q := (RX8, TX8, 10)) rfl) rfl rfl hl.1 rfl (lv_room (Nat.le_of_ble_eq_true rfl)) dX2_readMemberHead_255 ⟨(Nat.le_of_ble_eq_true rfl), (Nat.le_of_ble_eq_true rfl)⟩) g hK (by decide) (by decide) (fx' := [(8, 6, q0_, .int w199_8_6_q0_), (8, 8, q0_, .int x_221), (5, 2, q1_, .int x_21), (6, 2, a_19, .int x_20), (7, 2, q2_, .ref a_18), (9, 9, q3_, .ref a_11), (2, 0, a0_, .ref q0_), (2, 1, a0_, .ref q1_), (2, 3, a0_, .ref q2_), (2, 4, a0_, .ref q3_), (2, 5, a0_, .ref q4_), (5, 1, q1_, .ref q5_)]) rfl (fun r_234 fr_234 H locs hp hMr_234 g => ?_)
                refine lv_istore (lv' := [(7, .int r_234), (6, .int v199_6), (5, .int x_12), (4, .int r_7), (2, .long r_6), (1, .int r_5), (0, .ref a0_)]) hx hb dX2_readMemberHead_258 hl (by decide) rfl (fun ls hl => ?_)
                refine lv_aload_n hx hb dX2_readMemberHead_260 rfl (lv_at hl 6 rfl) ?_
                refine g_getk (C := RX2) (T := TX2) (N := 16) hx hb hts (mc_ inX2) hown hK g rfl 0 (by decide) rfl (hts _ (List.mem_cons_of_mem _ t_416)) (fun _ h9 => h9) 6 rfl dX2_readMemberHead_261 ?_
                refine lv_bipush (v := 41) hx hb dX2_readMemberHead_264 (by decide) ?_
                refine g_callv (va_runV (As := [.int 41]) (rest := []) ⟨hx, hb, hml, hown, hts⟩ (r_X8_take_2 l dC dI L kd tys fr_234 H.size g.2.2.2.1 q0_ mq0_ kq0_ 41 w199_8_6_q0_ bw199_8_6_q0_ x_221 h_222 (g.fcts [0, 1] rfl)) (cwV 1 hts (gV_ t_1098 t_1099 t_1100 t_184 t_1101) rfl rfl rfl (by decide +kernel) ⟨(Nat.le_of_ble_eq_true rfl), (Nat.le_of_ble_eq_true rfl)⟩) (pre3V g hK mq0_ kq0_ (by decide) (q := (RX8, TX8, 10)) rfl) rfl rfl hl.1 rfl (lv_room (Nat.le_of_ble_eq_true rfl)) dX2_readMemberHead_266 ⟨(Nat.le_of_ble_eq_true rfl), (Nat.le_of_ble_eq_true rfl)⟩) g hK (by decide) (by decide) (fx' := [(8, 8, q0_, .int x_221), (5, 2, q1_, .int x_21), (6, 2, a_19, .int x_20), (7, 2, q2_, .ref a_18), (9, 9, q3_, .ref a_11), (2, 0, a0_, .ref q0_), (2, 1, a0_, .ref q1_), (2, 3, a0_, .ref q2_), (2, 4, a0_, .ref q3_), (2, 5, a0_, .ref q4_), (5, 1, q1_, .ref q5_)]) rfl (fun fr_235 H locs hp hMr_235 g => ?_)
                obtain ⟨x_236, h_237, hF_238⟩ := hp
                have g := g.more hF_238
                refine lv_iload hx hb dX2_readMemberHead_269 (lv_at hl 2 rfl) ?_
                refine lv_iconst (v := (-1)) hx hb dX2_readMemberHead_271 (by decide) ?_
                refine lv_icmp_eq (tgt := 308) hx hb dX2_readMemberHead_272 (by decide) (fun c_239 => ?_) (fun c_239 => ?_)
                · have fc_239 := eq_f c_239
                  exact absurd fc_239 fc_16
                · have fc_239 := neq_f c_239
                  refine lv_aload_n hx hb dX2_readMemberHead_275 rfl (lv_at hl 6 rfl) ?_
                  refine g_getk (C := RX2) (T := TX2) (N := 16) hx hb hts (mc_ inX2) hown hK g rfl 3 (by decide) rfl (hts _ (List.mem_cons_of_mem _ t_419)) (fun _ h9 => h9) 8 rfl dX2_readMemberHead_276 ?_
                  refine g_getk (C := RX7) (T := TX7) (N := 19) hx hb hts (mc_ inX7) hown hK g rfl 2 (by decide) rfl (hts _ (List.mem_cons_of_mem _ t_630)) (fun _ h9 => h9) 4 rfl dX2_readMemberHead_279 ?_
                  refine lv_iload hx hb dX2_readMemberHead_282 (lv_at hl 2 rfl) ?_
                  refine g_aald hx hb hK g ma_18 ka_18 (by decide) rfl (by decide) (in_bd bx_12 (by decide)) dX2_readMemberHead_284 (fun a_240 ma_240 ua_240 wa_240 => ?_)
                  have ka_240 : kd a_240 = 6 := by omega
                  refine g_geti (C := RX6) (T := TX6) (N := 13) hx hb hts (mc_ inX6) hown hK g ma_240 ka_240 (by decide) rfl 3 (by decide) rfl (hts _ (List.mem_cons_of_mem _ t_568)) (fun _ h9 => h9) rfl dX2_readMemberHead_285 (fun x_241 bx_241 g => ?_)
                  refine lv_aload_n hx hb dX2_readMemberHead_288 rfl (lv_at hl 6 rfl) ?_
                  refine g_getk (C := RX2) (T := TX2) (N := 16) hx hb hts (mc_ inX2) hown hK g rfl 5 (by decide) rfl (hts _ (List.mem_cons_of_mem _ t_421)) (fun _ h9 => h9) 11 rfl dX2_readMemberHead_289 ?_
                  refine g_geti (C := RX6) (T := TX6) (N := 13) hx hb hts (mc_ inX6) hown hK g mq4_ kq4_ (by decide) rfl 3 (by decide) rfl (hts _ (List.mem_cons_of_mem _ t_568)) (fun _ h9 => h9) rfl dX2_readMemberHead_292 (fun x_242 bx_242 g => ?_)
                  refine lv_icmp_eq (tgt := 308) hx hb dX2_readMemberHead_295 (by decide) (fun c_243 => ?_) (fun c_243 => ?_)
                  · have fc_243 := eq_f c_243
                    subst hQ
                    exact W.vret hx hb hr (fun t ht hW => ⟨⟨_, rfl, Or.inr (⟨x_236, h_237, x_221, h_222, q4_, ⟨mq4_, kq4_⟩, (g.fcts [2, 3, 12] rfl)⟩), q3_of g hK ht hW⟩, g.2.2.1.F ht⟩) g.2.2.1.2.2 dX2_readMemberHead_308
                  · have fc_243 := neq_f c_243
                    refine lv_aload_n hx hb dX2_readMemberHead_298 rfl (lv_at hl 6 rfl) ?_
                    refine g_getk (C := RX2) (T := TX2) (N := 16) hx hb hts (mc_ inX2) hown hK g rfl 0 (by decide) rfl (hts _ (List.mem_cons_of_mem _ t_416)) (fun _ h9 => h9) 8 rfl dX2_readMemberHead_299 ?_
                    refine lv_iconst (v := 5) hx hb dX2_readMemberHead_302 (by decide) ?_
                    refine lv_iload hx hb dX2_readMemberHead_303 (lv_at hl 0 rfl) ?_
                    have kb_5 : bd 5 5 (5 : Int32) := ⟨by decide, by decide⟩
                    refine g_callv (va_runV (As := [.int 5, .int r_234]) (rest := []) ⟨hx, hb, hml, hown, hts⟩ (r_X8_fail_2 l dC dI L kd tys fr_235 H.size g.2.2.2.1 q0_ mq0_ kq0_ 5 (bd_sub kb_5 (by decide)) r_234 x_221 h_222 (g.fcts [3] rfl)) (cwV 2 hts (gV_ t_1122 t_1107 t_1108 t_184 t_1109) rfl rfl rfl (by decide +kernel) ⟨(Nat.le_of_ble_eq_true rfl), (Nat.le_of_ble_eq_true rfl)⟩) (pre3V g hK mq0_ kq0_ (by decide) (q := (RX8, TX8, 10)) rfl) rfl rfl hl.1 rfl (lv_room (Nat.le_of_ble_eq_true rfl)) dX2_readMemberHead_305 ⟨(Nat.le_of_ble_eq_true rfl), (Nat.le_of_ble_eq_true rfl)⟩) g hK (by decide) (by decide) (fx' := [(6, 3, q4_, .int x_242), (6, 3, a_240, .int x_241), (8, 8, q0_, .int x_221), (5, 2, q1_, .int x_21), (6, 2, a_19, .int x_20), (7, 2, q2_, .ref a_18), (9, 9, q3_, .ref a_11), (2, 0, a0_, .ref q0_), (2, 1, a0_, .ref q1_), (2, 3, a0_, .ref q2_), (2, 4, a0_, .ref q3_), (2, 5, a0_, .ref q4_), (5, 1, q1_, .ref q5_)]) rfl (fun fr_244 H locs hp hMr_244 g => ?_)
                    have hF_245 := hp
                    have g := g.more hF_245
                    subst hQ
                    exact W.vret hx hb hr (fun t ht hW => ⟨⟨_, rfl, Or.inr (⟨1201, kb_1201, x_221, h_222, q4_, ⟨mq4_, kq4_⟩, (g.fcts [0, 3, 12] rfl)⟩), q3_of g hK ht hW⟩, g.2.2.1.F ht⟩) g.2.2.1.2.2 dX2_readMemberHead_308
              · have fc_232 := nlt_f c_232
                have b_246 : bd 0 3 v199_7 := leL fc_232 bv199_7 kb_3 (by decide)
                refine lv_iload hx hb dX2_readMemberHead_205 (lv_at hl 1 rfl) ?_
                have kb_0 : bd 0 0 (0 : Int32) := ⟨by decide, by decide⟩
                refine lv_if_eq (tgt := 251) hx hb dX2_readMemberHead_207 (by decide) (fun c_247 => ?_) (fun c_247 => ?_)
                · have fc_247 := eq_f c_247
                  have b_248 : bd 0 0 v199_6 := eqX fc_247 bv199_6 kb_0 (by decide)
                  refine lv_aload_n hx hb dX2_readMemberHead_251 rfl (lv_at hl 6 rfl) ?_
                  refine g_getk (C := RX2) (T := TX2) (N := 16) hx hb hts (mc_ inX2) hown hK g rfl 0 (by decide) rfl (hts _ (List.mem_cons_of_mem _ t_416)) (fun _ h9 => h9) 6 rfl dX2_readMemberHead_252 ?_
                  refine g_calli (va_runV (As := []) (rest := []) ⟨hx, hb, hml, hown, hts⟩ (r_X8_place l dC dI L kd tys f H.size g.2.2.2.1 q0_ mq0_ kq0_) (cwV 0 hts (gV_ t_1110 t_1111 t_1112 t_184 t_1113) rfl rfl rfl (by decide +kernel) ⟨(Nat.le_of_ble_eq_true rfl), (Nat.le_of_ble_eq_true rfl)⟩) (pre3V g hK mq0_ kq0_ (by decide) (q := (RX8, TX8, 10)) rfl) rfl rfl hl.1 rfl (lv_room (Nat.le_of_ble_eq_true rfl)) dX2_readMemberHead_255 ⟨(Nat.le_of_ble_eq_true rfl), (Nat.le_of_ble_eq_true rfl)⟩) g hK (by decide) (by decide) (fx' := [(8, 6, q0_, .int w199_8_6_q0_), (8, 8, q0_, .int x_221), (5, 2, q1_, .int x_21), (6, 2, a_19, .int x_20), (7, 2, q2_, .ref a_18), (9, 9, q3_, .ref a_11), (2, 0, a0_, .ref q0_), (2, 1, a0_, .ref q1_), (2, 3, a0_, .ref q2_), (2, 4, a0_, .ref q3_), (2, 5, a0_, .ref q4_), (5, 1, q1_, .ref q5_)]) rfl (fun r_249 fr_249 H locs hp hMr_249 g => ?_)
                  refine lv_istore (lv' := [(7, .int r_249), (6, .int v199_6), (5, .int x_12), (4, .int r_7), (2, .long r_6), (1, .int r_5), (0, .ref a0_)]) hx hb dX2_readMemberHead_258 hl (by decide) rfl (fun ls hl => ?_)
                  refine lv_aload_n hx hb dX2_readMemberHead_260 rfl (lv_at hl 6 rfl) ?_
                  refine g_getk (C := RX2) (T := TX2) (N := 16) hx hb hts (mc_ inX2) hown hK g rfl 0 (by decide) rfl (hts _ (List.mem_cons_of_mem _ t_416)) (fun _ h9 => h9) 6 rfl dX2_readMemberHead_261 ?_
                  refine lv_bipush (v := 41) hx hb dX2_readMemberHead_264 (by decide) ?_
                  refine g_callv (va_runV (As := [.int 41]) (rest := []) ⟨hx, hb, hml, hown, hts⟩ (r_X8_take_2 l dC dI L kd tys fr_249 H.size g.2.2.2.1 q0_ mq0_ kq0_ 41 w199_8_6_q0_ bw199_8_6_q0_ x_221 h_222 (g.fcts [0, 1] rfl)) (cwV 1 hts (gV_ t_1098 t_1099 t_1100 t_184 t_1101) rfl rfl rfl (by decide +kernel) ⟨(Nat.le_of_ble_eq_true rfl), (Nat.le_of_ble_eq_true rfl)⟩) (pre3V g hK mq0_ kq0_ (by decide) (q := (RX8, TX8, 10)) rfl) rfl rfl hl.1 rfl (lv_room (Nat.le_of_ble_eq_true rfl)) dX2_readMemberHead_266 ⟨(Nat.le_of_ble_eq_true rfl), (Nat.le_of_ble_eq_true rfl)⟩) g hK (by decide) (by decide) (fx' := [(8, 8, q0_, .int x_221), (5, 2, q1_, .int x_21), (6, 2, a_19, .int x_20), (7, 2, q2_, .ref a_18), (9, 9, q3_, .ref a_11), (2, 0, a0_, .ref q0_), (2, 1, a0_, .ref q1_), (2, 3, a0_, .ref q2_), (2, 4, a0_, .ref q3_), (2, 5, a0_, .ref q4_), (5, 1, q1_, .ref q5_)]) rfl (fun fr_250 H locs hp hMr_250 g => ?_)
                  obtain ⟨x_251, h_252, hF_253⟩ := hp
                  have g := g.more hF_253
                  refine lv_iload hx hb dX2_readMemberHead_269 (lv_at hl 2 rfl) ?_
                  refine lv_iconst (v := (-1)) hx hb dX2_readMemberHead_271 (by decide) ?_
                  refine lv_icmp_eq (tgt := 308) hx hb dX2_readMemberHead_272 (by decide) (fun c_254 => ?_) (fun c_254 => ?_)
                  · have fc_254 := eq_f c_254
                    exact absurd fc_254 fc_16
                  · have fc_254 := neq_f c_254
                    refine lv_aload_n hx hb dX2_readMemberHead_275 rfl (lv_at hl 6 rfl) ?_
                    refine g_getk (C := RX2) (T := TX2) (N := 16) hx hb hts (mc_ inX2) hown hK g rfl 3 (by decide) rfl (hts _ (List.mem_cons_of_mem _ t_419)) (fun _ h9 => h9) 8 rfl dX2_readMemberHead_276 ?_
                    refine g_getk (C := RX7) (T := TX7) (N := 19) hx hb hts (mc_ inX7) hown hK g rfl 2 (by decide) rfl (hts _ (List.mem_cons_of_mem _ t_630)) (fun _ h9 => h9) 4 rfl dX2_readMemberHead_279 ?_
                    refine lv_iload hx hb dX2_readMemberHead_282 (lv_at hl 2 rfl) ?_
                    refine g_aald hx hb hK g ma_18 ka_18 (by decide) rfl (by decide) (in_bd bx_12 (by decide)) dX2_readMemberHead_284 (fun a_255 ma_255 ua_255 wa_255 => ?_)
                    have ka_255 : kd a_255 = 6 := by omega
                    refine g_geti (C := RX6) (T := TX6) (N := 13) hx hb hts (mc_ inX6) hown hK g ma_255 ka_255 (by decide) rfl 3 (by decide) rfl (hts _ (List.mem_cons_of_mem _ t_568)) (fun _ h9 => h9) rfl dX2_readMemberHead_285 (fun x_256 bx_256 g => ?_)
                    refine lv_aload_n hx hb dX2_readMemberHead_288 rfl (lv_at hl 6 rfl) ?_
                    refine g_getk (C := RX2) (T := TX2) (N := 16) hx hb hts (mc_ inX2) hown hK g rfl 5 (by decide) rfl (hts _ (List.mem_cons_of_mem _ t_421)) (fun _ h9 => h9) 11 rfl dX2_readMemberHead_289 ?_
                    refine g_geti (C := RX6) (T := TX6) (N := 13) hx hb hts (mc_ inX6) hown hK g mq4_ kq4_ (by decide) rfl 3 (by decide) rfl (hts _ (List.mem_cons_of_mem _ t_568)) (fun _ h9 => h9) rfl dX2_readMemberHead_292 (fun x_257 bx_257 g => ?_)
                    refine lv_icmp_eq (tgt := 308) hx hb dX2_readMemberHead_295 (by decide) (fun c_258 => ?_) (fun c_258 => ?_)
                    · have fc_258 := eq_f c_258
                      subst hQ
                      exact W.vret hx hb hr (fun t ht hW => ⟨⟨_, rfl, Or.inr (⟨x_251, h_252, x_221, h_222, q4_, ⟨mq4_, kq4_⟩, (g.fcts [2, 3, 12] rfl)⟩), q3_of g hK ht hW⟩, g.2.2.1.F ht⟩) g.2.2.1.2.2 dX2_readMemberHead_308
                    · have fc_258 := neq_f c_258
                      refine lv_aload_n hx hb dX2_readMemberHead_298 rfl (lv_at hl 6 rfl) ?_
                      refine g_getk (C := RX2) (T := TX2) (N := 16) hx hb hts (mc_ inX2) hown hK g rfl 0 (by decide) rfl (hts _ (List.mem_cons_of_mem _ t_416)) (fun _ h9 => h9) 8 rfl dX2_readMemberHead_299 ?_
                      refine lv_iconst (v := 5) hx hb dX2_readMemberHead_302 (by decide) ?_
                      refine lv_iload hx hb dX2_readMemberHead_303 (lv_at hl 0 rfl) ?_
                      have kb_5 : bd 5 5 (5 : Int32) := ⟨by decide, by decide⟩
                      refine g_callv (va_runV (As := [.int 5, .int r_249]) (rest := []) ⟨hx, hb, hml, hown, hts⟩ (r_X8_fail_2 l dC dI L kd tys fr_250 H.size g.2.2.2.1 q0_ mq0_ kq0_ 5 (bd_sub kb_5 (by decide)) r_249 x_221 h_222 (g.fcts [3] rfl)) (cwV 2 hts (gV_ t_1122 t_1107 t_1108 t_184 t_1109) rfl rfl rfl (by decide +kernel) ⟨(Nat.le_of_ble_eq_true rfl), (Nat.le_of_ble_eq_true rfl)⟩) (pre3V g hK mq0_ kq0_ (by decide) (q := (RX8, TX8, 10)) rfl) rfl rfl hl.1 rfl (lv_room (Nat.le_of_ble_eq_true rfl)) dX2_readMemberHead_305 ⟨(Nat.le_of_ble_eq_true rfl), (Nat.le_of_ble_eq_true rfl)⟩) g hK (by decide) (by decide) (fx' := [(6, 3, q4_, .int x_257), (6, 3, a_255, .int x_256), (8, 8, q0_, .int x_221), (5, 2, q1_, .int x_21), (6, 2, a_19, .int x_20), (7, 2, q2_, .ref a_18), (9, 9, q3_, .ref a_11), (2, 0, a0_, .ref q0_), (2, 1, a0_, .ref q1_), (2, 3, a0_, .ref q2_), (2, 4, a0_, .ref q3_), (2, 5, a0_, .ref q4_), (5, 1, q1_, .ref q5_)]) rfl (fun fr_259 H locs hp hMr_259 g => ?_)
                      have hF_260 := hp
                      have g := g.more hF_260
                      subst hQ
                      exact W.vret hx hb hr (fun t ht hW => ⟨⟨_, rfl, Or.inr (⟨1201, kb_1201, x_221, h_222, q4_, ⟨mq4_, kq4_⟩, (g.fcts [0, 3, 12] rfl)⟩), q3_of g hK ht hW⟩, g.2.2.1.F ht⟩) g.2.2.1.2.2 dX2_readMemberHead_308
                · have fc_247 := neq_f c_247
                  have b_261 : bd 1 1 v199_6 := neX fc_247 bv199_6 kb_0 (by decide)
                  refine lv_aload_n hx hb dX2_readMemberHead_210 rfl (lv_at hl 6 rfl) ?_
                  refine g_callv (va_runV (As := []) (rest := []) ⟨hx, hb, hml, hown, hts⟩ (r_X2_readParam_2 l dC dI L kd tys f H.size g.2.2.2.1 a0_ ma0_ ka0_ q0_ mq0_ kq0_ q1_ mq1_ kq1_ q4_ mq4_ kq4_ q5_ mq5_ kq5_ w199_8_6_q0_ bw199_8_6_q0_ x_221 h_222 (g.fcts [6, 7, 10, 11, 0, 1] rfl)) (cwV 0 hts (gV_ t_1313 t_1315 t_34 t_183 t_1316) rfl rfl rfl (by decide +kernel) ⟨(Nat.le_of_ble_eq_true rfl), (Nat.le_of_ble_eq_true rfl)⟩) (pre3V g hK ma0_ ka0_ (by decide) (q := (RX2, TX2, 16)) rfl) rfl rfl hl.1 rfl (lv_room (Nat.le_of_ble_eq_true rfl)) dX2_readMemberHead_211 ⟨(Nat.le_of_ble_eq_true rfl), (Nat.le_of_ble_eq_true rfl)⟩) g hK (by decide) (by decide) (fx' := [(8, 8, q0_, .int x_221), (5, 2, q1_, .int x_21), (6, 2, a_19, .int x_20), (7, 2, q2_, .ref a_18), (9, 9, q3_, .ref a_11), (2, 0, a0_, .ref q0_), (2, 1, a0_, .ref q1_), (2, 3, a0_, .ref q2_), (2, 4, a0_, .ref q3_), (2, 5, a0_, .ref q4_), (5, 1, q1_, .ref q5_)]) rfl (fun fr_262 H locs hp hMr_262 g => ?_)
                  have hF_263 := hp
                  have g := g.more hF_263
                  refine lv_aload_n hx hb dX2_readMemberHead_214 rfl (lv_at hl 6 rfl) ?_
                  refine g_getk (C := RX2) (T := TX2) (N := 16) hx hb hts (mc_ inX2) hown hK g rfl 0 (by decide) rfl (hts _ (List.mem_cons_of_mem _ t_416)) (fun _ h9 => h9) 6 rfl dX2_readMemberHead_215 ?_
                  refine g_calli (va_runV (As := []) (rest := []) ⟨hx, hb, hml, hown, hts⟩ (r_X8_kind_2 l dC dI L kd tys fr_262 H.size g.2.2.2.1 q0_ mq0_ kq0_ 1201 kb_1201 (g.fcts [0] rfl)) (cwV 0 hts (gV_ t_1118 t_1119 t_1120 t_184 t_1121) rfl rfl rfl (by decide +kernel) ⟨(Nat.le_of_ble_eq_true rfl), (Nat.le_of_ble_eq_true rfl)⟩) (pre3V g hK mq0_ kq0_ (by decide) (q := (RX8, TX8, 10)) rfl) rfl rfl hl.1 rfl (lv_room (Nat.le_of_ble_eq_true rfl)) dX2_readMemberHead_218 ⟨(Nat.le_of_ble_eq_true rfl), (Nat.le_of_ble_eq_true rfl)⟩) g hK (by decide) (by decide) (fx' := [(8, 6, q0_, .int 1201), (8, 8, q0_, .int x_221), (5, 2, q1_, .int x_21), (6, 2, a_19, .int x_20), (7, 2, q2_, .ref a_18), (9, 9, q3_, .ref a_11), (2, 0, a0_, .ref q0_), (2, 1, a0_, .ref q1_), (2, 3, a0_, .ref q2_), (2, 4, a0_, .ref q3_), (2, 5, a0_, .ref q4_), (5, 1, q1_, .ref q5_)]) rfl (fun r_264 fr_264 H locs hp hMr_264 g => ?_)
                  obtain ⟨h_265, -⟩ := hp
                  obtain rfl : r_264 = 0 := h_265
                  refine lv_bipush (v := 44) hx hb dX2_readMemberHead_221 (by decide) ?_
                  refine lv_icmp_ne (tgt := 230) hx hb dX2_readMemberHead_223 (by decide) (fun c_ => ?_) (fun c_ => absurd c_ (by decide))
                  refine lv_iconst (v := 0) hx hb dX2_readMemberHead_230 (by decide) ?_
                  refine lv_istore (lv' := [(6, .int 0), (7, .int v199_7), (5, .int x_12), (4, .int r_7), (2, .long r_6), (1, .int r_5), (0, .ref a0_)]) hx hb dX2_readMemberHead_231 hl (by decide) rfl (fun ls hl => ?_)
                  refine lv_iload hx hb dX2_readMemberHead_233 (lv_at hl 0 rfl) ?_
                  refine lv_if_eq (tgt := 245) hx hb dX2_readMemberHead_235 (by decide) (fun c_ => ?_) (fun c_ => absurd (by decide) c_)
                  have kb_1 : bd 1 1 (1 : Int32) := ⟨by decide, by decide⟩
                  obtain ⟨y_266, ey_266⟩ : ∃ z : Int32, z = v199_7 + 1 := ⟨_, rfl⟩
                  refine lv_iinc (v := y_266) (lv' := [(7, .int y_266), (6, .int 0), (5, .int x_12), (4, .int r_7), (2, .long r_6), (1, .int r_5), (0, .ref a0_)]) hx hb dX2_readMemberHead_245 hl (k := 1) rfl (by rw [ey_266]; rfl) (by decide) rfl (fun ls hl => ?_)
                  have ty_266 := add_bd ey_266 b_246 kb_1 (by decide)
                  have b_267 : bd 1 4 y_266 := add_rg ty_266 b_246 kb_1 (by decide)
                  refine lv_goto (tgt := 199) hx hb dX2_readMemberHead_248 (by decide) ?_
                  have hl9 := lv_sub hl [0, 1, 2, 3, 4, 5, 6] (by rfl : lv_pick [(7, .int y_266), (6, .int 0), (5, .int x_12), (4, .int r_7), (2, .long r_6), (1, .int r_5), (0, .ref a0_)] [0, 1, 2, 3, 4, 5, 6] = [(7, .int y_266), (6, .int 0), (5, .int x_12), (4, .int r_7), (2, .long r_6), (1, .int r_5), (0, .ref a0_)])
                  have g9 := g.sub (fx' := [(8, 6, q0_, .int 1201), (8, 8, q0_, .int x_221), (5, 2, q1_, .int x_21), (6, 2, a_19, .int x_20), (7, 2, q2_, .ref a_18), (9, 9, q3_, .ref a_11), (2, 0, a0_, .ref q0_), (2, 1, a0_, .ref q1_), (2, 3, a0_, .ref q2_), (2, 4, a0_, .ref q3_), (2, 5, a0_, .ref q4_), (5, 1, q1_, .ref q5_)]) [0, 1, 2, 3, 4, 5, 6, 7, 8, 9, 10, 11] rfl
                  exact ih199  y_266 0 1201 (bd_sub b_267 (by decide)) (bd_sub kb_0 (by decide)) kb_1201 (by have h9_0 := b_267; unfold bd at h9_0; have h9_1 := bv199_6; unfold bd at h9_1; have h9_2 := bv199_7; unfold bd at h9_2; have h9_3 := bw199_8_6_q0_; unfold bd at h9_3; have h9_4 := kb_0; unfold bd at h9_4; have h9_5 := kb_1; unfold bd at h9_5; have h9_6 := kb_1201; unfold bd at h9_6; have h9_7 := kb_2; unfold bd at h9_7; have h9_8 := kb_3; unfold bd at h9_8; have h9_9 := kb_m1; unfold bd at h9_9; omega) _ _ _ _ g9  hl9
          have kb_0 : bd 0 0 (0 : Int32) := ⟨by decide, by decide⟩
          have kb_1 : bd 1 1 (1 : Int32) := ⟨by decide, by decide⟩
          have hl9 := lv_sub hl [0, 1, 2, 3, 4, 5, 6] (by rfl : lv_pick [(7, .int 0), (6, .int 1), (5, .int x_12), (4, .int r_7), (2, .long r_6), (1, .int r_5), (0, .ref a0_)] [0, 1, 2, 3, 4, 5, 6] = [(7, .int 0), (6, .int 1), (5, .int x_12), (4, .int r_7), (2, .long r_6), (1, .int r_5), (0, .ref a0_)])
          have g9 := g.sub (fx' := [(8, 6, q0_, .int x_226), (8, 8, q0_, .int x_221), (5, 2, q1_, .int x_21), (6, 2, a_19, .int x_20), (7, 2, q2_, .ref a_18), (9, 9, q3_, .ref a_11), (2, 0, a0_, .ref q0_), (2, 1, a0_, .ref q1_), (2, 3, a0_, .ref q2_), (2, 4, a0_, .ref q3_), (2, 5, a0_, .ref q4_), (5, 1, q1_, .ref q5_)]) [0, 1, 2, 3, 4, 5, 6, 7, 8, 9, 10, 11] rfl
          exact loop_231 (11) 0 1 x_226 (bd_sub kb_0 (by decide)) (bd_sub kb_1 (by decide)) h_227 (by have h9_0 := h_227; unfold bd at h9_0; have h9_1 := kb_0; unfold bd at h9_1; have h9_2 := kb_1; unfold bd at h9_2; have h9_3 := kb_1201; unfold bd at h9_3; have h9_4 := kb_2; unfold bd at h9_4; have h9_5 := kb_3; unfold bd at h9_5; have h9_6 := kb_m1; unfold bd at h9_6; omega) _ _ _ _ g9  hl9
    · have fc_14 := neq_f c_14
      refine lv_aload_n hx hb dX2_readMemberHead_70 rfl (lv_at hl 4 rfl) ?_
      refine g_getk (C := RX2) (T := TX2) (N := 16) hx hb hts (mc_ inX2) hown hK g rfl 0 (by decide) rfl (hts _ (List.mem_cons_of_mem _ t_416)) (fun _ h9 => h9) 2 rfl dX2_readMemberHead_71 ?_
      refine lv_iconst (v := 1) hx hb dX2_readMemberHead_74 (by decide) ?_
      refine lv_iload_n hx hb dX2_readMemberHead_75 rfl (lv_at hl 3 rfl) ?_
      have kb_1 : bd 1 1 (1 : Int32) := ⟨by decide, by decide⟩
      refine g_callv (va_runV (As := [.int 1, .int r_5]) (rest := []) ⟨hx, hb, hml, hown, hts⟩ (r_X8_fail l dC dI L kd tys fr_13 H.size g.2.2.2.1 q0_ mq0_ kq0_ 1 (bd_sub kb_1 (by decide)) r_5 y0_ by0_ (g.fcts [8] rfl)) (cwV 2 hts (gV_ t_1122 t_1107 t_1108 t_184 t_1109) rfl rfl rfl (by decide +kernel) ⟨(Nat.le_of_ble_eq_true rfl), (Nat.le_of_ble_eq_true rfl)⟩) (pre3V g hK mq0_ kq0_ (by decide) (q := (RX8, TX8, 10)) rfl) rfl rfl hl.1 rfl (lv_room (Nat.le_of_ble_eq_true rfl)) dX2_readMemberHead_76 ⟨(Nat.le_of_ble_eq_true rfl), (Nat.le_of_ble_eq_true rfl)⟩) g hK (by decide) (by decide) (fx' := [(9, 9, q3_, .ref a_11), (2, 0, a0_, .ref q0_), (2, 1, a0_, .ref q1_), (2, 3, a0_, .ref q2_), (2, 4, a0_, .ref q3_), (2, 5, a0_, .ref q4_), (5, 1, q1_, .ref q5_)]) rfl (fun fr_268 H locs hp hMr_268 g => ?_)
      obtain ⟨x_269, h_270, hF_271⟩ := hp
      have g := g.more hF_271
      refine lv_goto (tgt := 161) hx hb dX2_readMemberHead_79 (by decide) ?_
      refine lv_aload_n hx hb dX2_readMemberHead_161 rfl (lv_at hl 4 rfl) ?_
      refine g_getk (C := RX2) (T := TX2) (N := 16) hx hb hts (mc_ inX2) hown hK g rfl 0 (by decide) rfl (hts _ (List.mem_cons_of_mem _ t_416)) (fun _ h9 => h9) 3 rfl dX2_readMemberHead_162 ?_
      have kb_1201 : bd 1201 1201 (1201 : Int32) := ⟨by decide, by decide⟩
      refine g_callv (va_runV (As := []) (rest := []) ⟨hx, hb, hml, hown, hts⟩ (r_X8_next_2 l dC dI L kd tys fr_268 H.size g.2.2.2.1 q0_ mq0_ kq0_ 1201 kb_1201 (g.fcts [0] rfl)) (cwV 0 hts (gV_ t_1131 t_1103 t_1104 t_184 t_1105) rfl rfl rfl (by decide +kernel) ⟨(Nat.le_of_ble_eq_true rfl), (Nat.le_of_ble_eq_true rfl)⟩) (pre3V g hK mq0_ kq0_ (by decide) (q := (RX8, TX8, 10)) rfl) rfl rfl hl.1 rfl (lv_room (Nat.le_of_ble_eq_true rfl)) dX2_readMemberHead_165 ⟨(Nat.le_of_ble_eq_true rfl), (Nat.le_of_ble_eq_true rfl)⟩) g hK (by decide) (by decide) (fx' := [(8, 6, q0_, .int 1201), (8, 8, q0_, .int x_269), (9, 9, q3_, .ref a_11), (2, 0, a0_, .ref q0_), (2, 1, a0_, .ref q1_), (2, 3, a0_, .ref q2_), (2, 4, a0_, .ref q3_), (2, 5, a0_, .ref q4_), (5, 1, q1_, .ref q5_)]) rfl (fun fr_272 H locs hp hMr_272 g => ?_)
      refine lv_aload_n hx hb dX2_readMemberHead_168 rfl (lv_at hl 4 rfl) ?_
      refine g_getk (C := RX2) (T := TX2) (N := 16) hx hb hts (mc_ inX2) hown hK g rfl 0 (by decide) rfl (hts _ (List.mem_cons_of_mem _ t_416)) (fun _ h9 => h9) 3 rfl dX2_readMemberHead_169 ?_
      refine lv_bipush (v := 40) hx hb dX2_readMemberHead_172 (by decide) ?_
      refine g_callv (va_runV (As := [.int 40]) (rest := []) ⟨hx, hb, hml, hown, hts⟩ (r_X8_take_2 l dC dI L kd tys fr_272 H.size g.2.2.2.1 q0_ mq0_ kq0_ 40 1201 kb_1201 x_269 h_270 (g.fcts [0, 1] rfl)) (cwV 1 hts (gV_ t_1098 t_1099 t_1100 t_184 t_1101) rfl rfl rfl (by decide +kernel) ⟨(Nat.le_of_ble_eq_true rfl), (Nat.le_of_ble_eq_true rfl)⟩) (pre3V g hK mq0_ kq0_ (by decide) (q := (RX8, TX8, 10)) rfl) rfl rfl hl.1 rfl (lv_room (Nat.le_of_ble_eq_true rfl)) dX2_readMemberHead_174 ⟨(Nat.le_of_ble_eq_true rfl), (Nat.le_of_ble_eq_true rfl)⟩) g hK (by decide) (by decide) (fx' := [(8, 8, q0_, .int x_269), (9, 9, q3_, .ref a_11), (2, 0, a0_, .ref q0_), (2, 1, a0_, .ref q1_), (2, 3, a0_, .ref q2_), (2, 4, a0_, .ref q3_), (2, 5, a0_, .ref q4_), (5, 1, q1_, .ref q5_)]) rfl (fun fr_273 H locs hp hMr_273 g => ?_)
      obtain ⟨x_274, h_275, hF_276⟩ := hp
      have g := g.more hF_276
      refine lv_aload_n hx hb dX2_readMemberHead_177 rfl (lv_at hl 4 rfl) ?_
      refine g_getk (C := RX2) (T := TX2) (N := 16) hx hb hts (mc_ inX2) hown hK g rfl 0 (by decide) rfl (hts _ (List.mem_cons_of_mem _ t_416)) (fun _ h9 => h9) 3 rfl dX2_readMemberHead_178 ?_
      refine g_calli (va_runV (As := []) (rest := []) ⟨hx, hb, hml, hown, hts⟩ (r_X8_kind_2 l dC dI L kd tys fr_273 H.size g.2.2.2.1 q0_ mq0_ kq0_ x_274 h_275 (g.fcts [0] rfl)) (cwV 0 hts (gV_ t_1118 t_1119 t_1120 t_184 t_1121) rfl rfl rfl (by decide +kernel) ⟨(Nat.le_of_ble_eq_true rfl), (Nat.le_of_ble_eq_true rfl)⟩) (pre3V g hK mq0_ kq0_ (by decide) (q := (RX8, TX8, 10)) rfl) rfl rfl hl.1 rfl (lv_room (Nat.le_of_ble_eq_true rfl)) dX2_readMemberHead_181 ⟨(Nat.le_of_ble_eq_true rfl), (Nat.le_of_ble_eq_true rfl)⟩) g hK (by decide) (by decide) (fx' := [(8, 6, q0_, .int x_274), (8, 8, q0_, .int x_269), (9, 9, q3_, .ref a_11), (2, 0, a0_, .ref q0_), (2, 1, a0_, .ref q1_), (2, 3, a0_, .ref q2_), (2, 4, a0_, .ref q3_), (2, 5, a0_, .ref q4_), (5, 1, q1_, .ref q5_)]) rfl (fun r_277 fr_277 H locs hp hMr_277 g => ?_)
      obtain ⟨h_278, -⟩ := hp
      obtain rfl : r_277 = 0 := h_278
      refine lv_bipush (v := 41) hx hb dX2_readMemberHead_184 (by decide) ?_
      refine lv_icmp_eq (tgt := 193) hx hb dX2_readMemberHead_186 (by decide) (fun c_ => absurd c_ (by decide)) (fun c_ => ?_)
      refine lv_iconst (v := 1) hx hb dX2_readMemberHead_189 (by decide) ?_
      refine lv_goto (tgt := 194) hx hb dX2_readMemberHead_190 (by decide) ?_
      refine lv_istore (lv' := [(6, .int 1), (5, .int x_12), (4, .int r_7), (2, .long r_6), (1, .int r_5), (0, .ref a0_)]) hx hb dX2_readMemberHead_194 hl (by decide) rfl (fun ls hl => ?_)
      refine lv_iconst (v := 0) hx hb dX2_readMemberHead_196 (by decide) ?_
      refine lv_istore (lv' := [(7, .int 0), (6, .int 1), (5, .int x_12), (4, .int r_7), (2, .long r_6), (1, .int r_5), (0, .ref a0_)]) hx hb dX2_readMemberHead_197 hl (by decide) rfl (fun ls hl => ?_)
      have loop_279 : ∀ (n : Nat) (v199_7 : Int32) (v199_6 : Int32) (w199_8_6_q0_ : Int32), bd 0 4 v199_7 → bd 0 1 v199_6 → bd 1201 1201 w199_8_6_q0_ → (4 - v199_7.toInt < (n : Int)) → ∀ (f : Nat → va_E) (H : Heap) (locs : List Loc) (ls : Array Slot), G3 (dC, dI) L kd tys s f0 [(2, 5), (2, 6), (5, 4), (6, 0), (6, 1), (6, 2), (6, 3), (6, 6), (6, 7), (6, 8), (6, 9), (6, 10), (6, 11), (6, 12), (7, 3), (8, 6), (8, 8), (8, 9), (9, 8)] [132, 134, 135, 156] f H locs [(8, 6, q0_, .int w199_8_6_q0_), (8, 8, q0_, .int x_269), (9, 9, q3_, .ref a_11), (2, 0, a0_, .ref q0_), (2, 1, a0_, .ref q1_), (2, 3, a0_, .ref q2_), (2, 4, a0_, .ref q3_), (2, 5, a0_, .ref q4_), (5, 1, q1_, .ref q5_)] → lv_has ls 8 [(7, .int v199_7), (6, .int v199_6), (5, .int x_12), (4, .int r_7), (2, .long r_6), (1, .int r_5), (0, .ref a0_)] → W p l e ({ frames := 3, cells := 0, slots := 0, locals := 72 } : Room) s m [.ref a0_].toArray below meth c H locs 0 0 Q (F0 m 199 ls []) := by
        intro n199
        induction n199 with
        | zero =>
          intro v199_7 v199_6 w199_8_6_q0_ bv199_7 bv199_6 bw199_8_6_q0_ hm199 f H locs ls g  hl
          exact absurd hm199 (by have h9_v199_7 := bv199_7; unfold bd at h9_v199_7; have h9_v199_6 := bv199_6; unfold bd at h9_v199_6; have h9_w199_8_6_q0_ := bw199_8_6_q0_; unfold bd at h9_w199_8_6_q0_; omega)
        | succ n199 ih199 =>
          intro v199_7 v199_6 w199_8_6_q0_ bv199_7 bv199_6 bw199_8_6_q0_ hm199 f H locs ls g  hl
          refine lv_iload hx hb dX2_readMemberHead_199 (lv_at hl 0 rfl) ?_
          refine lv_iconst (v := 3) hx hb dX2_readMemberHead_201 (by decide) ?_
          refine lv_icmp_gt (tgt := 251) hx hb dX2_readMemberHead_202 (by decide) (fun c_280 => ?_) (fun c_280 => ?_)
          · have fc_280 := lt_f c_280
            have b_281 : bd 4 4 v199_7 := ltR fc_280 kb_3 bv199_7 (by decide)
            refine lv_aload_n hx hb dX2_readMemberHead_251 rfl (lv_at hl 6 rfl) ?_
            refine g_getk (C := RX2) (T := TX2) (N := 16) hx hb hts (mc_ inX2) hown hK g rfl 0 (by decide) rfl (hts _ (List.mem_cons_of_mem _ t_416)) (fun _ h9 => h9) 3 rfl dX2_readMemberHead_252 ?_
            refine g_calli (va_runV (As := []) (rest := []) ⟨hx, hb, hml, hown, hts⟩ (r_X8_place l dC dI L kd tys f H.size g.2.2.2.1 q0_ mq0_ kq0_) (cwV 0 hts (gV_ t_1110 t_1111 t_1112 t_184 t_1113) rfl rfl rfl (by decide +kernel) ⟨(Nat.le_of_ble_eq_true rfl), (Nat.le_of_ble_eq_true rfl)⟩) (pre3V g hK mq0_ kq0_ (by decide) (q := (RX8, TX8, 10)) rfl) rfl rfl hl.1 rfl (lv_room (Nat.le_of_ble_eq_true rfl)) dX2_readMemberHead_255 ⟨(Nat.le_of_ble_eq_true rfl), (Nat.le_of_ble_eq_true rfl)⟩) g hK (by decide) (by decide) (fx' := [(8, 6, q0_, .int w199_8_6_q0_), (8, 8, q0_, .int x_269), (9, 9, q3_, .ref a_11), (2, 0, a0_, .ref q0_), (2, 1, a0_, .ref q1_), (2, 3, a0_, .ref q2_), (2, 4, a0_, .ref q3_), (2, 5, a0_, .ref q4_), (5, 1, q1_, .ref q5_)]) rfl (fun r_282 fr_282 H locs hp hMr_282 g => ?_)
            refine lv_istore (lv' := [(7, .int r_282), (6, .int v199_6), (5, .int x_12), (4, .int r_7), (2, .long r_6), (1, .int r_5), (0, .ref a0_)]) hx hb dX2_readMemberHead_258 hl (by decide) rfl (fun ls hl => ?_)
            refine lv_aload_n hx hb dX2_readMemberHead_260 rfl (lv_at hl 6 rfl) ?_
            refine g_getk (C := RX2) (T := TX2) (N := 16) hx hb hts (mc_ inX2) hown hK g rfl 0 (by decide) rfl (hts _ (List.mem_cons_of_mem _ t_416)) (fun _ h9 => h9) 3 rfl dX2_readMemberHead_261 ?_
            refine lv_bipush (v := 41) hx hb dX2_readMemberHead_264 (by decide) ?_
            refine g_callv (va_runV (As := [.int 41]) (rest := []) ⟨hx, hb, hml, hown, hts⟩ (r_X8_take_2 l dC dI L kd tys fr_282 H.size g.2.2.2.1 q0_ mq0_ kq0_ 41 w199_8_6_q0_ bw199_8_6_q0_ x_269 h_270 (g.fcts [0, 1] rfl)) (cwV 1 hts (gV_ t_1098 t_1099 t_1100 t_184 t_1101) rfl rfl rfl (by decide +kernel) ⟨(Nat.le_of_ble_eq_true rfl), (Nat.le_of_ble_eq_true rfl)⟩) (pre3V g hK mq0_ kq0_ (by decide) (q := (RX8, TX8, 10)) rfl) rfl rfl hl.1 rfl (lv_room (Nat.le_of_ble_eq_true rfl)) dX2_readMemberHead_266 ⟨(Nat.le_of_ble_eq_true rfl), (Nat.le_of_ble_eq_true rfl)⟩) g hK (by decide) (by decide) (fx' := [(8, 8, q0_, .int x_269), (9, 9, q3_, .ref a_11), (2, 0, a0_, .ref q0_), (2, 1, a0_, .ref q1_), (2, 3, a0_, .ref q2_), (2, 4, a0_, .ref q3_), (2, 5, a0_, .ref q4_), (5, 1, q1_, .ref q5_)]) rfl (fun fr_283 H locs hp hMr_283 g => ?_)
            obtain ⟨x_284, h_285, hF_286⟩ := hp
            have g := g.more hF_286
            refine lv_iload hx hb dX2_readMemberHead_269 (lv_at hl 2 rfl) ?_
            refine lv_iconst (v := (-1)) hx hb dX2_readMemberHead_271 (by decide) ?_
            refine lv_icmp_eq (tgt := 308) hx hb dX2_readMemberHead_272 (by decide) (fun c_287 => ?_) (fun c_287 => ?_)
            · have fc_287 := eq_f c_287
              have b_288 : bd 0 (-1) x_12 := eqX fc_287 bx_12 kb_m1 (by decide)
              exact bd_no b_288 (by decide)
            · have fc_287 := neq_f c_287
              refine lv_aload_n hx hb dX2_readMemberHead_275 rfl (lv_at hl 6 rfl) ?_
              refine g_getk (C := RX2) (T := TX2) (N := 16) hx hb hts (mc_ inX2) hown hK g rfl 3 (by decide) rfl (hts _ (List.mem_cons_of_mem _ t_419)) (fun _ h9 => h9) 5 rfl dX2_readMemberHead_276 ?_
              refine g_getr (K := 137) (C := RX7) (T := TX7) (N := 19) hx hb hts (mc_ inX7) hown hK g mq2_ kq2_ (by decide) rfl 2 (by decide) rfl (hts _ (List.mem_cons_of_mem _ t_630)) (fun _ h9 => h9) rfl dX2_readMemberHead_279 (fun a_289 ma_289 ka_289 g => ?_)
              refine lv_iload hx hb dX2_readMemberHead_282 (lv_at hl 2 rfl) ?_
              refine g_aald hx hb hK g ma_289 ka_289 (by decide) rfl (by decide) (in_bd bx_12 (by decide)) dX2_readMemberHead_284 (fun a_290 ma_290 ua_290 wa_290 => ?_)
              have ka_290 : kd a_290 = 6 := by omega
              refine g_geti (C := RX6) (T := TX6) (N := 13) hx hb hts (mc_ inX6) hown hK g ma_290 ka_290 (by decide) rfl 3 (by decide) rfl (hts _ (List.mem_cons_of_mem _ t_568)) (fun _ h9 => h9) rfl dX2_readMemberHead_285 (fun x_291 bx_291 g => ?_)
              refine lv_aload_n hx hb dX2_readMemberHead_288 rfl (lv_at hl 6 rfl) ?_
              refine g_getk (C := RX2) (T := TX2) (N := 16) hx hb hts (mc_ inX2) hown hK g rfl 5 (by decide) rfl (hts _ (List.mem_cons_of_mem _ t_421)) (fun _ h9 => h9) 9 rfl dX2_readMemberHead_289 ?_
              refine g_geti (C := RX6) (T := TX6) (N := 13) hx hb hts (mc_ inX6) hown hK g mq4_ kq4_ (by decide) rfl 3 (by decide) rfl (hts _ (List.mem_cons_of_mem _ t_568)) (fun _ h9 => h9) rfl dX2_readMemberHead_292 (fun x_292 bx_292 g => ?_)
              refine lv_icmp_eq (tgt := 308) hx hb dX2_readMemberHead_295 (by decide) (fun c_293 => ?_) (fun c_293 => ?_)
              · have fc_293 := eq_f c_293
                subst hQ
                exact W.vret hx hb hr (fun t ht hW => ⟨⟨_, rfl, Or.inr (⟨x_284, h_285, x_269, h_270, q4_, ⟨mq4_, kq4_⟩, (g.fcts [3, 4, 10] rfl)⟩), q3_of g hK ht hW⟩, g.2.2.1.F ht⟩) g.2.2.1.2.2 dX2_readMemberHead_308
              · have fc_293 := neq_f c_293
                refine lv_aload_n hx hb dX2_readMemberHead_298 rfl (lv_at hl 6 rfl) ?_
                refine g_getk (C := RX2) (T := TX2) (N := 16) hx hb hts (mc_ inX2) hown hK g rfl 0 (by decide) rfl (hts _ (List.mem_cons_of_mem _ t_416)) (fun _ h9 => h9) 6 rfl dX2_readMemberHead_299 ?_
                refine lv_iconst (v := 5) hx hb dX2_readMemberHead_302 (by decide) ?_
                refine lv_iload hx hb dX2_readMemberHead_303 (lv_at hl 0 rfl) ?_
                have kb_5 : bd 5 5 (5 : Int32) := ⟨by decide, by decide⟩
                refine g_callv (va_runV (As := [.int 5, .int r_282]) (rest := []) ⟨hx, hb, hml, hown, hts⟩ (r_X8_fail_2 l dC dI L kd tys fr_283 H.size g.2.2.2.1 q0_ mq0_ kq0_ 5 (bd_sub kb_5 (by decide)) r_282 x_269 h_270 (g.fcts [4] rfl)) (cwV 2 hts (gV_ t_1122 t_1107 t_1108 t_184 t_1109) rfl rfl rfl (by decide +kernel) ⟨(Nat.le_of_ble_eq_true rfl), (Nat.le_of_ble_eq_true rfl)⟩) (pre3V g hK mq0_ kq0_ (by decide) (q := (RX8, TX8, 10)) rfl) rfl rfl hl.1 rfl (lv_room (Nat.le_of_ble_eq_true rfl)) dX2_readMemberHead_305 ⟨(Nat.le_of_ble_eq_true rfl), (Nat.le_of_ble_eq_true rfl)⟩) g hK (by decide) (by decide) (fx' := [(6, 3, q4_, .int x_292), (6, 3, a_290, .int x_291), (7, 2, q2_, .ref a_289), (8, 8, q0_, .int x_269), (9, 9, q3_, .ref a_11), (2, 0, a0_, .ref q0_), (2, 1, a0_, .ref q1_), (2, 3, a0_, .ref q2_), (2, 4, a0_, .ref q3_), (2, 5, a0_, .ref q4_), (5, 1, q1_, .ref q5_)]) rfl (fun fr_294 H locs hp hMr_294 g => ?_)
                have hF_295 := hp
                have g := g.more hF_295
                subst hQ
                exact W.vret hx hb hr (fun t ht hW => ⟨⟨_, rfl, Or.inr (⟨1201, kb_1201, x_269, h_270, q4_, ⟨mq4_, kq4_⟩, (g.fcts [0, 4, 10] rfl)⟩), q3_of g hK ht hW⟩, g.2.2.1.F ht⟩) g.2.2.1.2.2 dX2_readMemberHead_308
          · have fc_280 := nlt_f c_280
            have b_296 : bd 0 3 v199_7 := leL fc_280 bv199_7 kb_3 (by decide)
            refine lv_iload hx hb dX2_readMemberHead_205 (lv_at hl 1 rfl) ?_
            have kb_0 : bd 0 0 (0 : Int32) := ⟨by decide, by decide⟩
            refine lv_if_eq (tgt := 251) hx hb dX2_readMemberHead_207 (by decide) (fun c_297 => ?_) (fun c_297 => ?_)
            · have fc_297 := eq_f c_297
              have b_298 : bd 0 0 v199_6 := eqX fc_297 bv199_6 kb_0 (by decide)
              refine lv_aload_n hx hb dX2_readMemberHead_251 rfl (lv_at hl 6 rfl) ?_
              refine g_getk (C := RX2) (T := TX2) (N := 16) hx hb hts (mc_ inX2) hown hK g rfl 0 (by decide) rfl (hts _ (List.mem_cons_of_mem _ t_416)) (fun _ h9 => h9) 3 rfl dX2_readMemberHead_252 ?_
              refine g_calli (va_runV (As := []) (rest := []) ⟨hx, hb, hml, hown, hts⟩ (r_X8_place l dC dI L kd tys f H.size g.2.2.2.1 q0_ mq0_ kq0_) (cwV 0 hts (gV_ t_1110 t_1111 t_1112 t_184 t_1113) rfl rfl rfl (by decide +kernel) ⟨(Nat.le_of_ble_eq_true rfl), (Nat.le_of_ble_eq_true rfl)⟩) (pre3V g hK mq0_ kq0_ (by decide) (q := (RX8, TX8, 10)) rfl) rfl rfl hl.1 rfl (lv_room (Nat.le_of_ble_eq_true rfl)) dX2_readMemberHead_255 ⟨(Nat.le_of_ble_eq_true rfl), (Nat.le_of_ble_eq_true rfl)⟩) g hK (by decide) (by decide) (fx' := [(8, 6, q0_, .int w199_8_6_q0_), (8, 8, q0_, .int x_269), (9, 9, q3_, .ref a_11), (2, 0, a0_, .ref q0_), (2, 1, a0_, .ref q1_), (2, 3, a0_, .ref q2_), (2, 4, a0_, .ref q3_), (2, 5, a0_, .ref q4_), (5, 1, q1_, .ref q5_)]) rfl (fun r_299 fr_299 H locs hp hMr_299 g => ?_)
              refine lv_istore (lv' := [(7, .int r_299), (6, .int v199_6), (5, .int x_12), (4, .int r_7), (2, .long r_6), (1, .int r_5), (0, .ref a0_)]) hx hb dX2_readMemberHead_258 hl (by decide) rfl (fun ls hl => ?_)
              refine lv_aload_n hx hb dX2_readMemberHead_260 rfl (lv_at hl 6 rfl) ?_
              refine g_getk (C := RX2) (T := TX2) (N := 16) hx hb hts (mc_ inX2) hown hK g rfl 0 (by decide) rfl (hts _ (List.mem_cons_of_mem _ t_416)) (fun _ h9 => h9) 3 rfl dX2_readMemberHead_261 ?_
              refine lv_bipush (v := 41) hx hb dX2_readMemberHead_264 (by decide) ?_
              refine g_callv (va_runV (As := [.int 41]) (rest := []) ⟨hx, hb, hml, hown, hts⟩ (r_X8_take_2 l dC dI L kd tys fr_299 H.size g.2.2.2.1 q0_ mq0_ kq0_ 41 w199_8_6_q0_ bw199_8_6_q0_ x_269 h_270 (g.fcts [0, 1] rfl)) (cwV 1 hts (gV_ t_1098 t_1099 t_1100 t_184 t_1101) rfl rfl rfl (by decide +kernel) ⟨(Nat.le_of_ble_eq_true rfl), (Nat.le_of_ble_eq_true rfl)⟩) (pre3V g hK mq0_ kq0_ (by decide) (q := (RX8, TX8, 10)) rfl) rfl rfl hl.1 rfl (lv_room (Nat.le_of_ble_eq_true rfl)) dX2_readMemberHead_266 ⟨(Nat.le_of_ble_eq_true rfl), (Nat.le_of_ble_eq_true rfl)⟩) g hK (by decide) (by decide) (fx' := [(8, 8, q0_, .int x_269), (9, 9, q3_, .ref a_11), (2, 0, a0_, .ref q0_), (2, 1, a0_, .ref q1_), (2, 3, a0_, .ref q2_), (2, 4, a0_, .ref q3_), (2, 5, a0_, .ref q4_), (5, 1, q1_, .ref q5_)]) rfl (fun fr_300 H locs hp hMr_300 g => ?_)
              obtain ⟨x_301, h_302, hF_303⟩ := hp
              have g := g.more hF_303
              refine lv_iload hx hb dX2_readMemberHead_269 (lv_at hl 2 rfl) ?_
              refine lv_iconst (v := (-1)) hx hb dX2_readMemberHead_271 (by decide) ?_
              refine lv_icmp_eq (tgt := 308) hx hb dX2_readMemberHead_272 (by decide) (fun c_304 => ?_) (fun c_304 => ?_)
              · have fc_304 := eq_f c_304
                have b_305 : bd 0 (-1) x_12 := eqX fc_304 bx_12 kb_m1 (by decide)
                exact bd_no b_305 (by decide)
              · have fc_304 := neq_f c_304
                refine lv_aload_n hx hb dX2_readMemberHead_275 rfl (lv_at hl 6 rfl) ?_
                refine g_getk (C := RX2) (T := TX2) (N := 16) hx hb hts (mc_ inX2) hown hK g rfl 3 (by decide) rfl (hts _ (List.mem_cons_of_mem _ t_419)) (fun _ h9 => h9) 5 rfl dX2_readMemberHead_276 ?_
                refine g_getr (K := 137) (C := RX7) (T := TX7) (N := 19) hx hb hts (mc_ inX7) hown hK g mq2_ kq2_ (by decide) rfl 2 (by decide) rfl (hts _ (List.mem_cons_of_mem _ t_630)) (fun _ h9 => h9) rfl dX2_readMemberHead_279 (fun a_306 ma_306 ka_306 g => ?_)
                refine lv_iload hx hb dX2_readMemberHead_282 (lv_at hl 2 rfl) ?_
                refine g_aald hx hb hK g ma_306 ka_306 (by decide) rfl (by decide) (in_bd bx_12 (by decide)) dX2_readMemberHead_284 (fun a_307 ma_307 ua_307 wa_307 => ?_)
                have ka_307 : kd a_307 = 6 := by omega
                refine g_geti (C := RX6) (T := TX6) (N := 13) hx hb hts (mc_ inX6) hown hK g ma_307 ka_307 (by decide) rfl 3 (by decide) rfl (hts _ (List.mem_cons_of_mem _ t_568)) (fun _ h9 => h9) rfl dX2_readMemberHead_285 (fun x_308 bx_308 g => ?_)
                refine lv_aload_n hx hb dX2_readMemberHead_288 rfl (lv_at hl 6 rfl) ?_
                refine g_getk (C := RX2) (T := TX2) (N := 16) hx hb hts (mc_ inX2) hown hK g rfl 5 (by decide) rfl (hts _ (List.mem_cons_of_mem _ t_421)) (fun _ h9 => h9) 9 rfl dX2_readMemberHead_289 ?_
                refine g_geti (C := RX6) (T := TX6) (N := 13) hx hb hts (mc_ inX6) hown hK g mq4_ kq4_ (by decide) rfl 3 (by decide) rfl (hts _ (List.mem_cons_of_mem _ t_568)) (fun _ h9 => h9) rfl dX2_readMemberHead_292 (fun x_309 bx_309 g => ?_)
                refine lv_icmp_eq (tgt := 308) hx hb dX2_readMemberHead_295 (by decide) (fun c_310 => ?_) (fun c_310 => ?_)
                · have fc_310 := eq_f c_310
                  subst hQ
                  exact W.vret hx hb hr (fun t ht hW => ⟨⟨_, rfl, Or.inr (⟨x_301, h_302, x_269, h_270, q4_, ⟨mq4_, kq4_⟩, (g.fcts [3, 4, 10] rfl)⟩), q3_of g hK ht hW⟩, g.2.2.1.F ht⟩) g.2.2.1.2.2 dX2_readMemberHead_308
                · have fc_310 := neq_f c_310
                  refine lv_aload_n hx hb dX2_readMemberHead_298 rfl (lv_at hl 6 rfl) ?_
                  refine g_getk (C := RX2) (T := TX2) (N := 16) hx hb hts (mc_ inX2) hown hK g rfl 0 (by decide) rfl (hts _ (List.mem_cons_of_mem _ t_416)) (fun _ h9 => h9) 6 rfl dX2_readMemberHead_299 ?_
                  refine lv_iconst (v := 5) hx hb dX2_readMemberHead_302 (by decide) ?_
                  refine lv_iload hx hb dX2_readMemberHead_303 (lv_at hl 0 rfl) ?_
                  have kb_5 : bd 5 5 (5 : Int32) := ⟨by decide, by decide⟩
                  refine g_callv (va_runV (As := [.int 5, .int r_299]) (rest := []) ⟨hx, hb, hml, hown, hts⟩ (r_X8_fail_2 l dC dI L kd tys fr_300 H.size g.2.2.2.1 q0_ mq0_ kq0_ 5 (bd_sub kb_5 (by decide)) r_299 x_269 h_270 (g.fcts [4] rfl)) (cwV 2 hts (gV_ t_1122 t_1107 t_1108 t_184 t_1109) rfl rfl rfl (by decide +kernel) ⟨(Nat.le_of_ble_eq_true rfl), (Nat.le_of_ble_eq_true rfl)⟩) (pre3V g hK mq0_ kq0_ (by decide) (q := (RX8, TX8, 10)) rfl) rfl rfl hl.1 rfl (lv_room (Nat.le_of_ble_eq_true rfl)) dX2_readMemberHead_305 ⟨(Nat.le_of_ble_eq_true rfl), (Nat.le_of_ble_eq_true rfl)⟩) g hK (by decide) (by decide) (fx' := [(6, 3, q4_, .int x_309), (6, 3, a_307, .int x_308), (7, 2, q2_, .ref a_306), (8, 8, q0_, .int x_269), (9, 9, q3_, .ref a_11), (2, 0, a0_, .ref q0_), (2, 1, a0_, .ref q1_), (2, 3, a0_, .ref q2_), (2, 4, a0_, .ref q3_), (2, 5, a0_, .ref q4_), (5, 1, q1_, .ref q5_)]) rfl (fun fr_311 H locs hp hMr_311 g => ?_)
                  have hF_312 := hp
                  have g := g.more hF_312
                  subst hQ
                  exact W.vret hx hb hr (fun t ht hW => ⟨⟨_, rfl, Or.inr (⟨1201, kb_1201, x_269, h_270, q4_, ⟨mq4_, kq4_⟩, (g.fcts [0, 4, 10] rfl)⟩), q3_of g hK ht hW⟩, g.2.2.1.F ht⟩) g.2.2.1.2.2 dX2_readMemberHead_308
            · have fc_297 := neq_f c_297
              have b_313 : bd 1 1 v199_6 := neX fc_297 bv199_6 kb_0 (by decide)
              refine lv_aload_n hx hb dX2_readMemberHead_210 rfl (lv_at hl 6 rfl) ?_
              refine g_callv (va_runV (As := []) (rest := []) ⟨hx, hb, hml, hown, hts⟩ (r_X2_readParam_2 l dC dI L kd tys f H.size g.2.2.2.1 a0_ ma0_ ka0_ q0_ mq0_ kq0_ q1_ mq1_ kq1_ q4_ mq4_ kq4_ q5_ mq5_ kq5_ w199_8_6_q0_ bw199_8_6_q0_ x_269 h_270 (g.fcts [3, 4, 7, 8, 0, 1] rfl)) (cwV 0 hts (gV_ t_1313 t_1315 t_34 t_183 t_1316) rfl rfl rfl (by decide +kernel) ⟨(Nat.le_of_ble_eq_true rfl), (Nat.le_of_ble_eq_true rfl)⟩) (pre3V g hK ma0_ ka0_ (by decide) (q := (RX2, TX2, 16)) rfl) rfl rfl hl.1 rfl (lv_room (Nat.le_of_ble_eq_true rfl)) dX2_readMemberHead_211 ⟨(Nat.le_of_ble_eq_true rfl), (Nat.le_of_ble_eq_true rfl)⟩) g hK (by decide) (by decide) (fx' := [(8, 8, q0_, .int x_269), (9, 9, q3_, .ref a_11), (2, 0, a0_, .ref q0_), (2, 1, a0_, .ref q1_), (2, 3, a0_, .ref q2_), (2, 4, a0_, .ref q3_), (2, 5, a0_, .ref q4_), (5, 1, q1_, .ref q5_)]) rfl (fun fr_314 H locs hp hMr_314 g => ?_)
              have hF_315 := hp
              have g := g.more hF_315
              refine lv_aload_n hx hb dX2_readMemberHead_214 rfl (lv_at hl 6 rfl) ?_
              refine g_getk (C := RX2) (T := TX2) (N := 16) hx hb hts (mc_ inX2) hown hK g rfl 0 (by decide) rfl (hts _ (List.mem_cons_of_mem _ t_416)) (fun _ h9 => h9) 3 rfl dX2_readMemberHead_215 ?_
              refine g_calli (va_runV (As := []) (rest := []) ⟨hx, hb, hml, hown, hts⟩ (r_X8_kind_2 l dC dI L kd tys fr_314 H.size g.2.2.2.1 q0_ mq0_ kq0_ 1201 kb_1201 (g.fcts [0] rfl)) (cwV 0 hts (gV_ t_1118 t_1119 t_1120 t_184 t_1121) rfl rfl rfl (by decide +kernel) ⟨(Nat.le_of_ble_eq_true rfl), (Nat.le_of_ble_eq_true rfl)⟩) (pre3V g hK mq0_ kq0_ (by decide) (q := (RX8, TX8, 10)) rfl) rfl rfl hl.1 rfl (lv_room (Nat.le_of_ble_eq_true rfl)) dX2_readMemberHead_218 ⟨(Nat.le_of_ble_eq_true rfl), (Nat.le_of_ble_eq_true rfl)⟩) g hK (by decide) (by decide) (fx' := [(8, 6, q0_, .int 1201), (8, 8, q0_, .int x_269), (9, 9, q3_, .ref a_11), (2, 0, a0_, .ref q0_), (2, 1, a0_, .ref q1_), (2, 3, a0_, .ref q2_), (2, 4, a0_, .ref q3_), (2, 5, a0_, .ref q4_), (5, 1, q1_, .ref q5_)]) rfl (fun r_316 fr_316 H locs hp hMr_316 g => ?_)
              obtain ⟨h_317, -⟩ := hp
              obtain rfl : r_316 = 0 := h_317
              refine lv_bipush (v := 44) hx hb dX2_readMemberHead_221 (by decide) ?_
              refine lv_icmp_ne (tgt := 230) hx hb dX2_readMemberHead_223 (by decide) (fun c_ => ?_) (fun c_ => absurd c_ (by decide))
              refine lv_iconst (v := 0) hx hb dX2_readMemberHead_230 (by decide) ?_
              refine lv_istore (lv' := [(6, .int 0), (7, .int v199_7), (5, .int x_12), (4, .int r_7), (2, .long r_6), (1, .int r_5), (0, .ref a0_)]) hx hb dX2_readMemberHead_231 hl (by decide) rfl (fun ls hl => ?_)
              refine lv_iload hx hb dX2_readMemberHead_233 (lv_at hl 0 rfl) ?_
              refine lv_if_eq (tgt := 245) hx hb dX2_readMemberHead_235 (by decide) (fun c_ => ?_) (fun c_ => absurd (by decide) c_)
              obtain ⟨y_318, ey_318⟩ : ∃ z : Int32, z = v199_7 + 1 := ⟨_, rfl⟩
              refine lv_iinc (v := y_318) (lv' := [(7, .int y_318), (6, .int 0), (5, .int x_12), (4, .int r_7), (2, .long r_6), (1, .int r_5), (0, .ref a0_)]) hx hb dX2_readMemberHead_245 hl (k := 1) rfl (by rw [ey_318]; rfl) (by decide) rfl (fun ls hl => ?_)
              have ty_318 := add_bd ey_318 b_296 kb_1 (by decide)
              have b_319 : bd 1 4 y_318 := add_rg ty_318 b_296 kb_1 (by decide)
              refine lv_goto (tgt := 199) hx hb dX2_readMemberHead_248 (by decide) ?_
              have hl9 := lv_sub hl [0, 1, 2, 3, 4, 5, 6] (by rfl : lv_pick [(7, .int y_318), (6, .int 0), (5, .int x_12), (4, .int r_7), (2, .long r_6), (1, .int r_5), (0, .ref a0_)] [0, 1, 2, 3, 4, 5, 6] = [(7, .int y_318), (6, .int 0), (5, .int x_12), (4, .int r_7), (2, .long r_6), (1, .int r_5), (0, .ref a0_)])
              have g9 := g.sub (fx' := [(8, 6, q0_, .int 1201), (8, 8, q0_, .int x_269), (9, 9, q3_, .ref a_11), (2, 0, a0_, .ref q0_), (2, 1, a0_, .ref q1_), (2, 3, a0_, .ref q2_), (2, 4, a0_, .ref q3_), (2, 5, a0_, .ref q4_), (5, 1, q1_, .ref q5_)]) [0, 1, 2, 3, 4, 5, 6, 7, 8] rfl
              exact ih199  y_318 0 1201 (bd_sub b_319 (by decide)) (bd_sub kb_0 (by decide)) kb_1201 (by have h9_0 := b_319; unfold bd at h9_0; have h9_1 := bv199_6; unfold bd at h9_1; have h9_2 := bv199_7; unfold bd at h9_2; have h9_3 := bw199_8_6_q0_; unfold bd at h9_3; have h9_4 := kb_0; unfold bd at h9_4; have h9_5 := kb_1; unfold bd at h9_5; have h9_6 := kb_1201; unfold bd at h9_6; have h9_7 := kb_3; unfold bd at h9_7; have h9_8 := kb_m1; unfold bd at h9_8; omega) _ _ _ _ g9  hl9
      have kb_0 : bd 0 0 (0 : Int32) := ⟨by decide, by decide⟩
      have hl9 := lv_sub hl [0, 1, 2, 3, 4, 5, 6] (by rfl : lv_pick [(7, .int 0), (6, .int 1), (5, .int x_12), (4, .int r_7), (2, .long r_6), (1, .int r_5), (0, .ref a0_)] [0, 1, 2, 3, 4, 5, 6] = [(7, .int 0), (6, .int 1), (5, .int x_12), (4, .int r_7), (2, .long r_6), (1, .int r_5), (0, .ref a0_)])
      have g9 := g.sub (fx' := [(8, 6, q0_, .int x_274), (8, 8, q0_, .int x_269), (9, 9, q3_, .ref a_11), (2, 0, a0_, .ref q0_), (2, 1, a0_, .ref q1_), (2, 3, a0_, .ref q2_), (2, 4, a0_, .ref q3_), (2, 5, a0_, .ref q4_), (5, 1, q1_, .ref q5_)]) [0, 1, 2, 3, 4, 5, 6, 7, 8] rfl
      exact loop_279 (11) 0 1 x_274 (bd_sub kb_0 (by decide)) (bd_sub kb_1 (by decide)) h_275 (by have h9_0 := h_275; unfold bd at h9_0; have h9_1 := kb_0; unfold bd at h9_1; have h9_2 := kb_1; unfold bd at h9_2; have h9_3 := kb_1201; unfold bd at h9_3; have h9_4 := kb_3; unfold bd at h9_4; have h9_5 := kb_m1; unfold bd at h9_5; omega) _ _ _ _ g9  hl9
  · have fc_9 := eq_f c_9
    have b_320 : bd (-1) (-1) r_7 := eqX fc_9 h_8 kb_m1 (by decide)
    refine lv_iconst (v := (-1)) hx hb dX2_readMemberHead_43 (by decide) ?_
    refine lv_goto (tgt := 57) hx hb dX2_readMemberHead_44 (by decide) ?_
    refine lv_istore (lv' := [(5, .int (-1)), (4, .int r_7), (2, .long r_6), (1, .int r_5), (0, .ref a0_)]) hx hb dX2_readMemberHead_57 hl (by decide) rfl (fun ls hl => ?_)
    refine lv_aload_n hx hb dX2_readMemberHead_59 rfl (lv_at hl 4 rfl) ?_
    refine g_getk (C := RX2) (T := TX2) (N := 16) hx hb hts (mc_ inX2) hown hK g rfl 0 (by decide) rfl (hts _ (List.mem_cons_of_mem _ t_416)) (fun _ h9 => h9) 1 rfl dX2_readMemberHead_60 ?_
    refine g_calli (va_runV (As := []) (rest := []) ⟨hx, hb, hml, hown, hts⟩ (r_X8_kind l dC dI L kd tys fr_7 H.size g.2.2.2.1 q0_ mq0_ kq0_) (cwV 0 hts (gV_ t_1118 t_1119 t_1120 t_184 t_1121) rfl rfl rfl (by decide +kernel) ⟨(Nat.le_of_ble_eq_true rfl), (Nat.le_of_ble_eq_true rfl)⟩) (pre3V g hK mq0_ kq0_ (by decide) (q := (RX8, TX8, 10)) rfl) rfl rfl hl.1 rfl (lv_room (Nat.le_of_ble_eq_true rfl)) dX2_readMemberHead_63 ⟨(Nat.le_of_ble_eq_true rfl), (Nat.le_of_ble_eq_true rfl)⟩) g hK (by decide) (by decide) (fx' := [(8, 6, q0_, .int x_2), (2, 0, a0_, .ref q0_), (2, 1, a0_, .ref q1_), (2, 3, a0_, .ref q2_), (2, 4, a0_, .ref q3_), (2, 5, a0_, .ref q4_), (5, 1, q1_, .ref q5_), (8, 8, q0_, .int y0_)]) rfl (fun r_321 fr_321 H locs hp hMr_321 g => ?_)
    refine lv_iconst (v := 3) hx hb dX2_readMemberHead_66 (by decide) ?_
    have kb_3 : bd 3 3 (3 : Int32) := ⟨by decide, by decide⟩
    refine lv_icmp_eq (tgt := 82) hx hb dX2_readMemberHead_67 (by decide) (fun c_322 => ?_) (fun c_322 => ?_)
    · have fc_322 := eq_f c_322
      have b_323 : bd 3 3 r_321 := eqX fc_322 (bdT r_321) kb_3 (by decide)
      refine lv_iload hx hb dX2_readMemberHead_82 (lv_at hl 0 rfl) ?_
      refine lv_iconst (v := (-1)) hx hb dX2_readMemberHead_84 (by decide) ?_
      refine lv_icmp_eq (tgt := 123) hx hb dX2_readMemberHead_85 (by decide) (fun c_ => ?_) (fun c_ => absurd (by decide) c_)
      refine lv_iload hx hb dX2_readMemberHead_123 (lv_at hl 0 rfl) ?_
      refine lv_iconst (v := (-1)) hx hb dX2_readMemberHead_125 (by decide) ?_
      refine lv_icmp_ne (tgt := 153) hx hb dX2_readMemberHead_126 (by decide) (fun c_ => absurd c_ (by decide)) (fun c_ => ?_)
      refine lv_aload_n hx hb dX2_readMemberHead_129 rfl (lv_at hl 4 rfl) ?_
      refine g_getk (C := RX2) (T := TX2) (N := 16) hx hb hts (mc_ inX2) hown hK g rfl 4 (by decide) rfl (hts _ (List.mem_cons_of_mem _ t_420)) (fun _ h9 => h9) 4 rfl dX2_readMemberHead_130 ?_
      refine g_geti (C := RX9) (T := TX9) (N := 13) hx hb hts (mc_ inX9) hown hK g mq3_ kq3_ (by decide) rfl 8 (by decide) rfl (hts _ (List.mem_cons_of_mem _ t_502)) (fun _ h9 => h9) rfl dX2_readMemberHead_133 (fun x_324 bx_324 g => ?_)
      refine lv_bipush (v := 12) hx hb dX2_readMemberHead_136 (by decide) ?_
      have kb_12 : bd 12 12 (12 : Int32) := ⟨by decide, by decide⟩
      refine lv_icmp_lt (tgt := 153) hx hb dX2_readMemberHead_138 (by decide) (fun c_325 => ?_) (fun c_325 => ?_)
      · have fc_325 := lt_f c_325
        have b_326 : bd 0 11 x_324 := ltL fc_325 bx_324 kb_12 (by decide)
        refine lv_aload_n hx hb dX2_readMemberHead_153 rfl (lv_at hl 4 rfl) ?_
        refine lv_lload_n hx hb dX2_readMemberHead_154 rfl (lv_at hl 2 rfl) ?_
        refine lv_iload_n hx hb dX2_readMemberHead_155 rfl (lv_at hl 3 rfl) ?_
        refine lv_iload hx hb dX2_readMemberHead_156 (lv_at hl 1 rfl) ?_
        refine g_callv (va_runV (As := [.long r_6, .int r_5, .int r_7]) (rest := []) ⟨hx, hb, hml, hown, hts⟩ (r_X2_beginTelling_2 l dC dI L kd tys fr_321 H.size g.2.2.2.1 a0_ ma0_ ka0_ r_6 r_5 r_7 b_320 q0_ mq0_ kq0_ q2_ mq2_ kq2_ q3_ mq3_ kq3_ x_324 b_326 y0_ by0_ (g.fcts [2, 4, 5, 0, 8] rfl)) (cwV 3 hts (gV_ t_1307 t_1309 t_33 t_183 t_1310) rfl rfl rfl (by decide +kernel) ⟨(Nat.le_of_ble_eq_true rfl), (Nat.le_of_ble_eq_true rfl)⟩) (pre3V g hK ma0_ ka0_ (by decide) (q := (RX2, TX2, 16)) rfl) rfl rfl hl.1 rfl (lv_room (Nat.le_of_ble_eq_true rfl)) dX2_readMemberHead_158 ⟨(Nat.le_of_ble_eq_true rfl), (Nat.le_of_ble_eq_true rfl)⟩) g hK (by decide) (by decide) (fx' := [(8, 6, q0_, .int x_2), (2, 0, a0_, .ref q0_), (2, 1, a0_, .ref q1_), (2, 3, a0_, .ref q2_), (2, 4, a0_, .ref q3_), (5, 1, q1_, .ref q5_), (8, 8, q0_, .int y0_)]) rfl (fun fr_327 H locs hp hMr_327 g => ?_)
        obtain ⟨x_328, h_329, a_330, ⟨ma_330, ka_330⟩, x_331, h_332, x_333, h_334, hF_335⟩ := hp
        have g := g.more hF_335
        refine lv_aload_n hx hb dX2_readMemberHead_161 rfl (lv_at hl 4 rfl) ?_
        refine g_getk (C := RX2) (T := TX2) (N := 16) hx hb hts (mc_ inX2) hown hK g rfl 0 (by decide) rfl (hts _ (List.mem_cons_of_mem _ t_416)) (fun _ h9 => h9) 6 rfl dX2_readMemberHead_162 ?_
        refine g_callv (va_runV (As := []) (rest := []) ⟨hx, hb, hml, hown, hts⟩ (r_X8_next l dC dI L kd tys fr_327 H.size g.2.2.2.1 q0_ mq0_ kq0_) (cwV 0 hts (gV_ t_1131 t_1103 t_1104 t_184 t_1105) rfl rfl rfl (by decide +kernel) ⟨(Nat.le_of_ble_eq_true rfl), (Nat.le_of_ble_eq_true rfl)⟩) (pre3V g hK mq0_ kq0_ (by decide) (q := (RX8, TX8, 10)) rfl) rfl rfl hl.1 rfl (lv_room (Nat.le_of_ble_eq_true rfl)) dX2_readMemberHead_165 ⟨(Nat.le_of_ble_eq_true rfl), (Nat.le_of_ble_eq_true rfl)⟩) g hK (by decide) (by decide) (fx' := [(2, 6, a0_, .int 0), (9, 8, q3_, .int x_328), (2, 5, a0_, .ref a_330), (7, 3, q2_, .int x_331), (6, 12, a_330, .int x_333), (2, 0, a0_, .ref q0_), (2, 1, a0_, .ref q1_), (2, 3, a0_, .ref q2_), (2, 4, a0_, .ref q3_), (5, 1, q1_, .ref q5_), (8, 8, q0_, .int y0_)]) rfl (fun fr_336 H locs hp hMr_336 g => ?_)
        obtain ⟨x_337, h_338, hF_339⟩ := hp
        have g := g.more hF_339
        refine lv_aload_n hx hb dX2_readMemberHead_168 rfl (lv_at hl 4 rfl) ?_
        refine g_getk (C := RX2) (T := TX2) (N := 16) hx hb hts (mc_ inX2) hown hK g rfl 0 (by decide) rfl (hts _ (List.mem_cons_of_mem _ t_416)) (fun _ h9 => h9) 6 rfl dX2_readMemberHead_169 ?_
        refine lv_bipush (v := 40) hx hb dX2_readMemberHead_172 (by decide) ?_
        refine g_callv (va_runV (As := [.int 40]) (rest := []) ⟨hx, hb, hml, hown, hts⟩ (r_X8_take l dC dI L kd tys fr_336 H.size g.2.2.2.1 q0_ mq0_ kq0_ 40 y0_ by0_ (g.fcts [11] rfl)) (cwV 1 hts (gV_ t_1098 t_1099 t_1100 t_184 t_1101) rfl rfl rfl (by decide +kernel) ⟨(Nat.le_of_ble_eq_true rfl), (Nat.le_of_ble_eq_true rfl)⟩) (pre3V g hK mq0_ kq0_ (by decide) (q := (RX8, TX8, 10)) rfl) rfl rfl hl.1 rfl (lv_room (Nat.le_of_ble_eq_true rfl)) dX2_readMemberHead_174 ⟨(Nat.le_of_ble_eq_true rfl), (Nat.le_of_ble_eq_true rfl)⟩) g hK (by decide) (by decide) (fx' := [(2, 6, a0_, .int 0), (9, 8, q3_, .int x_328), (2, 5, a0_, .ref a_330), (7, 3, q2_, .int x_331), (6, 12, a_330, .int x_333), (2, 0, a0_, .ref q0_), (2, 1, a0_, .ref q1_), (2, 3, a0_, .ref q2_), (2, 4, a0_, .ref q3_), (5, 1, q1_, .ref q5_)]) rfl (fun fr_340 H locs hp hMr_340 g => ?_)
        rcases hp with ⟨x_341, h_342, hF_343⟩ | ⟨x_344, h_345, hF_346⟩
        · have g := g.more hF_343
          refine lv_aload_n hx hb dX2_readMemberHead_177 rfl (lv_at hl 4 rfl) ?_
          refine g_getk (C := RX2) (T := TX2) (N := 16) hx hb hts (mc_ inX2) hown hK g rfl 0 (by decide) rfl (hts _ (List.mem_cons_of_mem _ t_416)) (fun _ h9 => h9) 7 rfl dX2_readMemberHead_178 ?_
          refine g_calli (va_runV (As := []) (rest := []) ⟨hx, hb, hml, hown, hts⟩ (r_X8_kind l dC dI L kd tys fr_340 H.size g.2.2.2.1 q0_ mq0_ kq0_) (cwV 0 hts (gV_ t_1118 t_1119 t_1120 t_184 t_1121) rfl rfl rfl (by decide +kernel) ⟨(Nat.le_of_ble_eq_true rfl), (Nat.le_of_ble_eq_true rfl)⟩) (pre3V g hK mq0_ kq0_ (by decide) (q := (RX8, TX8, 10)) rfl) rfl rfl hl.1 rfl (lv_room (Nat.le_of_ble_eq_true rfl)) dX2_readMemberHead_181 ⟨(Nat.le_of_ble_eq_true rfl), (Nat.le_of_ble_eq_true rfl)⟩) g hK (by decide) (by decide) (fx' := [(8, 6, q0_, .int x_341), (8, 8, q0_, .int y0_), (2, 6, a0_, .int 0), (9, 8, q3_, .int x_328), (2, 5, a0_, .ref a_330), (7, 3, q2_, .int x_331), (6, 12, a_330, .int x_333), (2, 0, a0_, .ref q0_), (2, 1, a0_, .ref q1_), (2, 3, a0_, .ref q2_), (2, 4, a0_, .ref q3_), (5, 1, q1_, .ref q5_)]) rfl (fun r_347 fr_347 H locs hp hMr_347 g => ?_)
          refine lv_bipush (v := 41) hx hb dX2_readMemberHead_184 (by decide) ?_
          have kb_41 : bd 41 41 (41 : Int32) := ⟨by decide, by decide⟩
          refine lv_icmp_eq (tgt := 193) hx hb dX2_readMemberHead_186 (by decide) (fun c_348 => ?_) (fun c_348 => ?_)
          · have fc_348 := eq_f c_348
            have b_349 : bd 41 41 r_347 := eqX fc_348 (bdT r_347) kb_41 (by decide)
            refine lv_iconst (v := 0) hx hb dX2_readMemberHead_193 (by decide) ?_
            refine lv_istore (lv' := [(6, .int 0), (5, .int (-1)), (4, .int r_7), (2, .long r_6), (1, .int r_5), (0, .ref a0_)]) hx hb dX2_readMemberHead_194 hl (by decide) rfl (fun ls hl => ?_)
            refine lv_iconst (v := 0) hx hb dX2_readMemberHead_196 (by decide) ?_
            refine lv_istore (lv' := [(7, .int 0), (6, .int 0), (5, .int (-1)), (4, .int r_7), (2, .long r_6), (1, .int r_5), (0, .ref a0_)]) hx hb dX2_readMemberHead_197 hl (by decide) rfl (fun ls hl => ?_)
            refine lv_iload hx hb dX2_readMemberHead_199 (lv_at hl 0 rfl) ?_
            refine lv_iconst (v := 3) hx hb dX2_readMemberHead_201 (by decide) ?_
            refine lv_icmp_gt (tgt := 251) hx hb dX2_readMemberHead_202 (by decide) (fun c_ => absurd c_ (by decide)) (fun c_ => ?_)
            refine lv_iload hx hb dX2_readMemberHead_205 (lv_at hl 1 rfl) ?_
            refine lv_if_eq (tgt := 251) hx hb dX2_readMemberHead_207 (by decide) (fun c_ => ?_) (fun c_ => absurd (by decide) c_)
            refine lv_aload_n hx hb dX2_readMemberHead_251 rfl (lv_at hl 6 rfl) ?_
            refine g_getk (C := RX2) (T := TX2) (N := 16) hx hb hts (mc_ inX2) hown hK g rfl 0 (by decide) rfl (hts _ (List.mem_cons_of_mem _ t_416)) (fun _ h9 => h9) 7 rfl dX2_readMemberHead_252 ?_
            refine g_calli (va_runV (As := []) (rest := []) ⟨hx, hb, hml, hown, hts⟩ (r_X8_place l dC dI L kd tys fr_347 H.size g.2.2.2.1 q0_ mq0_ kq0_) (cwV 0 hts (gV_ t_1110 t_1111 t_1112 t_184 t_1113) rfl rfl rfl (by decide +kernel) ⟨(Nat.le_of_ble_eq_true rfl), (Nat.le_of_ble_eq_true rfl)⟩) (pre3V g hK mq0_ kq0_ (by decide) (q := (RX8, TX8, 10)) rfl) rfl rfl hl.1 rfl (lv_room (Nat.le_of_ble_eq_true rfl)) dX2_readMemberHead_255 ⟨(Nat.le_of_ble_eq_true rfl), (Nat.le_of_ble_eq_true rfl)⟩) g hK (by decide) (by decide) (fx' := [(8, 6, q0_, .int x_341), (8, 8, q0_, .int y0_), (2, 6, a0_, .int 0), (9, 8, q3_, .int x_328), (2, 5, a0_, .ref a_330), (7, 3, q2_, .int x_331), (6, 12, a_330, .int x_333), (2, 0, a0_, .ref q0_), (2, 1, a0_, .ref q1_), (2, 3, a0_, .ref q2_), (2, 4, a0_, .ref q3_), (5, 1, q1_, .ref q5_)]) rfl (fun r_350 fr_350 H locs hp hMr_350 g => ?_)
            refine lv_istore (lv' := [(7, .int r_350), (6, .int 0), (5, .int (-1)), (4, .int r_7), (2, .long r_6), (1, .int r_5), (0, .ref a0_)]) hx hb dX2_readMemberHead_258 hl (by decide) rfl (fun ls hl => ?_)
            refine lv_aload_n hx hb dX2_readMemberHead_260 rfl (lv_at hl 6 rfl) ?_
            refine g_getk (C := RX2) (T := TX2) (N := 16) hx hb hts (mc_ inX2) hown hK g rfl 0 (by decide) rfl (hts _ (List.mem_cons_of_mem _ t_416)) (fun _ h9 => h9) 7 rfl dX2_readMemberHead_261 ?_
            refine lv_bipush (v := 41) hx hb dX2_readMemberHead_264 (by decide) ?_
            refine g_callv (va_runV (As := [.int 41]) (rest := []) ⟨hx, hb, hml, hown, hts⟩ (r_X8_take l dC dI L kd tys fr_350 H.size g.2.2.2.1 q0_ mq0_ kq0_ 41 y0_ by0_ (g.fcts [1] rfl)) (cwV 1 hts (gV_ t_1098 t_1099 t_1100 t_184 t_1101) rfl rfl rfl (by decide +kernel) ⟨(Nat.le_of_ble_eq_true rfl), (Nat.le_of_ble_eq_true rfl)⟩) (pre3V g hK mq0_ kq0_ (by decide) (q := (RX8, TX8, 10)) rfl) rfl rfl hl.1 rfl (lv_room (Nat.le_of_ble_eq_true rfl)) dX2_readMemberHead_266 ⟨(Nat.le_of_ble_eq_true rfl), (Nat.le_of_ble_eq_true rfl)⟩) g hK (by decide) (by decide) (fx' := [(2, 6, a0_, .int 0), (9, 8, q3_, .int x_328), (2, 5, a0_, .ref a_330), (7, 3, q2_, .int x_331), (6, 12, a_330, .int x_333), (2, 0, a0_, .ref q0_), (2, 1, a0_, .ref q1_), (2, 3, a0_, .ref q2_), (2, 4, a0_, .ref q3_), (5, 1, q1_, .ref q5_)]) rfl (fun fr_351 H locs hp hMr_351 g => ?_)
            rcases hp with ⟨x_352, h_353, hF_354⟩ | ⟨x_355, h_356, hF_357⟩
            · have g := g.more hF_354
              refine lv_iload hx hb dX2_readMemberHead_269 (lv_at hl 2 rfl) ?_
              refine lv_iconst (v := (-1)) hx hb dX2_readMemberHead_271 (by decide) ?_
              refine lv_icmp_eq (tgt := 308) hx hb dX2_readMemberHead_272 (by decide) (fun c_ => ?_) (fun c_ => absurd (by decide) c_)
              subst hQ
              exact W.vret hx hb hr (fun t ht hW => ⟨⟨_, rfl, Or.inl ⟨x_352, h_353, x_328, h_329, a_330, ⟨ma_330, ka_330⟩, x_331, h_332, x_333, h_334, (g.fcts [0, 1, 2, 3, 4, 5, 6] rfl)⟩, q3_of g hK ht hW⟩, g.2.2.1.F ht⟩) g.2.2.1.2.2 dX2_readMemberHead_308
            · have g := g.more hF_357
              refine lv_iload hx hb dX2_readMemberHead_269 (lv_at hl 2 rfl) ?_
              refine lv_iconst (v := (-1)) hx hb dX2_readMemberHead_271 (by decide) ?_
              refine lv_icmp_eq (tgt := 308) hx hb dX2_readMemberHead_272 (by decide) (fun c_ => ?_) (fun c_ => absurd (by decide) c_)
              have kb_1201 : bd 1201 1201 (1201 : Int32) := ⟨by decide, by decide⟩
              subst hQ
              exact W.vret hx hb hr (fun t ht hW => ⟨⟨_, rfl, Or.inr (⟨1201, kb_1201, x_355, h_356, a_330, ⟨ma_330, ka_330⟩, (g.fcts [0, 1, 4] rfl)⟩), q3_of g hK ht hW⟩, g.2.2.1.F ht⟩) g.2.2.1.2.2 dX2_readMemberHead_308
          · have fc_348 := neq_f c_348
            refine lv_iconst (v := 1) hx hb dX2_readMemberHead_189 (by decide) ?_
            refine lv_goto (tgt := 194) hx hb dX2_readMemberHead_190 (by decide) ?_
            refine lv_istore (lv' := [(6, .int 1), (5, .int (-1)), (4, .int r_7), (2, .long r_6), (1, .int r_5), (0, .ref a0_)]) hx hb dX2_readMemberHead_194 hl (by decide) rfl (fun ls hl => ?_)
            refine lv_iconst (v := 0) hx hb dX2_readMemberHead_196 (by decide) ?_
            refine lv_istore (lv' := [(7, .int 0), (6, .int 1), (5, .int (-1)), (4, .int r_7), (2, .long r_6), (1, .int r_5), (0, .ref a0_)]) hx hb dX2_readMemberHead_197 hl (by decide) rfl (fun ls hl => ?_)
            have loop_358 : ∀ (n : Nat) (v199_7 : Int32) (v199_6 : Int32) (w199_8_6_q0_ : Int32), bd 0 4 v199_7 → bd 0 1 v199_6 → bd 1 1201 w199_8_6_q0_ → (4 - v199_7.toInt < (n : Int)) → ∀ (f : Nat → va_E) (H : Heap) (locs : List Loc) (ls : Array Slot), G3 (dC, dI) L kd tys s f0 [(2, 5), (2, 6), (5, 4), (6, 0), (6, 1), (6, 2), (6, 3), (6, 6), (6, 7), (6, 8), (6, 9), (6, 10), (6, 11), (6, 12), (7, 3), (8, 6), (8, 8), (8, 9), (9, 8)] [132, 134, 135, 156] f H locs [(8, 6, q0_, .int w199_8_6_q0_), (8, 8, q0_, .int y0_), (2, 6, a0_, .int 0), (9, 8, q3_, .int x_328), (2, 5, a0_, .ref a_330), (7, 3, q2_, .int x_331), (6, 12, a_330, .int x_333), (2, 0, a0_, .ref q0_), (2, 1, a0_, .ref q1_), (2, 3, a0_, .ref q2_), (2, 4, a0_, .ref q3_), (5, 1, q1_, .ref q5_)] → lv_has ls 8 [(7, .int v199_7), (6, .int v199_6), (5, .int (-1)), (4, .int r_7), (2, .long r_6), (1, .int r_5), (0, .ref a0_)] → W p l e ({ frames := 3, cells := 0, slots := 0, locals := 72 } : Room) s m [.ref a0_].toArray below meth c H locs 0 0 Q (F0 m 199 ls []) := by
              intro n199
              induction n199 with
              | zero =>
                intro v199_7 v199_6 w199_8_6_q0_ bv199_7 bv199_6 bw199_8_6_q0_ hm199 f H locs ls g  hl
                exact absurd hm199 (by have h9_v199_7 := bv199_7; unfold bd at h9_v199_7; have h9_v199_6 := bv199_6; unfold bd at h9_v199_6; have h9_w199_8_6_q0_ := bw199_8_6_q0_; unfold bd at h9_w199_8_6_q0_; omega)
              | succ n199 ih199 =>
                intro v199_7 v199_6 w199_8_6_q0_ bv199_7 bv199_6 bw199_8_6_q0_ hm199 f H locs ls g  hl
                refine lv_iload hx hb dX2_readMemberHead_199 (lv_at hl 0 rfl) ?_
                refine lv_iconst (v := 3) hx hb dX2_readMemberHead_201 (by decide) ?_
                refine lv_icmp_gt (tgt := 251) hx hb dX2_readMemberHead_202 (by decide) (fun c_359 => ?_) (fun c_359 => ?_)
                · have fc_359 := lt_f c_359
                  have b_360 : bd 4 4 v199_7 := ltR fc_359 kb_3 bv199_7 (by decide)
                  refine lv_aload_n hx hb dX2_readMemberHead_251 rfl (lv_at hl 6 rfl) ?_
                  refine g_getk (C := RX2) (T := TX2) (N := 16) hx hb hts (mc_ inX2) hown hK g rfl 0 (by decide) rfl (hts _ (List.mem_cons_of_mem _ t_416)) (fun _ h9 => h9) 7 rfl dX2_readMemberHead_252 ?_
                  refine g_calli (va_runV (As := []) (rest := []) ⟨hx, hb, hml, hown, hts⟩ (r_X8_place l dC dI L kd tys f H.size g.2.2.2.1 q0_ mq0_ kq0_) (cwV 0 hts (gV_ t_1110 t_1111 t_1112 t_184 t_1113) rfl rfl rfl (by decide +kernel) ⟨(Nat.le_of_ble_eq_true rfl), (Nat.le_of_ble_eq_true rfl)⟩) (pre3V g hK mq0_ kq0_ (by decide) (q := (RX8, TX8, 10)) rfl) rfl rfl hl.1 rfl (lv_room (Nat.le_of_ble_eq_true rfl)) dX2_readMemberHead_255 ⟨(Nat.le_of_ble_eq_true rfl), (Nat.le_of_ble_eq_true rfl)⟩) g hK (by decide) (by decide) (fx' := [(8, 6, q0_, .int w199_8_6_q0_), (8, 8, q0_, .int y0_), (2, 6, a0_, .int 0), (9, 8, q3_, .int x_328), (2, 5, a0_, .ref a_330), (7, 3, q2_, .int x_331), (6, 12, a_330, .int x_333), (2, 0, a0_, .ref q0_), (2, 1, a0_, .ref q1_), (2, 3, a0_, .ref q2_), (2, 4, a0_, .ref q3_), (5, 1, q1_, .ref q5_)]) rfl (fun r_361 fr_361 H locs hp hMr_361 g => ?_)
                  refine lv_istore (lv' := [(7, .int r_361), (6, .int v199_6), (5, .int (-1)), (4, .int r_7), (2, .long r_6), (1, .int r_5), (0, .ref a0_)]) hx hb dX2_readMemberHead_258 hl (by decide) rfl (fun ls hl => ?_)
                  refine lv_aload_n hx hb dX2_readMemberHead_260 rfl (lv_at hl 6 rfl) ?_
                  refine g_getk (C := RX2) (T := TX2) (N := 16) hx hb hts (mc_ inX2) hown hK g rfl 0 (by decide) rfl (hts _ (List.mem_cons_of_mem _ t_416)) (fun _ h9 => h9) 7 rfl dX2_readMemberHead_261 ?_
                  refine lv_bipush (v := 41) hx hb dX2_readMemberHead_264 (by decide) ?_
                  refine g_callv (va_runV (As := [.int 41]) (rest := []) ⟨hx, hb, hml, hown, hts⟩ (r_X8_take l dC dI L kd tys fr_361 H.size g.2.2.2.1 q0_ mq0_ kq0_ 41 y0_ by0_ (g.fcts [1] rfl)) (cwV 1 hts (gV_ t_1098 t_1099 t_1100 t_184 t_1101) rfl rfl rfl (by decide +kernel) ⟨(Nat.le_of_ble_eq_true rfl), (Nat.le_of_ble_eq_true rfl)⟩) (pre3V g hK mq0_ kq0_ (by decide) (q := (RX8, TX8, 10)) rfl) rfl rfl hl.1 rfl (lv_room (Nat.le_of_ble_eq_true rfl)) dX2_readMemberHead_266 ⟨(Nat.le_of_ble_eq_true rfl), (Nat.le_of_ble_eq_true rfl)⟩) g hK (by decide) (by decide) (fx' := [(2, 6, a0_, .int 0), (9, 8, q3_, .int x_328), (2, 5, a0_, .ref a_330), (7, 3, q2_, .int x_331), (6, 12, a_330, .int x_333), (2, 0, a0_, .ref q0_), (2, 1, a0_, .ref q1_), (2, 3, a0_, .ref q2_), (2, 4, a0_, .ref q3_), (5, 1, q1_, .ref q5_)]) rfl (fun fr_362 H locs hp hMr_362 g => ?_)
                  rcases hp with ⟨x_363, h_364, hF_365⟩ | ⟨x_366, h_367, hF_368⟩
                  · have g := g.more hF_365
                    refine lv_iload hx hb dX2_readMemberHead_269 (lv_at hl 2 rfl) ?_
                    refine lv_iconst (v := (-1)) hx hb dX2_readMemberHead_271 (by decide) ?_
                    refine lv_icmp_eq (tgt := 308) hx hb dX2_readMemberHead_272 (by decide) (fun c_ => ?_) (fun c_ => absurd (by decide) c_)
                    subst hQ
                    exact W.vret hx hb hr (fun t ht hW => ⟨⟨_, rfl, Or.inl ⟨x_363, h_364, x_328, h_329, a_330, ⟨ma_330, ka_330⟩, x_331, h_332, x_333, h_334, (g.fcts [0, 1, 2, 3, 4, 5, 6] rfl)⟩, q3_of g hK ht hW⟩, g.2.2.1.F ht⟩) g.2.2.1.2.2 dX2_readMemberHead_308
                  · have g := g.more hF_368
                    refine lv_iload hx hb dX2_readMemberHead_269 (lv_at hl 2 rfl) ?_
                    refine lv_iconst (v := (-1)) hx hb dX2_readMemberHead_271 (by decide) ?_
                    refine lv_icmp_eq (tgt := 308) hx hb dX2_readMemberHead_272 (by decide) (fun c_ => ?_) (fun c_ => absurd (by decide) c_)
                    have kb_1201 : bd 1201 1201 (1201 : Int32) := ⟨by decide, by decide⟩
                    subst hQ
                    exact W.vret hx hb hr (fun t ht hW => ⟨⟨_, rfl, Or.inr (⟨1201, kb_1201, x_366, h_367, a_330, ⟨ma_330, ka_330⟩, (g.fcts [0, 1, 4] rfl)⟩), q3_of g hK ht hW⟩, g.2.2.1.F ht⟩) g.2.2.1.2.2 dX2_readMemberHead_308
                · have fc_359 := nlt_f c_359
                  have b_369 : bd 0 3 v199_7 := leL fc_359 bv199_7 kb_3 (by decide)
                  refine lv_iload hx hb dX2_readMemberHead_205 (lv_at hl 1 rfl) ?_
                  have kb_0 : bd 0 0 (0 : Int32) := ⟨by decide, by decide⟩
                  refine lv_if_eq (tgt := 251) hx hb dX2_readMemberHead_207 (by decide) (fun c_370 => ?_) (fun c_370 => ?_)
                  · have fc_370 := eq_f c_370
                    have b_371 : bd 0 0 v199_6 := eqX fc_370 bv199_6 kb_0 (by decide)
                    refine lv_aload_n hx hb dX2_readMemberHead_251 rfl (lv_at hl 6 rfl) ?_
                    refine g_getk (C := RX2) (T := TX2) (N := 16) hx hb hts (mc_ inX2) hown hK g rfl 0 (by decide) rfl (hts _ (List.mem_cons_of_mem _ t_416)) (fun _ h9 => h9) 7 rfl dX2_readMemberHead_252 ?_
                    refine g_calli (va_runV (As := []) (rest := []) ⟨hx, hb, hml, hown, hts⟩ (r_X8_place l dC dI L kd tys f H.size g.2.2.2.1 q0_ mq0_ kq0_) (cwV 0 hts (gV_ t_1110 t_1111 t_1112 t_184 t_1113) rfl rfl rfl (by decide +kernel) ⟨(Nat.le_of_ble_eq_true rfl), (Nat.le_of_ble_eq_true rfl)⟩) (pre3V g hK mq0_ kq0_ (by decide) (q := (RX8, TX8, 10)) rfl) rfl rfl hl.1 rfl (lv_room (Nat.le_of_ble_eq_true rfl)) dX2_readMemberHead_255 ⟨(Nat.le_of_ble_eq_true rfl), (Nat.le_of_ble_eq_true rfl)⟩) g hK (by decide) (by decide) (fx' := [(8, 6, q0_, .int w199_8_6_q0_), (8, 8, q0_, .int y0_), (2, 6, a0_, .int 0), (9, 8, q3_, .int x_328), (2, 5, a0_, .ref a_330), (7, 3, q2_, .int x_331), (6, 12, a_330, .int x_333), (2, 0, a0_, .ref q0_), (2, 1, a0_, .ref q1_), (2, 3, a0_, .ref q2_), (2, 4, a0_, .ref q3_), (5, 1, q1_, .ref q5_)]) rfl (fun r_372 fr_372 H locs hp hMr_372 g => ?_)
                    refine lv_istore (lv' := [(7, .int r_372), (6, .int v199_6), (5, .int (-1)), (4, .int r_7), (2, .long r_6), (1, .int r_5), (0, .ref a0_)]) hx hb dX2_readMemberHead_258 hl (by decide) rfl (fun ls hl => ?_)
                    refine lv_aload_n hx hb dX2_readMemberHead_260 rfl (lv_at hl 6 rfl) ?_
                    refine g_getk (C := RX2) (T := TX2) (N := 16) hx hb hts (mc_ inX2) hown hK g rfl 0 (by decide) rfl (hts _ (List.mem_cons_of_mem _ t_416)) (fun _ h9 => h9) 7 rfl dX2_readMemberHead_261 ?_
                    refine lv_bipush (v := 41) hx hb dX2_readMemberHead_264 (by decide) ?_
                    refine g_callv (va_runV (As := [.int 41]) (rest := []) ⟨hx, hb, hml, hown, hts⟩ (r_X8_take l dC dI L kd tys fr_372 H.size g.2.2.2.1 q0_ mq0_ kq0_ 41 y0_ by0_ (g.fcts [1] rfl)) (cwV 1 hts (gV_ t_1098 t_1099 t_1100 t_184 t_1101) rfl rfl rfl (by decide +kernel) ⟨(Nat.le_of_ble_eq_true rfl), (Nat.le_of_ble_eq_true rfl)⟩) (pre3V g hK mq0_ kq0_ (by decide) (q := (RX8, TX8, 10)) rfl) rfl rfl hl.1 rfl (lv_room (Nat.le_of_ble_eq_true rfl)) dX2_readMemberHead_266 ⟨(Nat.le_of_ble_eq_true rfl), (Nat.le_of_ble_eq_true rfl)⟩) g hK (by decide) (by decide) (fx' := [(2, 6, a0_, .int 0), (9, 8, q3_, .int x_328), (2, 5, a0_, .ref a_330), (7, 3, q2_, .int x_331), (6, 12, a_330, .int x_333), (2, 0, a0_, .ref q0_), (2, 1, a0_, .ref q1_), (2, 3, a0_, .ref q2_), (2, 4, a0_, .ref q3_), (5, 1, q1_, .ref q5_)]) rfl (fun fr_373 H locs hp hMr_373 g => ?_)
                    rcases hp with ⟨x_374, h_375, hF_376⟩ | ⟨x_377, h_378, hF_379⟩
                    · have g := g.more hF_376
                      refine lv_iload hx hb dX2_readMemberHead_269 (lv_at hl 2 rfl) ?_
                      refine lv_iconst (v := (-1)) hx hb dX2_readMemberHead_271 (by decide) ?_
                      refine lv_icmp_eq (tgt := 308) hx hb dX2_readMemberHead_272 (by decide) (fun c_ => ?_) (fun c_ => absurd (by decide) c_)
                      subst hQ
                      exact W.vret hx hb hr (fun t ht hW => ⟨⟨_, rfl, Or.inl ⟨x_374, h_375, x_328, h_329, a_330, ⟨ma_330, ka_330⟩, x_331, h_332, x_333, h_334, (g.fcts [0, 1, 2, 3, 4, 5, 6] rfl)⟩, q3_of g hK ht hW⟩, g.2.2.1.F ht⟩) g.2.2.1.2.2 dX2_readMemberHead_308
                    · have g := g.more hF_379
                      refine lv_iload hx hb dX2_readMemberHead_269 (lv_at hl 2 rfl) ?_
                      refine lv_iconst (v := (-1)) hx hb dX2_readMemberHead_271 (by decide) ?_
                      refine lv_icmp_eq (tgt := 308) hx hb dX2_readMemberHead_272 (by decide) (fun c_ => ?_) (fun c_ => absurd (by decide) c_)
                      have kb_1201 : bd 1201 1201 (1201 : Int32) := ⟨by decide, by decide⟩
                      subst hQ
                      exact W.vret hx hb hr (fun t ht hW => ⟨⟨_, rfl, Or.inr (⟨1201, kb_1201, x_377, h_378, a_330, ⟨ma_330, ka_330⟩, (g.fcts [0, 1, 4] rfl)⟩), q3_of g hK ht hW⟩, g.2.2.1.F ht⟩) g.2.2.1.2.2 dX2_readMemberHead_308
                  · have fc_370 := neq_f c_370
                    have b_380 : bd 1 1 v199_6 := neX fc_370 bv199_6 kb_0 (by decide)
                    refine lv_aload_n hx hb dX2_readMemberHead_210 rfl (lv_at hl 6 rfl) ?_
                    refine g_callv (va_runV (As := []) (rest := []) ⟨hx, hb, hml, hown, hts⟩ (r_X2_readParam l dC dI L kd tys f H.size g.2.2.2.1 a0_ ma0_ ka0_ q0_ mq0_ kq0_ q1_ mq1_ kq1_ a_330 ma_330 ka_330 q5_ mq5_ kq5_ y0_ by0_ (g.fcts [7, 8, 4, 11, 1] rfl)) (cwV 0 hts (gV_ t_1313 t_1315 t_34 t_183 t_1316) rfl rfl rfl (by decide +kernel) ⟨(Nat.le_of_ble_eq_true rfl), (Nat.le_of_ble_eq_true rfl)⟩) (pre3V g hK ma0_ ka0_ (by decide) (q := (RX2, TX2, 16)) rfl) rfl rfl hl.1 rfl (lv_room (Nat.le_of_ble_eq_true rfl)) dX2_readMemberHead_211 ⟨(Nat.le_of_ble_eq_true rfl), (Nat.le_of_ble_eq_true rfl)⟩) g hK (by decide) (by decide) (fx' := [(2, 6, a0_, .int 0), (9, 8, q3_, .int x_328), (2, 5, a0_, .ref a_330), (7, 3, q2_, .int x_331), (6, 12, a_330, .int x_333), (2, 0, a0_, .ref q0_), (2, 1, a0_, .ref q1_), (2, 3, a0_, .ref q2_), (2, 4, a0_, .ref q3_), (5, 1, q1_, .ref q5_)]) rfl (fun fr_381 H locs hp hMr_381 g => ?_)
                    rcases hp with ⟨x_382, h_383, x_384, h_385, x_386, h_387, hF_388⟩ | ⟨x_389, h_390, hF_391⟩
                    · have g := g.more hF_388
                      refine lv_aload_n hx hb dX2_readMemberHead_214 rfl (lv_at hl 6 rfl) ?_
                      refine g_getk (C := RX2) (T := TX2) (N := 16) hx hb hts (mc_ inX2) hown hK g rfl 0 (by decide) rfl (hts _ (List.mem_cons_of_mem _ t_416)) (fun _ h9 => h9) 9 rfl dX2_readMemberHead_215 ?_
                      refine g_calli (va_runV (As := []) (rest := []) ⟨hx, hb, hml, hown, hts⟩ (r_X8_kind l dC dI L kd tys fr_381 H.size g.2.2.2.1 q0_ mq0_ kq0_) (cwV 0 hts (gV_ t_1118 t_1119 t_1120 t_184 t_1121) rfl rfl rfl (by decide +kernel) ⟨(Nat.le_of_ble_eq_true rfl), (Nat.le_of_ble_eq_true rfl)⟩) (pre3V g hK mq0_ kq0_ (by decide) (q := (RX8, TX8, 10)) rfl) rfl rfl hl.1 rfl (lv_room (Nat.le_of_ble_eq_true rfl)) dX2_readMemberHead_218 ⟨(Nat.le_of_ble_eq_true rfl), (Nat.le_of_ble_eq_true rfl)⟩) g hK (by decide) (by decide) (fx' := [(6, 3, a_330, .int x_382), (5, 4, q1_, .int x_384), (8, 6, q0_, .int x_386), (8, 8, q0_, .int y0_), (2, 6, a0_, .int 0), (9, 8, q3_, .int x_328), (2, 5, a0_, .ref a_330), (7, 3, q2_, .int x_331), (6, 12, a_330, .int x_333), (2, 0, a0_, .ref q0_), (2, 1, a0_, .ref q1_), (2, 3, a0_, .ref q2_), (2, 4, a0_, .ref q3_), (5, 1, q1_, .ref q5_)]) rfl (fun r_392 fr_392 H locs hp hMr_392 g => ?_)
                      refine lv_bipush (v := 44) hx hb dX2_readMemberHead_221 (by decide) ?_
                      have kb_44 : bd 44 44 (44 : Int32) := ⟨by decide, by decide⟩
                      refine lv_icmp_ne (tgt := 230) hx hb dX2_readMemberHead_223 (by decide) (fun c_393 => ?_) (fun c_393 => ?_)
                      · have fc_393 := neq_f c_393
                        refine lv_iconst (v := 0) hx hb dX2_readMemberHead_230 (by decide) ?_
                        refine lv_istore (lv' := [(6, .int 0), (7, .int v199_7), (5, .int (-1)), (4, .int r_7), (2, .long r_6), (1, .int r_5), (0, .ref a0_)]) hx hb dX2_readMemberHead_231 hl (by decide) rfl (fun ls hl => ?_)
                        refine lv_iload hx hb dX2_readMemberHead_233 (lv_at hl 0 rfl) ?_
                        refine lv_if_eq (tgt := 245) hx hb dX2_readMemberHead_235 (by decide) (fun c_ => ?_) (fun c_ => absurd (by decide) c_)
                        have kb_1 : bd 1 1 (1 : Int32) := ⟨by decide, by decide⟩
                        obtain ⟨y_394, ey_394⟩ : ∃ z : Int32, z = v199_7 + 1 := ⟨_, rfl⟩
                        refine lv_iinc (v := y_394) (lv' := [(7, .int y_394), (6, .int 0), (5, .int (-1)), (4, .int r_7), (2, .long r_6), (1, .int r_5), (0, .ref a0_)]) hx hb dX2_readMemberHead_245 hl (k := 1) rfl (by rw [ey_394]; rfl) (by decide) rfl (fun ls hl => ?_)
                        have ty_394 := add_bd ey_394 b_369 kb_1 (by decide)
                        have b_395 : bd 1 4 y_394 := add_rg ty_394 b_369 kb_1 (by decide)
                        refine lv_goto (tgt := 199) hx hb dX2_readMemberHead_248 (by decide) ?_
                        have hl9 := lv_sub hl [0, 1, 2, 3, 4, 5, 6] (by rfl : lv_pick [(7, .int y_394), (6, .int 0), (5, .int (-1)), (4, .int r_7), (2, .long r_6), (1, .int r_5), (0, .ref a0_)] [0, 1, 2, 3, 4, 5, 6] = [(7, .int y_394), (6, .int 0), (5, .int (-1)), (4, .int r_7), (2, .long r_6), (1, .int r_5), (0, .ref a0_)])
                        have g9 := g.sub (fx' := [(8, 6, q0_, .int x_386), (8, 8, q0_, .int y0_), (2, 6, a0_, .int 0), (9, 8, q3_, .int x_328), (2, 5, a0_, .ref a_330), (7, 3, q2_, .int x_331), (6, 12, a_330, .int x_333), (2, 0, a0_, .ref q0_), (2, 1, a0_, .ref q1_), (2, 3, a0_, .ref q2_), (2, 4, a0_, .ref q3_), (5, 1, q1_, .ref q5_)]) [2, 3, 4, 5, 6, 7, 8, 9, 10, 11, 12, 13] rfl
                        exact ih199  y_394 0 x_386 (bd_sub b_395 (by decide)) (bd_sub kb_0 (by decide)) h_387 (by have h9_0 := b_395; unfold bd at h9_0; have h9_1 := bv199_6; unfold bd at h9_1; have h9_2 := bv199_7; unfold bd at h9_2; have h9_3 := bw199_8_6_q0_; unfold bd at h9_3; have h9_4 := h_387; unfold bd at h9_4; have h9_5 := kb_0; unfold bd at h9_5; have h9_6 := kb_1; unfold bd at h9_6; have h9_7 := kb_12; unfold bd at h9_7; have h9_8 := kb_3; unfold bd at h9_8; have h9_9 := kb_41; unfold bd at h9_9; have h9_10 := kb_44; unfold bd at h9_10; have h9_11 := kb_m1; unfold bd at h9_11; omega) _ _ _ _ g9  hl9
                      · have fc_393 := eq_f c_393
                        have b_396 : bd 44 44 r_392 := eqX fc_393 (bdT r_392) kb_44 (by decide)
                        refine lv_iconst (v := 1) hx hb dX2_readMemberHead_226 (by decide) ?_
                        refine lv_goto (tgt := 231) hx hb dX2_readMemberHead_227 (by decide) ?_
                        refine lv_istore (lv' := [(6, .int 1), (7, .int v199_7), (5, .int (-1)), (4, .int r_7), (2, .long r_6), (1, .int r_5), (0, .ref a0_)]) hx hb dX2_readMemberHead_231 hl (by decide) rfl (fun ls hl => ?_)
                        refine lv_iload hx hb dX2_readMemberHead_233 (lv_at hl 0 rfl) ?_
                        refine lv_if_eq (tgt := 245) hx hb dX2_readMemberHead_235 (by decide) (fun c_ => absurd c_ (by decide)) (fun c_ => ?_)
                        refine lv_aload_n hx hb dX2_readMemberHead_238 rfl (lv_at hl 6 rfl) ?_
                        refine g_getk (C := RX2) (T := TX2) (N := 16) hx hb hts (mc_ inX2) hown hK g rfl 0 (by decide) rfl (hts _ (List.mem_cons_of_mem _ t_416)) (fun _ h9 => h9) 9 rfl dX2_readMemberHead_239 ?_
                        refine g_callv (va_runV (As := []) (rest := []) ⟨hx, hb, hml, hown, hts⟩ (r_X8_next l dC dI L kd tys fr_392 H.size g.2.2.2.1 q0_ mq0_ kq0_) (cwV 0 hts (gV_ t_1131 t_1103 t_1104 t_184 t_1105) rfl rfl rfl (by decide +kernel) ⟨(Nat.le_of_ble_eq_true rfl), (Nat.le_of_ble_eq_true rfl)⟩) (pre3V g hK mq0_ kq0_ (by decide) (q := (RX8, TX8, 10)) rfl) rfl rfl hl.1 rfl (lv_room (Nat.le_of_ble_eq_true rfl)) dX2_readMemberHead_242 ⟨(Nat.le_of_ble_eq_true rfl), (Nat.le_of_ble_eq_true rfl)⟩) g hK (by decide) (by decide) (fx' := [(6, 3, a_330, .int x_382), (5, 4, q1_, .int x_384), (8, 8, q0_, .int y0_), (2, 6, a0_, .int 0), (9, 8, q3_, .int x_328), (2, 5, a0_, .ref a_330), (7, 3, q2_, .int x_331), (6, 12, a_330, .int x_333), (2, 0, a0_, .ref q0_), (2, 1, a0_, .ref q1_), (2, 3, a0_, .ref q2_), (2, 4, a0_, .ref q3_), (5, 1, q1_, .ref q5_)]) rfl (fun fr_397 H locs hp hMr_397 g => ?_)
                        obtain ⟨x_398, h_399, hF_400⟩ := hp
                        have g := g.more hF_400
                        have kb_1 : bd 1 1 (1 : Int32) := ⟨by decide, by decide⟩
                        obtain ⟨y_401, ey_401⟩ : ∃ z : Int32, z = v199_7 + 1 := ⟨_, rfl⟩
                        refine lv_iinc (v := y_401) (lv' := [(7, .int y_401), (6, .int 1), (5, .int (-1)), (4, .int r_7), (2, .long r_6), (1, .int r_5), (0, .ref a0_)]) hx hb dX2_readMemberHead_245 hl (k := 1) rfl (by rw [ey_401]; rfl) (by decide) rfl (fun ls hl => ?_)
                        have ty_401 := add_bd ey_401 b_369 kb_1 (by decide)
                        have b_402 : bd 1 4 y_401 := add_rg ty_401 b_369 kb_1 (by decide)
                        refine lv_goto (tgt := 199) hx hb dX2_readMemberHead_248 (by decide) ?_
                        have hl9 := lv_sub hl [0, 1, 2, 3, 4, 5, 6] (by rfl : lv_pick [(7, .int y_401), (6, .int 1), (5, .int (-1)), (4, .int r_7), (2, .long r_6), (1, .int r_5), (0, .ref a0_)] [0, 1, 2, 3, 4, 5, 6] = [(7, .int y_401), (6, .int 1), (5, .int (-1)), (4, .int r_7), (2, .long r_6), (1, .int r_5), (0, .ref a0_)])
                        have g9 := g.sub (fx' := [(8, 6, q0_, .int x_398), (8, 8, q0_, .int y0_), (2, 6, a0_, .int 0), (9, 8, q3_, .int x_328), (2, 5, a0_, .ref a_330), (7, 3, q2_, .int x_331), (6, 12, a_330, .int x_333), (2, 0, a0_, .ref q0_), (2, 1, a0_, .ref q1_), (2, 3, a0_, .ref q2_), (2, 4, a0_, .ref q3_), (5, 1, q1_, .ref q5_)]) [0, 3, 4, 5, 6, 7, 8, 9, 10, 11, 12, 13] rfl
                        exact ih199  y_401 1 x_398 (bd_sub b_402 (by decide)) (bd_sub kb_1 (by decide)) h_399 (by have h9_0 := b_402; unfold bd at h9_0; have h9_1 := bv199_6; unfold bd at h9_1; have h9_2 := bv199_7; unfold bd at h9_2; have h9_3 := bw199_8_6_q0_; unfold bd at h9_3; have h9_4 := h_399; unfold bd at h9_4; have h9_5 := kb_0; unfold bd at h9_5; have h9_6 := kb_1; unfold bd at h9_6; have h9_7 := kb_12; unfold bd at h9_7; have h9_8 := kb_3; unfold bd at h9_8; have h9_9 := kb_41; unfold bd at h9_9; have h9_10 := kb_44; unfold bd at h9_10; have h9_11 := kb_m1; unfold bd at h9_11; omega) _ _ _ _ g9  hl9
                    · have g := g.more hF_391
                      refine lv_aload_n hx hb dX2_readMemberHead_214 rfl (lv_at hl 6 rfl) ?_
                      refine g_getk (C := RX2) (T := TX2) (N := 16) hx hb hts (mc_ inX2) hown hK g rfl 0 (by decide) rfl (hts _ (List.mem_cons_of_mem _ t_416)) (fun _ h9 => h9) 7 rfl dX2_readMemberHead_215 ?_
                      have kb_1201 : bd 1201 1201 (1201 : Int32) := ⟨by decide, by decide⟩
                      refine g_calli (va_runV (As := []) (rest := []) ⟨hx, hb, hml, hown, hts⟩ (r_X8_kind_2 l dC dI L kd tys fr_381 H.size g.2.2.2.1 q0_ mq0_ kq0_ 1201 kb_1201 (g.fcts [0] rfl)) (cwV 0 hts (gV_ t_1118 t_1119 t_1120 t_184 t_1121) rfl rfl rfl (by decide +kernel) ⟨(Nat.le_of_ble_eq_true rfl), (Nat.le_of_ble_eq_true rfl)⟩) (pre3V g hK mq0_ kq0_ (by decide) (q := (RX8, TX8, 10)) rfl) rfl rfl hl.1 rfl (lv_room (Nat.le_of_ble_eq_true rfl)) dX2_readMemberHead_218 ⟨(Nat.le_of_ble_eq_true rfl), (Nat.le_of_ble_eq_true rfl)⟩) g hK (by decide) (by decide) (fx' := [(8, 6, q0_, .int 1201), (8, 8, q0_, .int x_389), (2, 6, a0_, .int 0), (9, 8, q3_, .int x_328), (2, 5, a0_, .ref a_330), (7, 3, q2_, .int x_331), (6, 12, a_330, .int x_333), (2, 0, a0_, .ref q0_), (2, 1, a0_, .ref q1_), (2, 3, a0_, .ref q2_), (2, 4, a0_, .ref q3_), (5, 1, q1_, .ref q5_)]) rfl (fun r_403 fr_403 H locs hp hMr_403 g => ?_)
                      obtain ⟨h_404, -⟩ := hp
                      obtain rfl : r_403 = 0 := h_404
                      refine lv_bipush (v := 44) hx hb dX2_readMemberHead_221 (by decide) ?_
                      refine lv_icmp_ne (tgt := 230) hx hb dX2_readMemberHead_223 (by decide) (fun c_ => ?_) (fun c_ => absurd c_ (by decide))
                      refine lv_iconst (v := 0) hx hb dX2_readMemberHead_230 (by decide) ?_
                      refine lv_istore (lv' := [(6, .int 0), (7, .int v199_7), (5, .int (-1)), (4, .int r_7), (2, .long r_6), (1, .int r_5), (0, .ref a0_)]) hx hb dX2_readMemberHead_231 hl (by decide) rfl (fun ls hl => ?_)
                      refine lv_iload hx hb dX2_readMemberHead_233 (lv_at hl 0 rfl) ?_
                      refine lv_if_eq (tgt := 245) hx hb dX2_readMemberHead_235 (by decide) (fun c_ => ?_) (fun c_ => absurd (by decide) c_)
                      have kb_1 : bd 1 1 (1 : Int32) := ⟨by decide, by decide⟩
                      obtain ⟨y_405, ey_405⟩ : ∃ z : Int32, z = v199_7 + 1 := ⟨_, rfl⟩
                      refine lv_iinc (v := y_405) (lv' := [(7, .int y_405), (6, .int 0), (5, .int (-1)), (4, .int r_7), (2, .long r_6), (1, .int r_5), (0, .ref a0_)]) hx hb dX2_readMemberHead_245 hl (k := 1) rfl (by rw [ey_405]; rfl) (by decide) rfl (fun ls hl => ?_)
                      have ty_405 := add_bd ey_405 b_369 kb_1 (by decide)
                      have b_406 : bd 1 4 y_405 := add_rg ty_405 b_369 kb_1 (by decide)
                      refine lv_goto (tgt := 199) hx hb dX2_readMemberHead_248 (by decide) ?_
                      refine lv_iload hx hb dX2_readMemberHead_199 (lv_at hl 0 rfl) ?_
                      refine lv_iconst (v := 3) hx hb dX2_readMemberHead_201 (by decide) ?_
                      refine lv_icmp_gt (tgt := 251) hx hb dX2_readMemberHead_202 (by decide) (fun c_407 => ?_) (fun c_407 => ?_)
                      · have fc_407 := lt_f c_407
                        have b_408 : bd 4 4 y_405 := ltR fc_407 kb_3 b_406 (by decide)
                        have b_409 : bd 3 3 v199_7 := add_inv ty_405 b_408 b_369 kb_1 (by decide)
                        refine lv_aload_n hx hb dX2_readMemberHead_251 rfl (lv_at hl 6 rfl) ?_
                        refine g_getk (C := RX2) (T := TX2) (N := 16) hx hb hts (mc_ inX2) hown hK g rfl 0 (by decide) rfl (hts _ (List.mem_cons_of_mem _ t_416)) (fun _ h9 => h9) 7 rfl dX2_readMemberHead_252 ?_
                        refine g_calli (va_runV (As := []) (rest := []) ⟨hx, hb, hml, hown, hts⟩ (r_X8_place l dC dI L kd tys fr_403 H.size g.2.2.2.1 q0_ mq0_ kq0_) (cwV 0 hts (gV_ t_1110 t_1111 t_1112 t_184 t_1113) rfl rfl rfl (by decide +kernel) ⟨(Nat.le_of_ble_eq_true rfl), (Nat.le_of_ble_eq_true rfl)⟩) (pre3V g hK mq0_ kq0_ (by decide) (q := (RX8, TX8, 10)) rfl) rfl rfl hl.1 rfl (lv_room (Nat.le_of_ble_eq_true rfl)) dX2_readMemberHead_255 ⟨(Nat.le_of_ble_eq_true rfl), (Nat.le_of_ble_eq_true rfl)⟩) g hK (by decide) (by decide) (fx' := [(8, 6, q0_, .int 1201), (8, 8, q0_, .int x_389), (2, 6, a0_, .int 0), (9, 8, q3_, .int x_328), (2, 5, a0_, .ref a_330), (7, 3, q2_, .int x_331), (6, 12, a_330, .int x_333), (2, 0, a0_, .ref q0_), (2, 1, a0_, .ref q1_), (2, 3, a0_, .ref q2_), (2, 4, a0_, .ref q3_), (5, 1, q1_, .ref q5_)]) rfl (fun r_410 fr_410 H locs hp hMr_410 g => ?_)
                        refine lv_istore (lv' := [(7, .int r_410), (6, .int 0), (5, .int (-1)), (4, .int r_7), (2, .long r_6), (1, .int r_5), (0, .ref a0_)]) hx hb dX2_readMemberHead_258 hl (by decide) rfl (fun ls hl => ?_)
                        refine lv_aload_n hx hb dX2_readMemberHead_260 rfl (lv_at hl 6 rfl) ?_
                        refine g_getk (C := RX2) (T := TX2) (N := 16) hx hb hts (mc_ inX2) hown hK g rfl 0 (by decide) rfl (hts _ (List.mem_cons_of_mem _ t_416)) (fun _ h9 => h9) 7 rfl dX2_readMemberHead_261 ?_
                        refine lv_bipush (v := 41) hx hb dX2_readMemberHead_264 (by decide) ?_
                        refine g_callv (va_runV (As := [.int 41]) (rest := []) ⟨hx, hb, hml, hown, hts⟩ (r_X8_take_2 l dC dI L kd tys fr_410 H.size g.2.2.2.1 q0_ mq0_ kq0_ 41 1201 kb_1201 x_389 h_390 (g.fcts [0, 1] rfl)) (cwV 1 hts (gV_ t_1098 t_1099 t_1100 t_184 t_1101) rfl rfl rfl (by decide +kernel) ⟨(Nat.le_of_ble_eq_true rfl), (Nat.le_of_ble_eq_true rfl)⟩) (pre3V g hK mq0_ kq0_ (by decide) (q := (RX8, TX8, 10)) rfl) rfl rfl hl.1 rfl (lv_room (Nat.le_of_ble_eq_true rfl)) dX2_readMemberHead_266 ⟨(Nat.le_of_ble_eq_true rfl), (Nat.le_of_ble_eq_true rfl)⟩) g hK (by decide) (by decide) (fx' := [(8, 8, q0_, .int x_389), (2, 6, a0_, .int 0), (9, 8, q3_, .int x_328), (2, 5, a0_, .ref a_330), (7, 3, q2_, .int x_331), (6, 12, a_330, .int x_333), (2, 0, a0_, .ref q0_), (2, 1, a0_, .ref q1_), (2, 3, a0_, .ref q2_), (2, 4, a0_, .ref q3_), (5, 1, q1_, .ref q5_)]) rfl (fun fr_411 H locs hp hMr_411 g => ?_)
                        obtain ⟨x_412, h_413, hF_414⟩ := hp
                        have g := g.more hF_414
                        refine lv_iload hx hb dX2_readMemberHead_269 (lv_at hl 2 rfl) ?_
                        refine lv_iconst (v := (-1)) hx hb dX2_readMemberHead_271 (by decide) ?_
                        refine lv_icmp_eq (tgt := 308) hx hb dX2_readMemberHead_272 (by decide) (fun c_ => ?_) (fun c_ => absurd (by decide) c_)
                        subst hQ
                        exact W.vret hx hb hr (fun t ht hW => ⟨⟨_, rfl, Or.inr (⟨x_412, h_413, x_389, h_390, a_330, ⟨ma_330, ka_330⟩, (g.fcts [0, 1, 4] rfl)⟩), q3_of g hK ht hW⟩, g.2.2.1.F ht⟩) g.2.2.1.2.2 dX2_readMemberHead_308
                      · have fc_407 := nlt_f c_407
                        have b_415 : bd 1 3 y_405 := leL fc_407 b_406 kb_3 (by decide)
                        have b_416 : bd 0 2 v199_7 := add_inv ty_405 b_415 b_369 kb_1 (by decide)
                        refine lv_iload hx hb dX2_readMemberHead_205 (lv_at hl 1 rfl) ?_
                        refine lv_if_eq (tgt := 251) hx hb dX2_readMemberHead_207 (by decide) (fun c_ => ?_) (fun c_ => absurd (by decide) c_)
                        refine lv_aload_n hx hb dX2_readMemberHead_251 rfl (lv_at hl 6 rfl) ?_
                        refine g_getk (C := RX2) (T := TX2) (N := 16) hx hb hts (mc_ inX2) hown hK g rfl 0 (by decide) rfl (hts _ (List.mem_cons_of_mem _ t_416)) (fun _ h9 => h9) 7 rfl dX2_readMemberHead_252 ?_
                        refine g_calli (va_runV (As := []) (rest := []) ⟨hx, hb, hml, hown, hts⟩ (r_X8_place l dC dI L kd tys fr_403 H.size g.2.2.2.1 q0_ mq0_ kq0_) (cwV 0 hts (gV_ t_1110 t_1111 t_1112 t_184 t_1113) rfl rfl rfl (by decide +kernel) ⟨(Nat.le_of_ble_eq_true rfl), (Nat.le_of_ble_eq_true rfl)⟩) (pre3V g hK mq0_ kq0_ (by decide) (q := (RX8, TX8, 10)) rfl) rfl rfl hl.1 rfl (lv_room (Nat.le_of_ble_eq_true rfl)) dX2_readMemberHead_255 ⟨(Nat.le_of_ble_eq_true rfl), (Nat.le_of_ble_eq_true rfl)⟩) g hK (by decide) (by decide) (fx' := [(8, 6, q0_, .int 1201), (8, 8, q0_, .int x_389), (2, 6, a0_, .int 0), (9, 8, q3_, .int x_328), (2, 5, a0_, .ref a_330), (7, 3, q2_, .int x_331), (6, 12, a_330, .int x_333), (2, 0, a0_, .ref q0_), (2, 1, a0_, .ref q1_), (2, 3, a0_, .ref q2_), (2, 4, a0_, .ref q3_), (5, 1, q1_, .ref q5_)]) rfl (fun r_417 fr_417 H locs hp hMr_417 g => ?_)
                        refine lv_istore (lv' := [(7, .int r_417), (6, .int 0), (5, .int (-1)), (4, .int r_7), (2, .long r_6), (1, .int r_5), (0, .ref a0_)]) hx hb dX2_readMemberHead_258 hl (by decide) rfl (fun ls hl => ?_)
                        refine lv_aload_n hx hb dX2_readMemberHead_260 rfl (lv_at hl 6 rfl) ?_
                        refine g_getk (C := RX2) (T := TX2) (N := 16) hx hb hts (mc_ inX2) hown hK g rfl 0 (by decide) rfl (hts _ (List.mem_cons_of_mem _ t_416)) (fun _ h9 => h9) 7 rfl dX2_readMemberHead_261 ?_
                        refine lv_bipush (v := 41) hx hb dX2_readMemberHead_264 (by decide) ?_
                        refine g_callv (va_runV (As := [.int 41]) (rest := []) ⟨hx, hb, hml, hown, hts⟩ (r_X8_take_2 l dC dI L kd tys fr_417 H.size g.2.2.2.1 q0_ mq0_ kq0_ 41 1201 kb_1201 x_389 h_390 (g.fcts [0, 1] rfl)) (cwV 1 hts (gV_ t_1098 t_1099 t_1100 t_184 t_1101) rfl rfl rfl (by decide +kernel) ⟨(Nat.le_of_ble_eq_true rfl), (Nat.le_of_ble_eq_true rfl)⟩) (pre3V g hK mq0_ kq0_ (by decide) (q := (RX8, TX8, 10)) rfl) rfl rfl hl.1 rfl (lv_room (Nat.le_of_ble_eq_true rfl)) dX2_readMemberHead_266 ⟨(Nat.le_of_ble_eq_true rfl), (Nat.le_of_ble_eq_true rfl)⟩) g hK (by decide) (by decide) (fx' := [(8, 8, q0_, .int x_389), (2, 6, a0_, .int 0), (9, 8, q3_, .int x_328), (2, 5, a0_, .ref a_330), (7, 3, q2_, .int x_331), (6, 12, a_330, .int x_333), (2, 0, a0_, .ref q0_), (2, 1, a0_, .ref q1_), (2, 3, a0_, .ref q2_), (2, 4, a0_, .ref q3_), (5, 1, q1_, .ref q5_)]) rfl (fun fr_418 H locs hp hMr_418 g => ?_)
                        obtain ⟨x_419, h_420, hF_421⟩ := hp
                        have g := g.more hF_421
                        refine lv_iload hx hb dX2_readMemberHead_269 (lv_at hl 2 rfl) ?_
                        refine lv_iconst (v := (-1)) hx hb dX2_readMemberHead_271 (by decide) ?_
                        refine lv_icmp_eq (tgt := 308) hx hb dX2_readMemberHead_272 (by decide) (fun c_ => ?_) (fun c_ => absurd (by decide) c_)
                        subst hQ
                        exact W.vret hx hb hr (fun t ht hW => ⟨⟨_, rfl, Or.inr (⟨x_419, h_420, x_389, h_390, a_330, ⟨ma_330, ka_330⟩, (g.fcts [0, 1, 4] rfl)⟩), q3_of g hK ht hW⟩, g.2.2.1.F ht⟩) g.2.2.1.2.2 dX2_readMemberHead_308
            have kb_0 : bd 0 0 (0 : Int32) := ⟨by decide, by decide⟩
            have kb_1 : bd 1 1 (1 : Int32) := ⟨by decide, by decide⟩
            have hl9 := lv_sub hl [0, 1, 2, 3, 4, 5, 6] (by rfl : lv_pick [(7, .int 0), (6, .int 1), (5, .int (-1)), (4, .int r_7), (2, .long r_6), (1, .int r_5), (0, .ref a0_)] [0, 1, 2, 3, 4, 5, 6] = [(7, .int 0), (6, .int 1), (5, .int (-1)), (4, .int r_7), (2, .long r_6), (1, .int r_5), (0, .ref a0_)])
            have g9 := g.sub (fx' := [(8, 6, q0_, .int x_341), (8, 8, q0_, .int y0_), (2, 6, a0_, .int 0), (9, 8, q3_, .int x_328), (2, 5, a0_, .ref a_330), (7, 3, q2_, .int x_331), (6, 12, a_330, .int x_333), (2, 0, a0_, .ref q0_), (2, 1, a0_, .ref q1_), (2, 3, a0_, .ref q2_), (2, 4, a0_, .ref q3_), (5, 1, q1_, .ref q5_)]) [0, 1, 2, 3, 4, 5, 6, 7, 8, 9, 10, 11] rfl
            exact loop_358 (11) 0 1 x_341 (bd_sub kb_0 (by decide)) (bd_sub kb_1 (by decide)) h_342 (by have h9_0 := h_342; unfold bd at h9_0; have h9_1 := kb_0; unfold bd at h9_1; have h9_2 := kb_1; unfold bd at h9_2; have h9_3 := kb_12; unfold bd at h9_3; have h9_4 := kb_3; unfold bd at h9_4; have h9_5 := kb_41; unfold bd at h9_5; have h9_6 := kb_m1; unfold bd at h9_6; omega) _ _ _ _ g9  hl9
        · have g := g.more hF_346
          refine lv_aload_n hx hb dX2_readMemberHead_177 rfl (lv_at hl 4 rfl) ?_
          refine g_getk (C := RX2) (T := TX2) (N := 16) hx hb hts (mc_ inX2) hown hK g rfl 0 (by decide) rfl (hts _ (List.mem_cons_of_mem _ t_416)) (fun _ h9 => h9) 7 rfl dX2_readMemberHead_178 ?_
          have kb_1201 : bd 1201 1201 (1201 : Int32) := ⟨by decide, by decide⟩
          refine g_calli (va_runV (As := []) (rest := []) ⟨hx, hb, hml, hown, hts⟩ (r_X8_kind_2 l dC dI L kd tys fr_340 H.size g.2.2.2.1 q0_ mq0_ kq0_ 1201 kb_1201 (g.fcts [0] rfl)) (cwV 0 hts (gV_ t_1118 t_1119 t_1120 t_184 t_1121) rfl rfl rfl (by decide +kernel) ⟨(Nat.le_of_ble_eq_true rfl), (Nat.le_of_ble_eq_true rfl)⟩) (pre3V g hK mq0_ kq0_ (by decide) (q := (RX8, TX8, 10)) rfl) rfl rfl hl.1 rfl (lv_room (Nat.le_of_ble_eq_true rfl)) dX2_readMemberHead_181 ⟨(Nat.le_of_ble_eq_true rfl), (Nat.le_of_ble_eq_true rfl)⟩) g hK (by decide) (by decide) (fx' := [(8, 6, q0_, .int 1201), (8, 8, q0_, .int x_344), (2, 6, a0_, .int 0), (9, 8, q3_, .int x_328), (2, 5, a0_, .ref a_330), (7, 3, q2_, .int x_331), (6, 12, a_330, .int x_333), (2, 0, a0_, .ref q0_), (2, 1, a0_, .ref q1_), (2, 3, a0_, .ref q2_), (2, 4, a0_, .ref q3_), (5, 1, q1_, .ref q5_)]) rfl (fun r_422 fr_422 H locs hp hMr_422 g => ?_)
          obtain ⟨h_423, -⟩ := hp
          obtain rfl : r_422 = 0 := h_423
          refine lv_bipush (v := 41) hx hb dX2_readMemberHead_184 (by decide) ?_
          refine lv_icmp_eq (tgt := 193) hx hb dX2_readMemberHead_186 (by decide) (fun c_ => absurd c_ (by decide)) (fun c_ => ?_)
          refine lv_iconst (v := 1) hx hb dX2_readMemberHead_189 (by decide) ?_
          refine lv_goto (tgt := 194) hx hb dX2_readMemberHead_190 (by decide) ?_
          refine lv_istore (lv' := [(6, .int 1), (5, .int (-1)), (4, .int r_7), (2, .long r_6), (1, .int r_5), (0, .ref a0_)]) hx hb dX2_readMemberHead_194 hl (by decide) rfl (fun ls hl => ?_)
          refine lv_iconst (v := 0) hx hb dX2_readMemberHead_196 (by decide) ?_
          refine lv_istore (lv' := [(7, .int 0), (6, .int 1), (5, .int (-1)), (4, .int r_7), (2, .long r_6), (1, .int r_5), (0, .ref a0_)]) hx hb dX2_readMemberHead_197 hl (by decide) rfl (fun ls hl => ?_)
          have loop_424 : ∀ (n : Nat) (v199_7 : Int32) (v199_6 : Int32), bd 0 4 v199_7 → bd 0 1 v199_6 → (4 - v199_7.toInt < (n : Int)) → ∀ (f : Nat → va_E) (H : Heap) (locs : List Loc) (ls : Array Slot), G3 (dC, dI) L kd tys s f0 [(2, 5), (2, 6), (5, 4), (6, 0), (6, 1), (6, 2), (6, 3), (6, 6), (6, 7), (6, 8), (6, 9), (6, 10), (6, 11), (6, 12), (7, 3), (8, 6), (8, 8), (8, 9), (9, 8)] [132, 134, 135, 156] f H locs [(8, 6, q0_, .int 1201), (8, 8, q0_, .int x_344), (2, 6, a0_, .int 0), (9, 8, q3_, .int x_328), (2, 5, a0_, .ref a_330), (7, 3, q2_, .int x_331), (6, 12, a_330, .int x_333), (2, 0, a0_, .ref q0_), (2, 1, a0_, .ref q1_), (2, 3, a0_, .ref q2_), (2, 4, a0_, .ref q3_), (5, 1, q1_, .ref q5_)] → lv_has ls 8 [(7, .int v199_7), (6, .int v199_6), (5, .int (-1)), (4, .int r_7), (2, .long r_6), (1, .int r_5), (0, .ref a0_)] → W p l e ({ frames := 3, cells := 0, slots := 0, locals := 72 } : Room) s m [.ref a0_].toArray below meth c H locs 0 0 Q (F0 m 199 ls []) := by
            intro n199
            induction n199 with
            | zero =>
              intro v199_7 v199_6 bv199_7 bv199_6 hm199 f H locs ls g  hl
              exact absurd hm199 (by have h9_v199_7 := bv199_7; unfold bd at h9_v199_7; have h9_v199_6 := bv199_6; unfold bd at h9_v199_6; omega)
            | succ n199 ih199 =>
              intro v199_7 v199_6 bv199_7 bv199_6 hm199 f H locs ls g  hl
              refine lv_iload hx hb dX2_readMemberHead_199 (lv_at hl 0 rfl) ?_
              refine lv_iconst (v := 3) hx hb dX2_readMemberHead_201 (by decide) ?_
              refine lv_icmp_gt (tgt := 251) hx hb dX2_readMemberHead_202 (by decide) (fun c_425 => ?_) (fun c_425 => ?_)
              · have fc_425 := lt_f c_425
                have b_426 : bd 4 4 v199_7 := ltR fc_425 kb_3 bv199_7 (by decide)
                refine lv_aload_n hx hb dX2_readMemberHead_251 rfl (lv_at hl 6 rfl) ?_
                refine g_getk (C := RX2) (T := TX2) (N := 16) hx hb hts (mc_ inX2) hown hK g rfl 0 (by decide) rfl (hts _ (List.mem_cons_of_mem _ t_416)) (fun _ h9 => h9) 7 rfl dX2_readMemberHead_252 ?_
                refine g_calli (va_runV (As := []) (rest := []) ⟨hx, hb, hml, hown, hts⟩ (r_X8_place l dC dI L kd tys f H.size g.2.2.2.1 q0_ mq0_ kq0_) (cwV 0 hts (gV_ t_1110 t_1111 t_1112 t_184 t_1113) rfl rfl rfl (by decide +kernel) ⟨(Nat.le_of_ble_eq_true rfl), (Nat.le_of_ble_eq_true rfl)⟩) (pre3V g hK mq0_ kq0_ (by decide) (q := (RX8, TX8, 10)) rfl) rfl rfl hl.1 rfl (lv_room (Nat.le_of_ble_eq_true rfl)) dX2_readMemberHead_255 ⟨(Nat.le_of_ble_eq_true rfl), (Nat.le_of_ble_eq_true rfl)⟩) g hK (by decide) (by decide) (fx' := [(8, 6, q0_, .int 1201), (8, 8, q0_, .int x_344), (2, 6, a0_, .int 0), (9, 8, q3_, .int x_328), (2, 5, a0_, .ref a_330), (7, 3, q2_, .int x_331), (6, 12, a_330, .int x_333), (2, 0, a0_, .ref q0_), (2, 1, a0_, .ref q1_), (2, 3, a0_, .ref q2_), (2, 4, a0_, .ref q3_), (5, 1, q1_, .ref q5_)]) rfl (fun r_427 fr_427 H locs hp hMr_427 g => ?_)
                refine lv_istore (lv' := [(7, .int r_427), (6, .int v199_6), (5, .int (-1)), (4, .int r_7), (2, .long r_6), (1, .int r_5), (0, .ref a0_)]) hx hb dX2_readMemberHead_258 hl (by decide) rfl (fun ls hl => ?_)
                refine lv_aload_n hx hb dX2_readMemberHead_260 rfl (lv_at hl 6 rfl) ?_
                refine g_getk (C := RX2) (T := TX2) (N := 16) hx hb hts (mc_ inX2) hown hK g rfl 0 (by decide) rfl (hts _ (List.mem_cons_of_mem _ t_416)) (fun _ h9 => h9) 7 rfl dX2_readMemberHead_261 ?_
                refine lv_bipush (v := 41) hx hb dX2_readMemberHead_264 (by decide) ?_
                refine g_callv (va_runV (As := [.int 41]) (rest := []) ⟨hx, hb, hml, hown, hts⟩ (r_X8_take_2 l dC dI L kd tys fr_427 H.size g.2.2.2.1 q0_ mq0_ kq0_ 41 1201 kb_1201 x_344 h_345 (g.fcts [0, 1] rfl)) (cwV 1 hts (gV_ t_1098 t_1099 t_1100 t_184 t_1101) rfl rfl rfl (by decide +kernel) ⟨(Nat.le_of_ble_eq_true rfl), (Nat.le_of_ble_eq_true rfl)⟩) (pre3V g hK mq0_ kq0_ (by decide) (q := (RX8, TX8, 10)) rfl) rfl rfl hl.1 rfl (lv_room (Nat.le_of_ble_eq_true rfl)) dX2_readMemberHead_266 ⟨(Nat.le_of_ble_eq_true rfl), (Nat.le_of_ble_eq_true rfl)⟩) g hK (by decide) (by decide) (fx' := [(8, 8, q0_, .int x_344), (2, 6, a0_, .int 0), (9, 8, q3_, .int x_328), (2, 5, a0_, .ref a_330), (7, 3, q2_, .int x_331), (6, 12, a_330, .int x_333), (2, 0, a0_, .ref q0_), (2, 1, a0_, .ref q1_), (2, 3, a0_, .ref q2_), (2, 4, a0_, .ref q3_), (5, 1, q1_, .ref q5_)]) rfl (fun fr_428 H locs hp hMr_428 g => ?_)
                obtain ⟨x_429, h_430, hF_431⟩ := hp
                have g := g.more hF_431
                refine lv_iload hx hb dX2_readMemberHead_269 (lv_at hl 2 rfl) ?_
                refine lv_iconst (v := (-1)) hx hb dX2_readMemberHead_271 (by decide) ?_
                refine lv_icmp_eq (tgt := 308) hx hb dX2_readMemberHead_272 (by decide) (fun c_ => ?_) (fun c_ => absurd (by decide) c_)
                subst hQ
                exact W.vret hx hb hr (fun t ht hW => ⟨⟨_, rfl, Or.inr (⟨x_429, h_430, x_344, h_345, a_330, ⟨ma_330, ka_330⟩, (g.fcts [0, 1, 4] rfl)⟩), q3_of g hK ht hW⟩, g.2.2.1.F ht⟩) g.2.2.1.2.2 dX2_readMemberHead_308
              · have fc_425 := nlt_f c_425
                have b_432 : bd 0 3 v199_7 := leL fc_425 bv199_7 kb_3 (by decide)
                refine lv_iload hx hb dX2_readMemberHead_205 (lv_at hl 1 rfl) ?_
                have kb_0 : bd 0 0 (0 : Int32) := ⟨by decide, by decide⟩
                refine lv_if_eq (tgt := 251) hx hb dX2_readMemberHead_207 (by decide) (fun c_433 => ?_) (fun c_433 => ?_)
                · have fc_433 := eq_f c_433
                  have b_434 : bd 0 0 v199_6 := eqX fc_433 bv199_6 kb_0 (by decide)
                  refine lv_aload_n hx hb dX2_readMemberHead_251 rfl (lv_at hl 6 rfl) ?_
                  refine g_getk (C := RX2) (T := TX2) (N := 16) hx hb hts (mc_ inX2) hown hK g rfl 0 (by decide) rfl (hts _ (List.mem_cons_of_mem _ t_416)) (fun _ h9 => h9) 7 rfl dX2_readMemberHead_252 ?_
                  refine g_calli (va_runV (As := []) (rest := []) ⟨hx, hb, hml, hown, hts⟩ (r_X8_place l dC dI L kd tys f H.size g.2.2.2.1 q0_ mq0_ kq0_) (cwV 0 hts (gV_ t_1110 t_1111 t_1112 t_184 t_1113) rfl rfl rfl (by decide +kernel) ⟨(Nat.le_of_ble_eq_true rfl), (Nat.le_of_ble_eq_true rfl)⟩) (pre3V g hK mq0_ kq0_ (by decide) (q := (RX8, TX8, 10)) rfl) rfl rfl hl.1 rfl (lv_room (Nat.le_of_ble_eq_true rfl)) dX2_readMemberHead_255 ⟨(Nat.le_of_ble_eq_true rfl), (Nat.le_of_ble_eq_true rfl)⟩) g hK (by decide) (by decide) (fx' := [(8, 6, q0_, .int 1201), (8, 8, q0_, .int x_344), (2, 6, a0_, .int 0), (9, 8, q3_, .int x_328), (2, 5, a0_, .ref a_330), (7, 3, q2_, .int x_331), (6, 12, a_330, .int x_333), (2, 0, a0_, .ref q0_), (2, 1, a0_, .ref q1_), (2, 3, a0_, .ref q2_), (2, 4, a0_, .ref q3_), (5, 1, q1_, .ref q5_)]) rfl (fun r_435 fr_435 H locs hp hMr_435 g => ?_)
                  refine lv_istore (lv' := [(7, .int r_435), (6, .int v199_6), (5, .int (-1)), (4, .int r_7), (2, .long r_6), (1, .int r_5), (0, .ref a0_)]) hx hb dX2_readMemberHead_258 hl (by decide) rfl (fun ls hl => ?_)
                  refine lv_aload_n hx hb dX2_readMemberHead_260 rfl (lv_at hl 6 rfl) ?_
                  refine g_getk (C := RX2) (T := TX2) (N := 16) hx hb hts (mc_ inX2) hown hK g rfl 0 (by decide) rfl (hts _ (List.mem_cons_of_mem _ t_416)) (fun _ h9 => h9) 7 rfl dX2_readMemberHead_261 ?_
                  refine lv_bipush (v := 41) hx hb dX2_readMemberHead_264 (by decide) ?_
                  refine g_callv (va_runV (As := [.int 41]) (rest := []) ⟨hx, hb, hml, hown, hts⟩ (r_X8_take_2 l dC dI L kd tys fr_435 H.size g.2.2.2.1 q0_ mq0_ kq0_ 41 1201 kb_1201 x_344 h_345 (g.fcts [0, 1] rfl)) (cwV 1 hts (gV_ t_1098 t_1099 t_1100 t_184 t_1101) rfl rfl rfl (by decide +kernel) ⟨(Nat.le_of_ble_eq_true rfl), (Nat.le_of_ble_eq_true rfl)⟩) (pre3V g hK mq0_ kq0_ (by decide) (q := (RX8, TX8, 10)) rfl) rfl rfl hl.1 rfl (lv_room (Nat.le_of_ble_eq_true rfl)) dX2_readMemberHead_266 ⟨(Nat.le_of_ble_eq_true rfl), (Nat.le_of_ble_eq_true rfl)⟩) g hK (by decide) (by decide) (fx' := [(8, 8, q0_, .int x_344), (2, 6, a0_, .int 0), (9, 8, q3_, .int x_328), (2, 5, a0_, .ref a_330), (7, 3, q2_, .int x_331), (6, 12, a_330, .int x_333), (2, 0, a0_, .ref q0_), (2, 1, a0_, .ref q1_), (2, 3, a0_, .ref q2_), (2, 4, a0_, .ref q3_), (5, 1, q1_, .ref q5_)]) rfl (fun fr_436 H locs hp hMr_436 g => ?_)
                  obtain ⟨x_437, h_438, hF_439⟩ := hp
                  have g := g.more hF_439
                  refine lv_iload hx hb dX2_readMemberHead_269 (lv_at hl 2 rfl) ?_
                  refine lv_iconst (v := (-1)) hx hb dX2_readMemberHead_271 (by decide) ?_
                  refine lv_icmp_eq (tgt := 308) hx hb dX2_readMemberHead_272 (by decide) (fun c_ => ?_) (fun c_ => absurd (by decide) c_)
                  subst hQ
                  exact W.vret hx hb hr (fun t ht hW => ⟨⟨_, rfl, Or.inr (⟨x_437, h_438, x_344, h_345, a_330, ⟨ma_330, ka_330⟩, (g.fcts [0, 1, 4] rfl)⟩), q3_of g hK ht hW⟩, g.2.2.1.F ht⟩) g.2.2.1.2.2 dX2_readMemberHead_308
                · have fc_433 := neq_f c_433
                  have b_440 : bd 1 1 v199_6 := neX fc_433 bv199_6 kb_0 (by decide)
                  refine lv_aload_n hx hb dX2_readMemberHead_210 rfl (lv_at hl 6 rfl) ?_
                  refine g_callv (va_runV (As := []) (rest := []) ⟨hx, hb, hml, hown, hts⟩ (r_X2_readParam_2 l dC dI L kd tys f H.size g.2.2.2.1 a0_ ma0_ ka0_ q0_ mq0_ kq0_ q1_ mq1_ kq1_ a_330 ma_330 ka_330 q5_ mq5_ kq5_ 1201 kb_1201 x_344 h_345 (g.fcts [7, 8, 4, 11, 0, 1] rfl)) (cwV 0 hts (gV_ t_1313 t_1315 t_34 t_183 t_1316) rfl rfl rfl (by decide +kernel) ⟨(Nat.le_of_ble_eq_true rfl), (Nat.le_of_ble_eq_true rfl)⟩) (pre3V g hK ma0_ ka0_ (by decide) (q := (RX2, TX2, 16)) rfl) rfl rfl hl.1 rfl (lv_room (Nat.le_of_ble_eq_true rfl)) dX2_readMemberHead_211 ⟨(Nat.le_of_ble_eq_true rfl), (Nat.le_of_ble_eq_true rfl)⟩) g hK (by decide) (by decide) (fx' := [(8, 8, q0_, .int x_344), (2, 6, a0_, .int 0), (9, 8, q3_, .int x_328), (2, 5, a0_, .ref a_330), (7, 3, q2_, .int x_331), (6, 12, a_330, .int x_333), (2, 0, a0_, .ref q0_), (2, 1, a0_, .ref q1_), (2, 3, a0_, .ref q2_), (2, 4, a0_, .ref q3_), (5, 1, q1_, .ref q5_)]) rfl (fun fr_441 H locs hp hMr_441 g => ?_)
                  have hF_442 := hp
                  have g := g.more hF_442
                  refine lv_aload_n hx hb dX2_readMemberHead_214 rfl (lv_at hl 6 rfl) ?_
                  refine g_getk (C := RX2) (T := TX2) (N := 16) hx hb hts (mc_ inX2) hown hK g rfl 0 (by decide) rfl (hts _ (List.mem_cons_of_mem _ t_416)) (fun _ h9 => h9) 7 rfl dX2_readMemberHead_215 ?_
                  refine g_calli (va_runV (As := []) (rest := []) ⟨hx, hb, hml, hown, hts⟩ (r_X8_kind_2 l dC dI L kd tys fr_441 H.size g.2.2.2.1 q0_ mq0_ kq0_ 1201 kb_1201 (g.fcts [0] rfl)) (cwV 0 hts (gV_ t_1118 t_1119 t_1120 t_184 t_1121) rfl rfl rfl (by decide +kernel) ⟨(Nat.le_of_ble_eq_true rfl), (Nat.le_of_ble_eq_true rfl)⟩) (pre3V g hK mq0_ kq0_ (by decide) (q := (RX8, TX8, 10)) rfl) rfl rfl hl.1 rfl (lv_room (Nat.le_of_ble_eq_true rfl)) dX2_readMemberHead_218 ⟨(Nat.le_of_ble_eq_true rfl), (Nat.le_of_ble_eq_true rfl)⟩) g hK (by decide) (by decide) (fx' := [(8, 6, q0_, .int 1201), (8, 8, q0_, .int x_344), (2, 6, a0_, .int 0), (9, 8, q3_, .int x_328), (2, 5, a0_, .ref a_330), (7, 3, q2_, .int x_331), (6, 12, a_330, .int x_333), (2, 0, a0_, .ref q0_), (2, 1, a0_, .ref q1_), (2, 3, a0_, .ref q2_), (2, 4, a0_, .ref q3_), (5, 1, q1_, .ref q5_)]) rfl (fun r_443 fr_443 H locs hp hMr_443 g => ?_)
                  obtain ⟨h_444, -⟩ := hp
                  obtain rfl : r_443 = 0 := h_444
                  refine lv_bipush (v := 44) hx hb dX2_readMemberHead_221 (by decide) ?_
                  refine lv_icmp_ne (tgt := 230) hx hb dX2_readMemberHead_223 (by decide) (fun c_ => ?_) (fun c_ => absurd c_ (by decide))
                  refine lv_iconst (v := 0) hx hb dX2_readMemberHead_230 (by decide) ?_
                  refine lv_istore (lv' := [(6, .int 0), (7, .int v199_7), (5, .int (-1)), (4, .int r_7), (2, .long r_6), (1, .int r_5), (0, .ref a0_)]) hx hb dX2_readMemberHead_231 hl (by decide) rfl (fun ls hl => ?_)
                  refine lv_iload hx hb dX2_readMemberHead_233 (lv_at hl 0 rfl) ?_
                  refine lv_if_eq (tgt := 245) hx hb dX2_readMemberHead_235 (by decide) (fun c_ => ?_) (fun c_ => absurd (by decide) c_)
                  have kb_1 : bd 1 1 (1 : Int32) := ⟨by decide, by decide⟩
                  obtain ⟨y_445, ey_445⟩ : ∃ z : Int32, z = v199_7 + 1 := ⟨_, rfl⟩
                  refine lv_iinc (v := y_445) (lv' := [(7, .int y_445), (6, .int 0), (5, .int (-1)), (4, .int r_7), (2, .long r_6), (1, .int r_5), (0, .ref a0_)]) hx hb dX2_readMemberHead_245 hl (k := 1) rfl (by rw [ey_445]; rfl) (by decide) rfl (fun ls hl => ?_)
                  have ty_445 := add_bd ey_445 b_432 kb_1 (by decide)
                  have b_446 : bd 1 4 y_445 := add_rg ty_445 b_432 kb_1 (by decide)
                  refine lv_goto (tgt := 199) hx hb dX2_readMemberHead_248 (by decide) ?_
                  have hl9 := lv_sub hl [0, 1, 2, 3, 4, 5, 6] (by rfl : lv_pick [(7, .int y_445), (6, .int 0), (5, .int (-1)), (4, .int r_7), (2, .long r_6), (1, .int r_5), (0, .ref a0_)] [0, 1, 2, 3, 4, 5, 6] = [(7, .int y_445), (6, .int 0), (5, .int (-1)), (4, .int r_7), (2, .long r_6), (1, .int r_5), (0, .ref a0_)])
                  have g9 := g.sub (fx' := [(8, 6, q0_, .int 1201), (8, 8, q0_, .int x_344), (2, 6, a0_, .int 0), (9, 8, q3_, .int x_328), (2, 5, a0_, .ref a_330), (7, 3, q2_, .int x_331), (6, 12, a_330, .int x_333), (2, 0, a0_, .ref q0_), (2, 1, a0_, .ref q1_), (2, 3, a0_, .ref q2_), (2, 4, a0_, .ref q3_), (5, 1, q1_, .ref q5_)]) [0, 1, 2, 3, 4, 5, 6, 7, 8, 9, 10, 11] rfl
                  exact ih199  y_445 0 (bd_sub b_446 (by decide)) (bd_sub kb_0 (by decide)) (by have h9_0 := b_446; unfold bd at h9_0; have h9_1 := bv199_6; unfold bd at h9_1; have h9_2 := bv199_7; unfold bd at h9_2; have h9_3 := kb_0; unfold bd at h9_3; have h9_4 := kb_1; unfold bd at h9_4; have h9_5 := kb_12; unfold bd at h9_5; have h9_6 := kb_1201; unfold bd at h9_6; have h9_7 := kb_3; unfold bd at h9_7; have h9_8 := kb_m1; unfold bd at h9_8; omega) _ _ _ _ g9  hl9
          have kb_0 : bd 0 0 (0 : Int32) := ⟨by decide, by decide⟩
          have kb_1 : bd 1 1 (1 : Int32) := ⟨by decide, by decide⟩
          have hl9 := lv_sub hl [0, 1, 2, 3, 4, 5, 6] (by rfl : lv_pick [(7, .int 0), (6, .int 1), (5, .int (-1)), (4, .int r_7), (2, .long r_6), (1, .int r_5), (0, .ref a0_)] [0, 1, 2, 3, 4, 5, 6] = [(7, .int 0), (6, .int 1), (5, .int (-1)), (4, .int r_7), (2, .long r_6), (1, .int r_5), (0, .ref a0_)])
          have g9 := g.sub (fx' := [(8, 6, q0_, .int 1201), (8, 8, q0_, .int x_344), (2, 6, a0_, .int 0), (9, 8, q3_, .int x_328), (2, 5, a0_, .ref a_330), (7, 3, q2_, .int x_331), (6, 12, a_330, .int x_333), (2, 0, a0_, .ref q0_), (2, 1, a0_, .ref q1_), (2, 3, a0_, .ref q2_), (2, 4, a0_, .ref q3_), (5, 1, q1_, .ref q5_)]) [0, 1, 2, 3, 4, 5, 6, 7, 8, 9, 10, 11] rfl
          exact loop_424 (11) 0 1 (bd_sub kb_0 (by decide)) (bd_sub kb_1 (by decide)) (by have h9_0 := kb_0; unfold bd at h9_0; have h9_1 := kb_1; unfold bd at h9_1; have h9_2 := kb_12; unfold bd at h9_2; have h9_3 := kb_1201; unfold bd at h9_3; have h9_4 := kb_3; unfold bd at h9_4; have h9_5 := kb_m1; unfold bd at h9_5; omega) _ _ _ _ g9  hl9
      · have fc_325 := nlt_f c_325
        have b_447 : bd 12 12 x_324 := leR fc_325 kb_12 bx_324 (by decide)
        refine lv_aload_n hx hb dX2_readMemberHead_141 rfl (lv_at hl 4 rfl) ?_
        refine g_getk (C := RX2) (T := TX2) (N := 16) hx hb hts (mc_ inX2) hown hK g rfl 0 (by decide) rfl (hts _ (List.mem_cons_of_mem _ t_416)) (fun _ h9 => h9) 2 rfl dX2_readMemberHead_142 ?_
        refine lv_iconst (v := 4) hx hb dX2_readMemberHead_145 (by decide) ?_
        refine lv_iload_n hx hb dX2_readMemberHead_146 rfl (lv_at hl 3 rfl) ?_
        have kb_4 : bd 4 4 (4 : Int32) := ⟨by decide, by decide⟩
        refine g_callv (va_runV (As := [.int 4, .int r_5]) (rest := []) ⟨hx, hb, hml, hown, hts⟩ (r_X8_fail l dC dI L kd tys fr_321 H.size g.2.2.2.1 q0_ mq0_ kq0_ 4 (bd_sub kb_4 (by decide)) r_5 y0_ by0_ (g.fcts [8] rfl)) (cwV 2 hts (gV_ t_1122 t_1107 t_1108 t_184 t_1109) rfl rfl rfl (by decide +kernel) ⟨(Nat.le_of_ble_eq_true rfl), (Nat.le_of_ble_eq_true rfl)⟩) (pre3V g hK mq0_ kq0_ (by decide) (q := (RX8, TX8, 10)) rfl) rfl rfl hl.1 rfl (lv_room (Nat.le_of_ble_eq_true rfl)) dX2_readMemberHead_147 ⟨(Nat.le_of_ble_eq_true rfl), (Nat.le_of_ble_eq_true rfl)⟩) g hK (by decide) (by decide) (fx' := [(9, 8, q3_, .int x_324), (2, 0, a0_, .ref q0_), (2, 1, a0_, .ref q1_), (2, 3, a0_, .ref q2_), (2, 4, a0_, .ref q3_), (2, 5, a0_, .ref q4_), (5, 1, q1_, .ref q5_)]) rfl (fun fr_448 H locs hp hMr_448 g => ?_)
        obtain ⟨x_449, h_450, hF_451⟩ := hp
        have g := g.more hF_451
        refine lv_goto (tgt := 161) hx hb dX2_readMemberHead_150 (by decide) ?_
        refine lv_aload_n hx hb dX2_readMemberHead_161 rfl (lv_at hl 4 rfl) ?_
        refine g_getk (C := RX2) (T := TX2) (N := 16) hx hb hts (mc_ inX2) hown hK g rfl 0 (by decide) rfl (hts _ (List.mem_cons_of_mem _ t_416)) (fun _ h9 => h9) 3 rfl dX2_readMemberHead_162 ?_
        have kb_1201 : bd 1201 1201 (1201 : Int32) := ⟨by decide, by decide⟩
        refine g_callv (va_runV (As := []) (rest := []) ⟨hx, hb, hml, hown, hts⟩ (r_X8_next_2 l dC dI L kd tys fr_448 H.size g.2.2.2.1 q0_ mq0_ kq0_ 1201 kb_1201 (g.fcts [0] rfl)) (cwV 0 hts (gV_ t_1131 t_1103 t_1104 t_184 t_1105) rfl rfl rfl (by decide +kernel) ⟨(Nat.le_of_ble_eq_true rfl), (Nat.le_of_ble_eq_true rfl)⟩) (pre3V g hK mq0_ kq0_ (by decide) (q := (RX8, TX8, 10)) rfl) rfl rfl hl.1 rfl (lv_room (Nat.le_of_ble_eq_true rfl)) dX2_readMemberHead_165 ⟨(Nat.le_of_ble_eq_true rfl), (Nat.le_of_ble_eq_true rfl)⟩) g hK (by decide) (by decide) (fx' := [(8, 6, q0_, .int 1201), (8, 8, q0_, .int x_449), (9, 8, q3_, .int x_324), (2, 0, a0_, .ref q0_), (2, 1, a0_, .ref q1_), (2, 3, a0_, .ref q2_), (2, 4, a0_, .ref q3_), (2, 5, a0_, .ref q4_), (5, 1, q1_, .ref q5_)]) rfl (fun fr_452 H locs hp hMr_452 g => ?_)
        refine lv_aload_n hx hb dX2_readMemberHead_168 rfl (lv_at hl 4 rfl) ?_
        refine g_getk (C := RX2) (T := TX2) (N := 16) hx hb hts (mc_ inX2) hown hK g rfl 0 (by decide) rfl (hts _ (List.mem_cons_of_mem _ t_416)) (fun _ h9 => h9) 3 rfl dX2_readMemberHead_169 ?_
        refine lv_bipush (v := 40) hx hb dX2_readMemberHead_172 (by decide) ?_
        refine g_callv (va_runV (As := [.int 40]) (rest := []) ⟨hx, hb, hml, hown, hts⟩ (r_X8_take_2 l dC dI L kd tys fr_452 H.size g.2.2.2.1 q0_ mq0_ kq0_ 40 1201 kb_1201 x_449 h_450 (g.fcts [0, 1] rfl)) (cwV 1 hts (gV_ t_1098 t_1099 t_1100 t_184 t_1101) rfl rfl rfl (by decide +kernel) ⟨(Nat.le_of_ble_eq_true rfl), (Nat.le_of_ble_eq_true rfl)⟩) (pre3V g hK mq0_ kq0_ (by decide) (q := (RX8, TX8, 10)) rfl) rfl rfl hl.1 rfl (lv_room (Nat.le_of_ble_eq_true rfl)) dX2_readMemberHead_174 ⟨(Nat.le_of_ble_eq_true rfl), (Nat.le_of_ble_eq_true rfl)⟩) g hK (by decide) (by decide) (fx' := [(8, 8, q0_, .int x_449), (9, 8, q3_, .int x_324), (2, 0, a0_, .ref q0_), (2, 1, a0_, .ref q1_), (2, 3, a0_, .ref q2_), (2, 4, a0_, .ref q3_), (2, 5, a0_, .ref q4_), (5, 1, q1_, .ref q5_)]) rfl (fun fr_453 H locs hp hMr_453 g => ?_)
        obtain ⟨x_454, h_455, hF_456⟩ := hp
        have g := g.more hF_456
        refine lv_aload_n hx hb dX2_readMemberHead_177 rfl (lv_at hl 4 rfl) ?_
        refine g_getk (C := RX2) (T := TX2) (N := 16) hx hb hts (mc_ inX2) hown hK g rfl 0 (by decide) rfl (hts _ (List.mem_cons_of_mem _ t_416)) (fun _ h9 => h9) 3 rfl dX2_readMemberHead_178 ?_
        refine g_calli (va_runV (As := []) (rest := []) ⟨hx, hb, hml, hown, hts⟩ (r_X8_kind_2 l dC dI L kd tys fr_453 H.size g.2.2.2.1 q0_ mq0_ kq0_ x_454 h_455 (g.fcts [0] rfl)) (cwV 0 hts (gV_ t_1118 t_1119 t_1120 t_184 t_1121) rfl rfl rfl (by decide +kernel) ⟨(Nat.le_of_ble_eq_true rfl), (Nat.le_of_ble_eq_true rfl)⟩) (pre3V g hK mq0_ kq0_ (by decide) (q := (RX8, TX8, 10)) rfl) rfl rfl hl.1 rfl (lv_room (Nat.le_of_ble_eq_true rfl)) dX2_readMemberHead_181 ⟨(Nat.le_of_ble_eq_true rfl), (Nat.le_of_ble_eq_true rfl)⟩) g hK (by decide) (by decide) (fx' := [(8, 6, q0_, .int x_454), (8, 8, q0_, .int x_449), (9, 8, q3_, .int x_324), (2, 0, a0_, .ref q0_), (2, 1, a0_, .ref q1_), (2, 3, a0_, .ref q2_), (2, 4, a0_, .ref q3_), (2, 5, a0_, .ref q4_), (5, 1, q1_, .ref q5_)]) rfl (fun r_457 fr_457 H locs hp hMr_457 g => ?_)
        obtain ⟨h_458, -⟩ := hp
        obtain rfl : r_457 = 0 := h_458
        refine lv_bipush (v := 41) hx hb dX2_readMemberHead_184 (by decide) ?_
        refine lv_icmp_eq (tgt := 193) hx hb dX2_readMemberHead_186 (by decide) (fun c_ => absurd c_ (by decide)) (fun c_ => ?_)
        refine lv_iconst (v := 1) hx hb dX2_readMemberHead_189 (by decide) ?_
        refine lv_goto (tgt := 194) hx hb dX2_readMemberHead_190 (by decide) ?_
        refine lv_istore (lv' := [(6, .int 1), (5, .int (-1)), (4, .int r_7), (2, .long r_6), (1, .int r_5), (0, .ref a0_)]) hx hb dX2_readMemberHead_194 hl (by decide) rfl (fun ls hl => ?_)
        refine lv_iconst (v := 0) hx hb dX2_readMemberHead_196 (by decide) ?_
        refine lv_istore (lv' := [(7, .int 0), (6, .int 1), (5, .int (-1)), (4, .int r_7), (2, .long r_6), (1, .int r_5), (0, .ref a0_)]) hx hb dX2_readMemberHead_197 hl (by decide) rfl (fun ls hl => ?_)
        have loop_459 : ∀ (n : Nat) (v199_7 : Int32) (v199_6 : Int32) (w199_8_6_q0_ : Int32), bd 0 4 v199_7 → bd 0 1 v199_6 → bd 1201 1201 w199_8_6_q0_ → (4 - v199_7.toInt < (n : Int)) → ∀ (f : Nat → va_E) (H : Heap) (locs : List Loc) (ls : Array Slot), G3 (dC, dI) L kd tys s f0 [(2, 5), (2, 6), (5, 4), (6, 0), (6, 1), (6, 2), (6, 3), (6, 6), (6, 7), (6, 8), (6, 9), (6, 10), (6, 11), (6, 12), (7, 3), (8, 6), (8, 8), (8, 9), (9, 8)] [132, 134, 135, 156] f H locs [(8, 6, q0_, .int w199_8_6_q0_), (8, 8, q0_, .int x_449), (9, 8, q3_, .int x_324), (2, 0, a0_, .ref q0_), (2, 1, a0_, .ref q1_), (2, 3, a0_, .ref q2_), (2, 4, a0_, .ref q3_), (2, 5, a0_, .ref q4_), (5, 1, q1_, .ref q5_)] → lv_has ls 8 [(7, .int v199_7), (6, .int v199_6), (5, .int (-1)), (4, .int r_7), (2, .long r_6), (1, .int r_5), (0, .ref a0_)] → W p l e ({ frames := 3, cells := 0, slots := 0, locals := 72 } : Room) s m [.ref a0_].toArray below meth c H locs 0 0 Q (F0 m 199 ls []) := by
          intro n199
          induction n199 with
          | zero =>
            intro v199_7 v199_6 w199_8_6_q0_ bv199_7 bv199_6 bw199_8_6_q0_ hm199 f H locs ls g  hl
            exact absurd hm199 (by have h9_v199_7 := bv199_7; unfold bd at h9_v199_7; have h9_v199_6 := bv199_6; unfold bd at h9_v199_6; have h9_w199_8_6_q0_ := bw199_8_6_q0_; unfold bd at h9_w199_8_6_q0_; omega)
          | succ n199 ih199 =>
            intro v199_7 v199_6 w199_8_6_q0_ bv199_7 bv199_6 bw199_8_6_q0_ hm199 f H locs ls g  hl
            refine lv_iload hx hb dX2_readMemberHead_199 (lv_at hl 0 rfl) ?_
            refine lv_iconst (v := 3) hx hb dX2_readMemberHead_201 (by decide) ?_
            refine lv_icmp_gt (tgt := 251) hx hb dX2_readMemberHead_202 (by decide) (fun c_460 => ?_) (fun c_460 => ?_)
            · have fc_460 := lt_f c_460
              have b_461 : bd 4 4 v199_7 := ltR fc_460 kb_3 bv199_7 (by decide)
              refine lv_aload_n hx hb dX2_readMemberHead_251 rfl (lv_at hl 6 rfl) ?_
              refine g_getk (C := RX2) (T := TX2) (N := 16) hx hb hts (mc_ inX2) hown hK g rfl 0 (by decide) rfl (hts _ (List.mem_cons_of_mem _ t_416)) (fun _ h9 => h9) 3 rfl dX2_readMemberHead_252 ?_
              refine g_calli (va_runV (As := []) (rest := []) ⟨hx, hb, hml, hown, hts⟩ (r_X8_place l dC dI L kd tys f H.size g.2.2.2.1 q0_ mq0_ kq0_) (cwV 0 hts (gV_ t_1110 t_1111 t_1112 t_184 t_1113) rfl rfl rfl (by decide +kernel) ⟨(Nat.le_of_ble_eq_true rfl), (Nat.le_of_ble_eq_true rfl)⟩) (pre3V g hK mq0_ kq0_ (by decide) (q := (RX8, TX8, 10)) rfl) rfl rfl hl.1 rfl (lv_room (Nat.le_of_ble_eq_true rfl)) dX2_readMemberHead_255 ⟨(Nat.le_of_ble_eq_true rfl), (Nat.le_of_ble_eq_true rfl)⟩) g hK (by decide) (by decide) (fx' := [(8, 6, q0_, .int w199_8_6_q0_), (8, 8, q0_, .int x_449), (9, 8, q3_, .int x_324), (2, 0, a0_, .ref q0_), (2, 1, a0_, .ref q1_), (2, 3, a0_, .ref q2_), (2, 4, a0_, .ref q3_), (2, 5, a0_, .ref q4_), (5, 1, q1_, .ref q5_)]) rfl (fun r_462 fr_462 H locs hp hMr_462 g => ?_)
              refine lv_istore (lv' := [(7, .int r_462), (6, .int v199_6), (5, .int (-1)), (4, .int r_7), (2, .long r_6), (1, .int r_5), (0, .ref a0_)]) hx hb dX2_readMemberHead_258 hl (by decide) rfl (fun ls hl => ?_)
              refine lv_aload_n hx hb dX2_readMemberHead_260 rfl (lv_at hl 6 rfl) ?_
              refine g_getk (C := RX2) (T := TX2) (N := 16) hx hb hts (mc_ inX2) hown hK g rfl 0 (by decide) rfl (hts _ (List.mem_cons_of_mem _ t_416)) (fun _ h9 => h9) 3 rfl dX2_readMemberHead_261 ?_
              refine lv_bipush (v := 41) hx hb dX2_readMemberHead_264 (by decide) ?_
              refine g_callv (va_runV (As := [.int 41]) (rest := []) ⟨hx, hb, hml, hown, hts⟩ (r_X8_take_2 l dC dI L kd tys fr_462 H.size g.2.2.2.1 q0_ mq0_ kq0_ 41 w199_8_6_q0_ bw199_8_6_q0_ x_449 h_450 (g.fcts [0, 1] rfl)) (cwV 1 hts (gV_ t_1098 t_1099 t_1100 t_184 t_1101) rfl rfl rfl (by decide +kernel) ⟨(Nat.le_of_ble_eq_true rfl), (Nat.le_of_ble_eq_true rfl)⟩) (pre3V g hK mq0_ kq0_ (by decide) (q := (RX8, TX8, 10)) rfl) rfl rfl hl.1 rfl (lv_room (Nat.le_of_ble_eq_true rfl)) dX2_readMemberHead_266 ⟨(Nat.le_of_ble_eq_true rfl), (Nat.le_of_ble_eq_true rfl)⟩) g hK (by decide) (by decide) (fx' := [(8, 8, q0_, .int x_449), (9, 8, q3_, .int x_324), (2, 0, a0_, .ref q0_), (2, 1, a0_, .ref q1_), (2, 3, a0_, .ref q2_), (2, 4, a0_, .ref q3_), (2, 5, a0_, .ref q4_), (5, 1, q1_, .ref q5_)]) rfl (fun fr_463 H locs hp hMr_463 g => ?_)
              obtain ⟨x_464, h_465, hF_466⟩ := hp
              have g := g.more hF_466
              refine lv_iload hx hb dX2_readMemberHead_269 (lv_at hl 2 rfl) ?_
              refine lv_iconst (v := (-1)) hx hb dX2_readMemberHead_271 (by decide) ?_
              refine lv_icmp_eq (tgt := 308) hx hb dX2_readMemberHead_272 (by decide) (fun c_ => ?_) (fun c_ => absurd (by decide) c_)
              subst hQ
              exact W.vret hx hb hr (fun t ht hW => ⟨⟨_, rfl, Or.inr (⟨x_464, h_465, x_449, h_450, q4_, ⟨mq4_, kq4_⟩, (g.fcts [0, 1, 7] rfl)⟩), q3_of g hK ht hW⟩, g.2.2.1.F ht⟩) g.2.2.1.2.2 dX2_readMemberHead_308
            · have fc_460 := nlt_f c_460
              have b_467 : bd 0 3 v199_7 := leL fc_460 bv199_7 kb_3 (by decide)
              refine lv_iload hx hb dX2_readMemberHead_205 (lv_at hl 1 rfl) ?_
              have kb_0 : bd 0 0 (0 : Int32) := ⟨by decide, by decide⟩
              refine lv_if_eq (tgt := 251) hx hb dX2_readMemberHead_207 (by decide) (fun c_468 => ?_) (fun c_468 => ?_)
              · have fc_468 := eq_f c_468
                have b_469 : bd 0 0 v199_6 := eqX fc_468 bv199_6 kb_0 (by decide)
                refine lv_aload_n hx hb dX2_readMemberHead_251 rfl (lv_at hl 6 rfl) ?_
                refine g_getk (C := RX2) (T := TX2) (N := 16) hx hb hts (mc_ inX2) hown hK g rfl 0 (by decide) rfl (hts _ (List.mem_cons_of_mem _ t_416)) (fun _ h9 => h9) 3 rfl dX2_readMemberHead_252 ?_
                refine g_calli (va_runV (As := []) (rest := []) ⟨hx, hb, hml, hown, hts⟩ (r_X8_place l dC dI L kd tys f H.size g.2.2.2.1 q0_ mq0_ kq0_) (cwV 0 hts (gV_ t_1110 t_1111 t_1112 t_184 t_1113) rfl rfl rfl (by decide +kernel) ⟨(Nat.le_of_ble_eq_true rfl), (Nat.le_of_ble_eq_true rfl)⟩) (pre3V g hK mq0_ kq0_ (by decide) (q := (RX8, TX8, 10)) rfl) rfl rfl hl.1 rfl (lv_room (Nat.le_of_ble_eq_true rfl)) dX2_readMemberHead_255 ⟨(Nat.le_of_ble_eq_true rfl), (Nat.le_of_ble_eq_true rfl)⟩) g hK (by decide) (by decide) (fx' := [(8, 6, q0_, .int w199_8_6_q0_), (8, 8, q0_, .int x_449), (9, 8, q3_, .int x_324), (2, 0, a0_, .ref q0_), (2, 1, a0_, .ref q1_), (2, 3, a0_, .ref q2_), (2, 4, a0_, .ref q3_), (2, 5, a0_, .ref q4_), (5, 1, q1_, .ref q5_)]) rfl (fun r_470 fr_470 H locs hp hMr_470 g => ?_)
                refine lv_istore (lv' := [(7, .int r_470), (6, .int v199_6), (5, .int (-1)), (4, .int r_7), (2, .long r_6), (1, .int r_5), (0, .ref a0_)]) hx hb dX2_readMemberHead_258 hl (by decide) rfl (fun ls hl => ?_)
                refine lv_aload_n hx hb dX2_readMemberHead_260 rfl (lv_at hl 6 rfl) ?_
                refine g_getk (C := RX2) (T := TX2) (N := 16) hx hb hts (mc_ inX2) hown hK g rfl 0 (by decide) rfl (hts _ (List.mem_cons_of_mem _ t_416)) (fun _ h9 => h9) 3 rfl dX2_readMemberHead_261 ?_
                refine lv_bipush (v := 41) hx hb dX2_readMemberHead_264 (by decide) ?_
                refine g_callv (va_runV (As := [.int 41]) (rest := []) ⟨hx, hb, hml, hown, hts⟩ (r_X8_take_2 l dC dI L kd tys fr_470 H.size g.2.2.2.1 q0_ mq0_ kq0_ 41 w199_8_6_q0_ bw199_8_6_q0_ x_449 h_450 (g.fcts [0, 1] rfl)) (cwV 1 hts (gV_ t_1098 t_1099 t_1100 t_184 t_1101) rfl rfl rfl (by decide +kernel) ⟨(Nat.le_of_ble_eq_true rfl), (Nat.le_of_ble_eq_true rfl)⟩) (pre3V g hK mq0_ kq0_ (by decide) (q := (RX8, TX8, 10)) rfl) rfl rfl hl.1 rfl (lv_room (Nat.le_of_ble_eq_true rfl)) dX2_readMemberHead_266 ⟨(Nat.le_of_ble_eq_true rfl), (Nat.le_of_ble_eq_true rfl)⟩) g hK (by decide) (by decide) (fx' := [(8, 8, q0_, .int x_449), (9, 8, q3_, .int x_324), (2, 0, a0_, .ref q0_), (2, 1, a0_, .ref q1_), (2, 3, a0_, .ref q2_), (2, 4, a0_, .ref q3_), (2, 5, a0_, .ref q4_), (5, 1, q1_, .ref q5_)]) rfl (fun fr_471 H locs hp hMr_471 g => ?_)
                obtain ⟨x_472, h_473, hF_474⟩ := hp
                have g := g.more hF_474
                refine lv_iload hx hb dX2_readMemberHead_269 (lv_at hl 2 rfl) ?_
                refine lv_iconst (v := (-1)) hx hb dX2_readMemberHead_271 (by decide) ?_
                refine lv_icmp_eq (tgt := 308) hx hb dX2_readMemberHead_272 (by decide) (fun c_ => ?_) (fun c_ => absurd (by decide) c_)
                subst hQ
                exact W.vret hx hb hr (fun t ht hW => ⟨⟨_, rfl, Or.inr (⟨x_472, h_473, x_449, h_450, q4_, ⟨mq4_, kq4_⟩, (g.fcts [0, 1, 7] rfl)⟩), q3_of g hK ht hW⟩, g.2.2.1.F ht⟩) g.2.2.1.2.2 dX2_readMemberHead_308
              · have fc_468 := neq_f c_468
                have b_475 : bd 1 1 v199_6 := neX fc_468 bv199_6 kb_0 (by decide)
                refine lv_aload_n hx hb dX2_readMemberHead_210 rfl (lv_at hl 6 rfl) ?_
                refine g_callv (va_runV (As := []) (rest := []) ⟨hx, hb, hml, hown, hts⟩ (r_X2_readParam_2 l dC dI L kd tys f H.size g.2.2.2.1 a0_ ma0_ ka0_ q0_ mq0_ kq0_ q1_ mq1_ kq1_ q4_ mq4_ kq4_ q5_ mq5_ kq5_ w199_8_6_q0_ bw199_8_6_q0_ x_449 h_450 (g.fcts [3, 4, 7, 8, 0, 1] rfl)) (cwV 0 hts (gV_ t_1313 t_1315 t_34 t_183 t_1316) rfl rfl rfl (by decide +kernel) ⟨(Nat.le_of_ble_eq_true rfl), (Nat.le_of_ble_eq_true rfl)⟩) (pre3V g hK ma0_ ka0_ (by decide) (q := (RX2, TX2, 16)) rfl) rfl rfl hl.1 rfl (lv_room (Nat.le_of_ble_eq_true rfl)) dX2_readMemberHead_211 ⟨(Nat.le_of_ble_eq_true rfl), (Nat.le_of_ble_eq_true rfl)⟩) g hK (by decide) (by decide) (fx' := [(8, 8, q0_, .int x_449), (9, 8, q3_, .int x_324), (2, 0, a0_, .ref q0_), (2, 1, a0_, .ref q1_), (2, 3, a0_, .ref q2_), (2, 4, a0_, .ref q3_), (2, 5, a0_, .ref q4_), (5, 1, q1_, .ref q5_)]) rfl (fun fr_476 H locs hp hMr_476 g => ?_)
                have hF_477 := hp
                have g := g.more hF_477
                refine lv_aload_n hx hb dX2_readMemberHead_214 rfl (lv_at hl 6 rfl) ?_
                refine g_getk (C := RX2) (T := TX2) (N := 16) hx hb hts (mc_ inX2) hown hK g rfl 0 (by decide) rfl (hts _ (List.mem_cons_of_mem _ t_416)) (fun _ h9 => h9) 3 rfl dX2_readMemberHead_215 ?_
                refine g_calli (va_runV (As := []) (rest := []) ⟨hx, hb, hml, hown, hts⟩ (r_X8_kind_2 l dC dI L kd tys fr_476 H.size g.2.2.2.1 q0_ mq0_ kq0_ 1201 kb_1201 (g.fcts [0] rfl)) (cwV 0 hts (gV_ t_1118 t_1119 t_1120 t_184 t_1121) rfl rfl rfl (by decide +kernel) ⟨(Nat.le_of_ble_eq_true rfl), (Nat.le_of_ble_eq_true rfl)⟩) (pre3V g hK mq0_ kq0_ (by decide) (q := (RX8, TX8, 10)) rfl) rfl rfl hl.1 rfl (lv_room (Nat.le_of_ble_eq_true rfl)) dX2_readMemberHead_218 ⟨(Nat.le_of_ble_eq_true rfl), (Nat.le_of_ble_eq_true rfl)⟩) g hK (by decide) (by decide) (fx' := [(8, 6, q0_, .int 1201), (8, 8, q0_, .int x_449), (9, 8, q3_, .int x_324), (2, 0, a0_, .ref q0_), (2, 1, a0_, .ref q1_), (2, 3, a0_, .ref q2_), (2, 4, a0_, .ref q3_), (2, 5, a0_, .ref q4_), (5, 1, q1_, .ref q5_)]) rfl (fun r_478 fr_478 H locs hp hMr_478 g => ?_)
                obtain ⟨h_479, -⟩ := hp
                obtain rfl : r_478 = 0 := h_479
                refine lv_bipush (v := 44) hx hb dX2_readMemberHead_221 (by decide) ?_
                refine lv_icmp_ne (tgt := 230) hx hb dX2_readMemberHead_223 (by decide) (fun c_ => ?_) (fun c_ => absurd c_ (by decide))
                refine lv_iconst (v := 0) hx hb dX2_readMemberHead_230 (by decide) ?_
                refine lv_istore (lv' := [(6, .int 0), (7, .int v199_7), (5, .int (-1)), (4, .int r_7), (2, .long r_6), (1, .int r_5), (0, .ref a0_)]) hx hb dX2_readMemberHead_231 hl (by decide) rfl (fun ls hl => ?_)
                refine lv_iload hx hb dX2_readMemberHead_233 (lv_at hl 0 rfl) ?_
                refine lv_if_eq (tgt := 245) hx hb dX2_readMemberHead_235 (by decide) (fun c_ => ?_) (fun c_ => absurd (by decide) c_)
                have kb_1 : bd 1 1 (1 : Int32) := ⟨by decide, by decide⟩
                obtain ⟨y_480, ey_480⟩ : ∃ z : Int32, z = v199_7 + 1 := ⟨_, rfl⟩
                refine lv_iinc (v := y_480) (lv' := [(7, .int y_480), (6, .int 0), (5, .int (-1)), (4, .int r_7), (2, .long r_6), (1, .int r_5), (0, .ref a0_)]) hx hb dX2_readMemberHead_245 hl (k := 1) rfl (by rw [ey_480]; rfl) (by decide) rfl (fun ls hl => ?_)
                have ty_480 := add_bd ey_480 b_467 kb_1 (by decide)
                have b_481 : bd 1 4 y_480 := add_rg ty_480 b_467 kb_1 (by decide)
                refine lv_goto (tgt := 199) hx hb dX2_readMemberHead_248 (by decide) ?_
                have hl9 := lv_sub hl [0, 1, 2, 3, 4, 5, 6] (by rfl : lv_pick [(7, .int y_480), (6, .int 0), (5, .int (-1)), (4, .int r_7), (2, .long r_6), (1, .int r_5), (0, .ref a0_)] [0, 1, 2, 3, 4, 5, 6] = [(7, .int y_480), (6, .int 0), (5, .int (-1)), (4, .int r_7), (2, .long r_6), (1, .int r_5), (0, .ref a0_)])
                have g9 := g.sub (fx' := [(8, 6, q0_, .int 1201), (8, 8, q0_, .int x_449), (9, 8, q3_, .int x_324), (2, 0, a0_, .ref q0_), (2, 1, a0_, .ref q1_), (2, 3, a0_, .ref q2_), (2, 4, a0_, .ref q3_), (2, 5, a0_, .ref q4_), (5, 1, q1_, .ref q5_)]) [0, 1, 2, 3, 4, 5, 6, 7, 8] rfl
                exact ih199  y_480 0 1201 (bd_sub b_481 (by decide)) (bd_sub kb_0 (by decide)) kb_1201 (by have h9_0 := b_481; unfold bd at h9_0; have h9_1 := bv199_6; unfold bd at h9_1; have h9_2 := bv199_7; unfold bd at h9_2; have h9_3 := bw199_8_6_q0_; unfold bd at h9_3; have h9_4 := kb_0; unfold bd at h9_4; have h9_5 := kb_1; unfold bd at h9_5; have h9_6 := kb_12; unfold bd at h9_6; have h9_7 := kb_1201; unfold bd at h9_7; have h9_8 := kb_3; unfold bd at h9_8; have h9_9 := kb_4; unfold bd at h9_9; have h9_10 := kb_m1; unfold bd at h9_10; omega) _ _ _ _ g9  hl9
        have kb_0 : bd 0 0 (0 : Int32) := ⟨by decide, by decide⟩
        have kb_1 : bd 1 1 (1 : Int32) := ⟨by decide, by decide⟩
        have hl9 := lv_sub hl [0, 1, 2, 3, 4, 5, 6] (by rfl : lv_pick [(7, .int 0), (6, .int 1), (5, .int (-1)), (4, .int r_7), (2, .long r_6), (1, .int r_5), (0, .ref a0_)] [0, 1, 2, 3, 4, 5, 6] = [(7, .int 0), (6, .int 1), (5, .int (-1)), (4, .int r_7), (2, .long r_6), (1, .int r_5), (0, .ref a0_)])
        have g9 := g.sub (fx' := [(8, 6, q0_, .int x_454), (8, 8, q0_, .int x_449), (9, 8, q3_, .int x_324), (2, 0, a0_, .ref q0_), (2, 1, a0_, .ref q1_), (2, 3, a0_, .ref q2_), (2, 4, a0_, .ref q3_), (2, 5, a0_, .ref q4_), (5, 1, q1_, .ref q5_)]) [0, 1, 2, 3, 4, 5, 6, 7, 8] rfl
        exact loop_459 (11) 0 1 x_454 (bd_sub kb_0 (by decide)) (bd_sub kb_1 (by decide)) h_455 (by have h9_0 := h_455; unfold bd at h9_0; have h9_1 := kb_0; unfold bd at h9_1; have h9_2 := kb_1; unfold bd at h9_2; have h9_3 := kb_12; unfold bd at h9_3; have h9_4 := kb_1201; unfold bd at h9_4; have h9_5 := kb_3; unfold bd at h9_5; have h9_6 := kb_4; unfold bd at h9_6; have h9_7 := kb_m1; unfold bd at h9_7; omega) _ _ _ _ g9  hl9
    · have fc_322 := neq_f c_322
      refine lv_aload_n hx hb dX2_readMemberHead_70 rfl (lv_at hl 4 rfl) ?_
      refine g_getk (C := RX2) (T := TX2) (N := 16) hx hb hts (mc_ inX2) hown hK g rfl 0 (by decide) rfl (hts _ (List.mem_cons_of_mem _ t_416)) (fun _ h9 => h9) 1 rfl dX2_readMemberHead_71 ?_
      refine lv_iconst (v := 1) hx hb dX2_readMemberHead_74 (by decide) ?_
      refine lv_iload_n hx hb dX2_readMemberHead_75 rfl (lv_at hl 3 rfl) ?_
      have kb_1 : bd 1 1 (1 : Int32) := ⟨by decide, by decide⟩
      refine g_callv (va_runV (As := [.int 1, .int r_5]) (rest := []) ⟨hx, hb, hml, hown, hts⟩ (r_X8_fail l dC dI L kd tys fr_321 H.size g.2.2.2.1 q0_ mq0_ kq0_ 1 (bd_sub kb_1 (by decide)) r_5 y0_ by0_ (g.fcts [7] rfl)) (cwV 2 hts (gV_ t_1122 t_1107 t_1108 t_184 t_1109) rfl rfl rfl (by decide +kernel) ⟨(Nat.le_of_ble_eq_true rfl), (Nat.le_of_ble_eq_true rfl)⟩) (pre3V g hK mq0_ kq0_ (by decide) (q := (RX8, TX8, 10)) rfl) rfl rfl hl.1 rfl (lv_room (Nat.le_of_ble_eq_true rfl)) dX2_readMemberHead_76 ⟨(Nat.le_of_ble_eq_true rfl), (Nat.le_of_ble_eq_true rfl)⟩) g hK (by decide) (by decide) (fx' := [(2, 0, a0_, .ref q0_), (2, 1, a0_, .ref q1_), (2, 3, a0_, .ref q2_), (2, 4, a0_, .ref q3_), (2, 5, a0_, .ref q4_), (5, 1, q1_, .ref q5_)]) rfl (fun fr_482 H locs hp hMr_482 g => ?_)
      obtain ⟨x_483, h_484, hF_485⟩ := hp
      have g := g.more hF_485
      refine lv_goto (tgt := 161) hx hb dX2_readMemberHead_79 (by decide) ?_
      refine lv_aload_n hx hb dX2_readMemberHead_161 rfl (lv_at hl 4 rfl) ?_
      refine g_getk (C := RX2) (T := TX2) (N := 16) hx hb hts (mc_ inX2) hown hK g rfl 0 (by decide) rfl (hts _ (List.mem_cons_of_mem _ t_416)) (fun _ h9 => h9) 2 rfl dX2_readMemberHead_162 ?_
      have kb_1201 : bd 1201 1201 (1201 : Int32) := ⟨by decide, by decide⟩
      refine g_callv (va_runV (As := []) (rest := []) ⟨hx, hb, hml, hown, hts⟩ (r_X8_next_2 l dC dI L kd tys fr_482 H.size g.2.2.2.1 q0_ mq0_ kq0_ 1201 kb_1201 (g.fcts [0] rfl)) (cwV 0 hts (gV_ t_1131 t_1103 t_1104 t_184 t_1105) rfl rfl rfl (by decide +kernel) ⟨(Nat.le_of_ble_eq_true rfl), (Nat.le_of_ble_eq_true rfl)⟩) (pre3V g hK mq0_ kq0_ (by decide) (q := (RX8, TX8, 10)) rfl) rfl rfl hl.1 rfl (lv_room (Nat.le_of_ble_eq_true rfl)) dX2_readMemberHead_165 ⟨(Nat.le_of_ble_eq_true rfl), (Nat.le_of_ble_eq_true rfl)⟩) g hK (by decide) (by decide) (fx' := [(8, 6, q0_, .int 1201), (8, 8, q0_, .int x_483), (2, 0, a0_, .ref q0_), (2, 1, a0_, .ref q1_), (2, 3, a0_, .ref q2_), (2, 4, a0_, .ref q3_), (2, 5, a0_, .ref q4_), (5, 1, q1_, .ref q5_)]) rfl (fun fr_486 H locs hp hMr_486 g => ?_)
      refine lv_aload_n hx hb dX2_readMemberHead_168 rfl (lv_at hl 4 rfl) ?_
      refine g_getk (C := RX2) (T := TX2) (N := 16) hx hb hts (mc_ inX2) hown hK g rfl 0 (by decide) rfl (hts _ (List.mem_cons_of_mem _ t_416)) (fun _ h9 => h9) 2 rfl dX2_readMemberHead_169 ?_
      refine lv_bipush (v := 40) hx hb dX2_readMemberHead_172 (by decide) ?_
      refine g_callv (va_runV (As := [.int 40]) (rest := []) ⟨hx, hb, hml, hown, hts⟩ (r_X8_take_2 l dC dI L kd tys fr_486 H.size g.2.2.2.1 q0_ mq0_ kq0_ 40 1201 kb_1201 x_483 h_484 (g.fcts [0, 1] rfl)) (cwV 1 hts (gV_ t_1098 t_1099 t_1100 t_184 t_1101) rfl rfl rfl (by decide +kernel) ⟨(Nat.le_of_ble_eq_true rfl), (Nat.le_of_ble_eq_true rfl)⟩) (pre3V g hK mq0_ kq0_ (by decide) (q := (RX8, TX8, 10)) rfl) rfl rfl hl.1 rfl (lv_room (Nat.le_of_ble_eq_true rfl)) dX2_readMemberHead_174 ⟨(Nat.le_of_ble_eq_true rfl), (Nat.le_of_ble_eq_true rfl)⟩) g hK (by decide) (by decide) (fx' := [(8, 8, q0_, .int x_483), (2, 0, a0_, .ref q0_), (2, 1, a0_, .ref q1_), (2, 3, a0_, .ref q2_), (2, 4, a0_, .ref q3_), (2, 5, a0_, .ref q4_), (5, 1, q1_, .ref q5_)]) rfl (fun fr_487 H locs hp hMr_487 g => ?_)
      obtain ⟨x_488, h_489, hF_490⟩ := hp
      have g := g.more hF_490
      refine lv_aload_n hx hb dX2_readMemberHead_177 rfl (lv_at hl 4 rfl) ?_
      refine g_getk (C := RX2) (T := TX2) (N := 16) hx hb hts (mc_ inX2) hown hK g rfl 0 (by decide) rfl (hts _ (List.mem_cons_of_mem _ t_416)) (fun _ h9 => h9) 2 rfl dX2_readMemberHead_178 ?_
      refine g_calli (va_runV (As := []) (rest := []) ⟨hx, hb, hml, hown, hts⟩ (r_X8_kind_2 l dC dI L kd tys fr_487 H.size g.2.2.2.1 q0_ mq0_ kq0_ x_488 h_489 (g.fcts [0] rfl)) (cwV 0 hts (gV_ t_1118 t_1119 t_1120 t_184 t_1121) rfl rfl rfl (by decide +kernel) ⟨(Nat.le_of_ble_eq_true rfl), (Nat.le_of_ble_eq_true rfl)⟩) (pre3V g hK mq0_ kq0_ (by decide) (q := (RX8, TX8, 10)) rfl) rfl rfl hl.1 rfl (lv_room (Nat.le_of_ble_eq_true rfl)) dX2_readMemberHead_181 ⟨(Nat.le_of_ble_eq_true rfl), (Nat.le_of_ble_eq_true rfl)⟩) g hK (by decide) (by decide) (fx' := [(8, 6, q0_, .int x_488), (8, 8, q0_, .int x_483), (2, 0, a0_, .ref q0_), (2, 1, a0_, .ref q1_), (2, 3, a0_, .ref q2_), (2, 4, a0_, .ref q3_), (2, 5, a0_, .ref q4_), (5, 1, q1_, .ref q5_)]) rfl (fun r_491 fr_491 H locs hp hMr_491 g => ?_)
      obtain ⟨h_492, -⟩ := hp
      obtain rfl : r_491 = 0 := h_492
      refine lv_bipush (v := 41) hx hb dX2_readMemberHead_184 (by decide) ?_
      refine lv_icmp_eq (tgt := 193) hx hb dX2_readMemberHead_186 (by decide) (fun c_ => absurd c_ (by decide)) (fun c_ => ?_)
      refine lv_iconst (v := 1) hx hb dX2_readMemberHead_189 (by decide) ?_
      refine lv_goto (tgt := 194) hx hb dX2_readMemberHead_190 (by decide) ?_
      refine lv_istore (lv' := [(6, .int 1), (5, .int (-1)), (4, .int r_7), (2, .long r_6), (1, .int r_5), (0, .ref a0_)]) hx hb dX2_readMemberHead_194 hl (by decide) rfl (fun ls hl => ?_)
      refine lv_iconst (v := 0) hx hb dX2_readMemberHead_196 (by decide) ?_
      refine lv_istore (lv' := [(7, .int 0), (6, .int 1), (5, .int (-1)), (4, .int r_7), (2, .long r_6), (1, .int r_5), (0, .ref a0_)]) hx hb dX2_readMemberHead_197 hl (by decide) rfl (fun ls hl => ?_)
      have loop_493 : ∀ (n : Nat) (v199_7 : Int32) (v199_6 : Int32) (w199_8_6_q0_ : Int32), bd 0 4 v199_7 → bd 0 1 v199_6 → bd 1201 1201 w199_8_6_q0_ → (4 - v199_7.toInt < (n : Int)) → ∀ (f : Nat → va_E) (H : Heap) (locs : List Loc) (ls : Array Slot), G3 (dC, dI) L kd tys s f0 [(2, 5), (2, 6), (5, 4), (6, 0), (6, 1), (6, 2), (6, 3), (6, 6), (6, 7), (6, 8), (6, 9), (6, 10), (6, 11), (6, 12), (7, 3), (8, 6), (8, 8), (8, 9), (9, 8)] [132, 134, 135, 156] f H locs [(8, 6, q0_, .int w199_8_6_q0_), (8, 8, q0_, .int x_483), (2, 0, a0_, .ref q0_), (2, 1, a0_, .ref q1_), (2, 3, a0_, .ref q2_), (2, 4, a0_, .ref q3_), (2, 5, a0_, .ref q4_), (5, 1, q1_, .ref q5_)] → lv_has ls 8 [(7, .int v199_7), (6, .int v199_6), (5, .int (-1)), (4, .int r_7), (2, .long r_6), (1, .int r_5), (0, .ref a0_)] → W p l e ({ frames := 3, cells := 0, slots := 0, locals := 72 } : Room) s m [.ref a0_].toArray below meth c H locs 0 0 Q (F0 m 199 ls []) := by
        intro n199
        induction n199 with
        | zero =>
          intro v199_7 v199_6 w199_8_6_q0_ bv199_7 bv199_6 bw199_8_6_q0_ hm199 f H locs ls g  hl
          exact absurd hm199 (by have h9_v199_7 := bv199_7; unfold bd at h9_v199_7; have h9_v199_6 := bv199_6; unfold bd at h9_v199_6; have h9_w199_8_6_q0_ := bw199_8_6_q0_; unfold bd at h9_w199_8_6_q0_; omega)
        | succ n199 ih199 =>
          intro v199_7 v199_6 w199_8_6_q0_ bv199_7 bv199_6 bw199_8_6_q0_ hm199 f H locs ls g  hl
          refine lv_iload hx hb dX2_readMemberHead_199 (lv_at hl 0 rfl) ?_
          refine lv_iconst (v := 3) hx hb dX2_readMemberHead_201 (by decide) ?_
          refine lv_icmp_gt (tgt := 251) hx hb dX2_readMemberHead_202 (by decide) (fun c_494 => ?_) (fun c_494 => ?_)
          · have fc_494 := lt_f c_494
            have b_495 : bd 4 4 v199_7 := ltR fc_494 kb_3 bv199_7 (by decide)
            refine lv_aload_n hx hb dX2_readMemberHead_251 rfl (lv_at hl 6 rfl) ?_
            refine g_getk (C := RX2) (T := TX2) (N := 16) hx hb hts (mc_ inX2) hown hK g rfl 0 (by decide) rfl (hts _ (List.mem_cons_of_mem _ t_416)) (fun _ h9 => h9) 2 rfl dX2_readMemberHead_252 ?_
            refine g_calli (va_runV (As := []) (rest := []) ⟨hx, hb, hml, hown, hts⟩ (r_X8_place l dC dI L kd tys f H.size g.2.2.2.1 q0_ mq0_ kq0_) (cwV 0 hts (gV_ t_1110 t_1111 t_1112 t_184 t_1113) rfl rfl rfl (by decide +kernel) ⟨(Nat.le_of_ble_eq_true rfl), (Nat.le_of_ble_eq_true rfl)⟩) (pre3V g hK mq0_ kq0_ (by decide) (q := (RX8, TX8, 10)) rfl) rfl rfl hl.1 rfl (lv_room (Nat.le_of_ble_eq_true rfl)) dX2_readMemberHead_255 ⟨(Nat.le_of_ble_eq_true rfl), (Nat.le_of_ble_eq_true rfl)⟩) g hK (by decide) (by decide) (fx' := [(8, 6, q0_, .int w199_8_6_q0_), (8, 8, q0_, .int x_483), (2, 0, a0_, .ref q0_), (2, 1, a0_, .ref q1_), (2, 3, a0_, .ref q2_), (2, 4, a0_, .ref q3_), (2, 5, a0_, .ref q4_), (5, 1, q1_, .ref q5_)]) rfl (fun r_496 fr_496 H locs hp hMr_496 g => ?_)
            refine lv_istore (lv' := [(7, .int r_496), (6, .int v199_6), (5, .int (-1)), (4, .int r_7), (2, .long r_6), (1, .int r_5), (0, .ref a0_)]) hx hb dX2_readMemberHead_258 hl (by decide) rfl (fun ls hl => ?_)
            refine lv_aload_n hx hb dX2_readMemberHead_260 rfl (lv_at hl 6 rfl) ?_
            refine g_getk (C := RX2) (T := TX2) (N := 16) hx hb hts (mc_ inX2) hown hK g rfl 0 (by decide) rfl (hts _ (List.mem_cons_of_mem _ t_416)) (fun _ h9 => h9) 2 rfl dX2_readMemberHead_261 ?_
            refine lv_bipush (v := 41) hx hb dX2_readMemberHead_264 (by decide) ?_
            refine g_callv (va_runV (As := [.int 41]) (rest := []) ⟨hx, hb, hml, hown, hts⟩ (r_X8_take_2 l dC dI L kd tys fr_496 H.size g.2.2.2.1 q0_ mq0_ kq0_ 41 w199_8_6_q0_ bw199_8_6_q0_ x_483 h_484 (g.fcts [0, 1] rfl)) (cwV 1 hts (gV_ t_1098 t_1099 t_1100 t_184 t_1101) rfl rfl rfl (by decide +kernel) ⟨(Nat.le_of_ble_eq_true rfl), (Nat.le_of_ble_eq_true rfl)⟩) (pre3V g hK mq0_ kq0_ (by decide) (q := (RX8, TX8, 10)) rfl) rfl rfl hl.1 rfl (lv_room (Nat.le_of_ble_eq_true rfl)) dX2_readMemberHead_266 ⟨(Nat.le_of_ble_eq_true rfl), (Nat.le_of_ble_eq_true rfl)⟩) g hK (by decide) (by decide) (fx' := [(8, 8, q0_, .int x_483), (2, 0, a0_, .ref q0_), (2, 1, a0_, .ref q1_), (2, 3, a0_, .ref q2_), (2, 4, a0_, .ref q3_), (2, 5, a0_, .ref q4_), (5, 1, q1_, .ref q5_)]) rfl (fun fr_497 H locs hp hMr_497 g => ?_)
            obtain ⟨x_498, h_499, hF_500⟩ := hp
            have g := g.more hF_500
            refine lv_iload hx hb dX2_readMemberHead_269 (lv_at hl 2 rfl) ?_
            refine lv_iconst (v := (-1)) hx hb dX2_readMemberHead_271 (by decide) ?_
            refine lv_icmp_eq (tgt := 308) hx hb dX2_readMemberHead_272 (by decide) (fun c_ => ?_) (fun c_ => absurd (by decide) c_)
            subst hQ
            exact W.vret hx hb hr (fun t ht hW => ⟨⟨_, rfl, Or.inr (⟨x_498, h_499, x_483, h_484, q4_, ⟨mq4_, kq4_⟩, (g.fcts [0, 1, 6] rfl)⟩), q3_of g hK ht hW⟩, g.2.2.1.F ht⟩) g.2.2.1.2.2 dX2_readMemberHead_308
          · have fc_494 := nlt_f c_494
            have b_501 : bd 0 3 v199_7 := leL fc_494 bv199_7 kb_3 (by decide)
            refine lv_iload hx hb dX2_readMemberHead_205 (lv_at hl 1 rfl) ?_
            have kb_0 : bd 0 0 (0 : Int32) := ⟨by decide, by decide⟩
            refine lv_if_eq (tgt := 251) hx hb dX2_readMemberHead_207 (by decide) (fun c_502 => ?_) (fun c_502 => ?_)
            · have fc_502 := eq_f c_502
              have b_503 : bd 0 0 v199_6 := eqX fc_502 bv199_6 kb_0 (by decide)
              refine lv_aload_n hx hb dX2_readMemberHead_251 rfl (lv_at hl 6 rfl) ?_
              refine g_getk (C := RX2) (T := TX2) (N := 16) hx hb hts (mc_ inX2) hown hK g rfl 0 (by decide) rfl (hts _ (List.mem_cons_of_mem _ t_416)) (fun _ h9 => h9) 2 rfl dX2_readMemberHead_252 ?_
              refine g_calli (va_runV (As := []) (rest := []) ⟨hx, hb, hml, hown, hts⟩ (r_X8_place l dC dI L kd tys f H.size g.2.2.2.1 q0_ mq0_ kq0_) (cwV 0 hts (gV_ t_1110 t_1111 t_1112 t_184 t_1113) rfl rfl rfl (by decide +kernel) ⟨(Nat.le_of_ble_eq_true rfl), (Nat.le_of_ble_eq_true rfl)⟩) (pre3V g hK mq0_ kq0_ (by decide) (q := (RX8, TX8, 10)) rfl) rfl rfl hl.1 rfl (lv_room (Nat.le_of_ble_eq_true rfl)) dX2_readMemberHead_255 ⟨(Nat.le_of_ble_eq_true rfl), (Nat.le_of_ble_eq_true rfl)⟩) g hK (by decide) (by decide) (fx' := [(8, 6, q0_, .int w199_8_6_q0_), (8, 8, q0_, .int x_483), (2, 0, a0_, .ref q0_), (2, 1, a0_, .ref q1_), (2, 3, a0_, .ref q2_), (2, 4, a0_, .ref q3_), (2, 5, a0_, .ref q4_), (5, 1, q1_, .ref q5_)]) rfl (fun r_504 fr_504 H locs hp hMr_504 g => ?_)
              refine lv_istore (lv' := [(7, .int r_504), (6, .int v199_6), (5, .int (-1)), (4, .int r_7), (2, .long r_6), (1, .int r_5), (0, .ref a0_)]) hx hb dX2_readMemberHead_258 hl (by decide) rfl (fun ls hl => ?_)
              refine lv_aload_n hx hb dX2_readMemberHead_260 rfl (lv_at hl 6 rfl) ?_
              refine g_getk (C := RX2) (T := TX2) (N := 16) hx hb hts (mc_ inX2) hown hK g rfl 0 (by decide) rfl (hts _ (List.mem_cons_of_mem _ t_416)) (fun _ h9 => h9) 2 rfl dX2_readMemberHead_261 ?_
              refine lv_bipush (v := 41) hx hb dX2_readMemberHead_264 (by decide) ?_
              refine g_callv (va_runV (As := [.int 41]) (rest := []) ⟨hx, hb, hml, hown, hts⟩ (r_X8_take_2 l dC dI L kd tys fr_504 H.size g.2.2.2.1 q0_ mq0_ kq0_ 41 w199_8_6_q0_ bw199_8_6_q0_ x_483 h_484 (g.fcts [0, 1] rfl)) (cwV 1 hts (gV_ t_1098 t_1099 t_1100 t_184 t_1101) rfl rfl rfl (by decide +kernel) ⟨(Nat.le_of_ble_eq_true rfl), (Nat.le_of_ble_eq_true rfl)⟩) (pre3V g hK mq0_ kq0_ (by decide) (q := (RX8, TX8, 10)) rfl) rfl rfl hl.1 rfl (lv_room (Nat.le_of_ble_eq_true rfl)) dX2_readMemberHead_266 ⟨(Nat.le_of_ble_eq_true rfl), (Nat.le_of_ble_eq_true rfl)⟩) g hK (by decide) (by decide) (fx' := [(8, 8, q0_, .int x_483), (2, 0, a0_, .ref q0_), (2, 1, a0_, .ref q1_), (2, 3, a0_, .ref q2_), (2, 4, a0_, .ref q3_), (2, 5, a0_, .ref q4_), (5, 1, q1_, .ref q5_)]) rfl (fun fr_505 H locs hp hMr_505 g => ?_)
              obtain ⟨x_506, h_507, hF_508⟩ := hp
              have g := g.more hF_508
              refine lv_iload hx hb dX2_readMemberHead_269 (lv_at hl 2 rfl) ?_
              refine lv_iconst (v := (-1)) hx hb dX2_readMemberHead_271 (by decide) ?_
              refine lv_icmp_eq (tgt := 308) hx hb dX2_readMemberHead_272 (by decide) (fun c_ => ?_) (fun c_ => absurd (by decide) c_)
              subst hQ
              exact W.vret hx hb hr (fun t ht hW => ⟨⟨_, rfl, Or.inr (⟨x_506, h_507, x_483, h_484, q4_, ⟨mq4_, kq4_⟩, (g.fcts [0, 1, 6] rfl)⟩), q3_of g hK ht hW⟩, g.2.2.1.F ht⟩) g.2.2.1.2.2 dX2_readMemberHead_308
            · have fc_502 := neq_f c_502
              have b_509 : bd 1 1 v199_6 := neX fc_502 bv199_6 kb_0 (by decide)
              refine lv_aload_n hx hb dX2_readMemberHead_210 rfl (lv_at hl 6 rfl) ?_
              refine g_callv (va_runV (As := []) (rest := []) ⟨hx, hb, hml, hown, hts⟩ (r_X2_readParam_2 l dC dI L kd tys f H.size g.2.2.2.1 a0_ ma0_ ka0_ q0_ mq0_ kq0_ q1_ mq1_ kq1_ q4_ mq4_ kq4_ q5_ mq5_ kq5_ w199_8_6_q0_ bw199_8_6_q0_ x_483 h_484 (g.fcts [2, 3, 6, 7, 0, 1] rfl)) (cwV 0 hts (gV_ t_1313 t_1315 t_34 t_183 t_1316) rfl rfl rfl (by decide +kernel) ⟨(Nat.le_of_ble_eq_true rfl), (Nat.le_of_ble_eq_true rfl)⟩) (pre3V g hK ma0_ ka0_ (by decide) (q := (RX2, TX2, 16)) rfl) rfl rfl hl.1 rfl (lv_room (Nat.le_of_ble_eq_true rfl)) dX2_readMemberHead_211 ⟨(Nat.le_of_ble_eq_true rfl), (Nat.le_of_ble_eq_true rfl)⟩) g hK (by decide) (by decide) (fx' := [(8, 8, q0_, .int x_483), (2, 0, a0_, .ref q0_), (2, 1, a0_, .ref q1_), (2, 3, a0_, .ref q2_), (2, 4, a0_, .ref q3_), (2, 5, a0_, .ref q4_), (5, 1, q1_, .ref q5_)]) rfl (fun fr_510 H locs hp hMr_510 g => ?_)
              have hF_511 := hp
              have g := g.more hF_511
              refine lv_aload_n hx hb dX2_readMemberHead_214 rfl (lv_at hl 6 rfl) ?_
              refine g_getk (C := RX2) (T := TX2) (N := 16) hx hb hts (mc_ inX2) hown hK g rfl 0 (by decide) rfl (hts _ (List.mem_cons_of_mem _ t_416)) (fun _ h9 => h9) 2 rfl dX2_readMemberHead_215 ?_
              refine g_calli (va_runV (As := []) (rest := []) ⟨hx, hb, hml, hown, hts⟩ (r_X8_kind_2 l dC dI L kd tys fr_510 H.size g.2.2.2.1 q0_ mq0_ kq0_ 1201 kb_1201 (g.fcts [0] rfl)) (cwV 0 hts (gV_ t_1118 t_1119 t_1120 t_184 t_1121) rfl rfl rfl (by decide +kernel) ⟨(Nat.le_of_ble_eq_true rfl), (Nat.le_of_ble_eq_true rfl)⟩) (pre3V g hK mq0_ kq0_ (by decide) (q := (RX8, TX8, 10)) rfl) rfl rfl hl.1 rfl (lv_room (Nat.le_of_ble_eq_true rfl)) dX2_readMemberHead_218 ⟨(Nat.le_of_ble_eq_true rfl), (Nat.le_of_ble_eq_true rfl)⟩) g hK (by decide) (by decide) (fx' := [(8, 6, q0_, .int 1201), (8, 8, q0_, .int x_483), (2, 0, a0_, .ref q0_), (2, 1, a0_, .ref q1_), (2, 3, a0_, .ref q2_), (2, 4, a0_, .ref q3_), (2, 5, a0_, .ref q4_), (5, 1, q1_, .ref q5_)]) rfl (fun r_512 fr_512 H locs hp hMr_512 g => ?_)
              obtain ⟨h_513, -⟩ := hp
              obtain rfl : r_512 = 0 := h_513
              refine lv_bipush (v := 44) hx hb dX2_readMemberHead_221 (by decide) ?_
              refine lv_icmp_ne (tgt := 230) hx hb dX2_readMemberHead_223 (by decide) (fun c_ => ?_) (fun c_ => absurd c_ (by decide))
              refine lv_iconst (v := 0) hx hb dX2_readMemberHead_230 (by decide) ?_
              refine lv_istore (lv' := [(6, .int 0), (7, .int v199_7), (5, .int (-1)), (4, .int r_7), (2, .long r_6), (1, .int r_5), (0, .ref a0_)]) hx hb dX2_readMemberHead_231 hl (by decide) rfl (fun ls hl => ?_)
              refine lv_iload hx hb dX2_readMemberHead_233 (lv_at hl 0 rfl) ?_
              refine lv_if_eq (tgt := 245) hx hb dX2_readMemberHead_235 (by decide) (fun c_ => ?_) (fun c_ => absurd (by decide) c_)
              obtain ⟨y_514, ey_514⟩ : ∃ z : Int32, z = v199_7 + 1 := ⟨_, rfl⟩
              refine lv_iinc (v := y_514) (lv' := [(7, .int y_514), (6, .int 0), (5, .int (-1)), (4, .int r_7), (2, .long r_6), (1, .int r_5), (0, .ref a0_)]) hx hb dX2_readMemberHead_245 hl (k := 1) rfl (by rw [ey_514]; rfl) (by decide) rfl (fun ls hl => ?_)
              have ty_514 := add_bd ey_514 b_501 kb_1 (by decide)
              have b_515 : bd 1 4 y_514 := add_rg ty_514 b_501 kb_1 (by decide)
              refine lv_goto (tgt := 199) hx hb dX2_readMemberHead_248 (by decide) ?_
              have hl9 := lv_sub hl [0, 1, 2, 3, 4, 5, 6] (by rfl : lv_pick [(7, .int y_514), (6, .int 0), (5, .int (-1)), (4, .int r_7), (2, .long r_6), (1, .int r_5), (0, .ref a0_)] [0, 1, 2, 3, 4, 5, 6] = [(7, .int y_514), (6, .int 0), (5, .int (-1)), (4, .int r_7), (2, .long r_6), (1, .int r_5), (0, .ref a0_)])
              have g9 := g.sub (fx' := [(8, 6, q0_, .int 1201), (8, 8, q0_, .int x_483), (2, 0, a0_, .ref q0_), (2, 1, a0_, .ref q1_), (2, 3, a0_, .ref q2_), (2, 4, a0_, .ref q3_), (2, 5, a0_, .ref q4_), (5, 1, q1_, .ref q5_)]) [0, 1, 2, 3, 4, 5, 6, 7] rfl
              exact ih199  y_514 0 1201 (bd_sub b_515 (by decide)) (bd_sub kb_0 (by decide)) kb_1201 (by have h9_0 := b_515; unfold bd at h9_0; have h9_1 := bv199_6; unfold bd at h9_1; have h9_2 := bv199_7; unfold bd at h9_2; have h9_3 := bw199_8_6_q0_; unfold bd at h9_3; have h9_4 := kb_0; unfold bd at h9_4; have h9_5 := kb_1; unfold bd at h9_5; have h9_6 := kb_1201; unfold bd at h9_6; have h9_7 := kb_3; unfold bd at h9_7; have h9_8 := kb_m1; unfold bd at h9_8; omega) _ _ _ _ g9  hl9
      have kb_0 : bd 0 0 (0 : Int32) := ⟨by decide, by decide⟩
      have hl9 := lv_sub hl [0, 1, 2, 3, 4, 5, 6] (by rfl : lv_pick [(7, .int 0), (6, .int 1), (5, .int (-1)), (4, .int r_7), (2, .long r_6), (1, .int r_5), (0, .ref a0_)] [0, 1, 2, 3, 4, 5, 6] = [(7, .int 0), (6, .int 1), (5, .int (-1)), (4, .int r_7), (2, .long r_6), (1, .int r_5), (0, .ref a0_)])
      have g9 := g.sub (fx' := [(8, 6, q0_, .int x_488), (8, 8, q0_, .int x_483), (2, 0, a0_, .ref q0_), (2, 1, a0_, .ref q1_), (2, 3, a0_, .ref q2_), (2, 4, a0_, .ref q3_), (2, 5, a0_, .ref q4_), (5, 1, q1_, .ref q5_)]) [0, 1, 2, 3, 4, 5, 6, 7] rfl
      exact loop_493 (11) 0 1 x_488 (bd_sub kb_0 (by decide)) (bd_sub kb_1 (by decide)) h_489 (by have h9_0 := h_489; unfold bd at h9_0; have h9_1 := kb_0; unfold bd at h9_1; have h9_2 := kb_1; unfold bd at h9_2; have h9_3 := kb_1201; unfold bd at h9_3; have h9_4 := kb_3; unfold bd at h9_4; have h9_5 := kb_m1; unfold bd at h9_5; omega) _ _ _ _ g9  hl9
