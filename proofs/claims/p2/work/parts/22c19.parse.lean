set_option maxHeartbeats 4000000 in
set_option maxRecDepth 100000 in
theorem r_X2_readMemberHead (l : Launch) (dC : Nat → ClassId) (dI : Nat → Nat → Nat) (L : List Nat) (kd : Nat → Nat) (tys : List (ClassId × FieldType)) (f0 : Nat → va_E) (sz : Nat) (hWT : WT L kd tys f0) (a0_ : Nat) (ma0_ : a0_ ∈ L) (ka0_ : kd a0_ = 2) (q0_ : Nat) (mq0_ : q0_ ∈ L) (kq0_ : kd q0_ = 8) (q1_ : Nat) (mq1_ : q1_ ∈ L) (kq1_ : kd q1_ = 5) (q2_ : Nat) (mq2_ : q2_ ∈ L) (kq2_ : kd q2_ = 7) (q3_ : Nat) (mq3_ : q3_ ∈ L) (kq3_ : kd q3_ = 9) (q4_ : Nat) (mq4_ : q4_ ∈ L) (kq4_ : kd q4_ = 6) (q5_ : Nat) (mq5_ : q5_ ∈ L) (kq5_ : kd q5_ = 9) (y0_ : Int32) (by0_ : bd 0 0 y0_) (hfx : Fs L kd f0 [(2, 0, a0_, .ref q0_), (2, 1, a0_, .ref q1_), (2, 3, a0_, .ref q2_), (2, 4, a0_, .ref q3_), (2, 5, a0_, .ref q4_), (5, 1, q1_, .ref q5_), (8, 8, q0_, .int y0_)]) : Met l yX2_readMemberHead (.code yX2_readMemberHead cX2_readMemberHead 8 none :: lw_g) ({ frames := 3, cells := 0, slots := 0, locals := 72 }) (va_Pc [.ref a0_] (P3 (dC, dI) L tys f0 sz)) (va_Qv (fun (f : Nat → va_E) => (∃ z0_ : Int32, bd 1 1201 z0_ ∧ ∃ z1_ : Int32, bd 0 0 z1_ ∧ ∃ z3_ : Int32, bd 1 12 z3_ ∧ ∃ z4_ : Nat, (z4_ ∈ L ∧ kd z4_ = 6) ∧ ∃ z5_ : Int32, bd 1 96 z5_ ∧ ∃ z6_ : Int32, bd 0 0 z6_ ∧ Fs L kd f [(8, 6, q0_, .int z0_), (8, 8, q0_, .int z1_), (2, 6, a0_, .int 0), (9, 8, q3_, .int z3_), (2, 5, a0_, .ref z4_), (7, 3, q2_, .int z5_), (6, 12, z4_, .int z6_)]) ∨ (∃ z0_ : Int32, bd 1201 1201 z0_ ∧ ∃ z1_ : Int32, bd 1 7 z1_ ∧ ∃ z2_ : Nat, (z2_ ∈ L ∧ kd z2_ = 6) ∧ Fs L kd f [(8, 6, q0_, .int z0_), (8, 8, q0_, .int z1_), (2, 5, a0_, .ref z2_)])) (Q3 (dC, dI) L kd tys [(2, 5), (2, 6), (5, 4), (6, 0), (6, 1), (6, 2), (6, 3), (6, 6), (6, 7), (6, 8), (6, 9), (6, 10), (6, 11), (6, 12), (7, 3), (8, 6), (8, 8), (8, 9), (9, 8)] [132, 134, 135, 156] f0 sz) (pA L sz)) 0 0 (pA L sz) := by
  refine Met.ofW (cc := cX2_readMemberHead) (maxL := 8) (ret := none) (by decide) rfl ?_
  intro p e s m args below meth c s₁ B hml hv
  obtain ⟨rfl, hsz, hP, hK, hD0⟩ := hv
  have hx := B.exec
  have hb := B.bytes
  have hr := B.returns
  have hts := atoms_spec (ws := (.code yX2_readMemberHead cX2_readMemberHead 8 none :: lw_g)) B.pre
  have hown : s.vm.findClass RX2 = some m.cls := findClass_of_methodNamed B.named
  have hlocks := B.notSynchronized
  subst hsz
  have g : G3 (dC, dI) L kd tys s f0 [(2, 5), (2, 6), (5, 4), (6, 0), (6, 1), (6, 2), (6, 3), (6, 6), (6, 7), (6, 8), (6, 9), (6, 10), (6, 11), (6, 12), (7, 3), (8, 6), (8, 8), (8, 9), (9, 8)] [132, 134, 135, 156] f0 s.heap [] [(2, 0, a0_, .ref q0_), (2, 1, a0_, .ref q1_), (2, 3, a0_, .ref q2_), (2, 4, a0_, .ref q3_), (2, 5, a0_, .ref q4_), (5, 1, q1_, .ref q5_), (8, 8, q0_, .int y0_)] := G3.start hP hD0 hWT hfx
  have hl := lv_entry ([.ref a0_]) (n := 8) (Nat.le_of_ble_eq_true rfl)
  rw [lg_entry_eq]
  generalize (lg_sl ([.ref a0_]) ++ List.replicate (8 - (lg_sl ([.ref a0_])).length) Slot.unset).toArray = ls at hl ⊢
  have hl : lv_has ls 8 [(0, .ref a0_)] := hl
  refine W_q (fun Q hQ => ?_)
  refine lv_aload_n hx hb dX2_readMemberHead_0 rfl (lv_at hl 0 rfl) ?_
  refine g_getk (C := RX2) (T := TX2) (N := 16) hx hb hts (mc_ inX2) hown hK g rfl 0 (by decide) rfl (hts _ (List.mem_cons_of_mem _ t_416)) (fun _ h9 => h9) 0 rfl dX2_readMemberHead_1 ?_
  refine g_callv (va_runV (As := []) (rest := []) ⟨hx, hb, hml, hown, hts⟩ (r_X8_next l dC dI L kd tys f0 s.heap.size g.2.2.2.1 q0_ mq0_ kq0_) (cwV 0 hts (gV_ t_1131 t_1103 t_1104 t_184 t_1105) rfl rfl rfl (by decide +kernel) ⟨(Nat.le_of_ble_eq_true rfl), (Nat.le_of_ble_eq_true rfl)⟩) (pre3V g hK mq0_ kq0_ (by decide) (q := (RX8, TX8, 10)) rfl) rfl rfl hl.1 rfl (lv_room (Nat.le_of_ble_eq_true rfl)) dX2_readMemberHead_4 ⟨(Nat.le_of_ble_eq_true rfl), (Nat.le_of_ble_eq_true rfl)⟩) g hK (by decide) (by decide) (fx' := [(2, 0, a0_, .ref q0_), (2, 1, a0_, .ref q1_), (2, 3, a0_, .ref q2_), (2, 4, a0_, .ref q3_), (2, 5, a0_, .ref q4_), (5, 1, q1_, .ref q5_), (8, 8, q0_, .int y0_)]) rfl (fun fr_1 H locs hp hMr_1 g => ?_)
  obtain ⟨x_2, h_3, hF_4⟩ := hp
  have g := g.more hF_4
  refine lv_aload_n hx hb dX2_readMemberHead_7 rfl (lv_at hl 0 rfl) ?_
  refine g_getk (C := RX2) (T := TX2) (N := 16) hx hb hts (mc_ inX2) hown hK g rfl 0 (by decide) rfl (hts _ (List.mem_cons_of_mem _ t_416)) (fun _ h9 => h9) 1 rfl dX2_readMemberHead_8 ?_
  refine g_calli (va_runV (As := []) (rest := []) ⟨hx, hb, hml, hown, hts⟩ (r_X8_place l dC dI L kd tys fr_1 H.size g.2.2.2.1 q0_ mq0_ kq0_) (cwV 0 hts (gV_ t_1110 t_1111 t_1112 t_184 t_1113) rfl rfl rfl (by decide +kernel) ⟨(Nat.le_of_ble_eq_true rfl), (Nat.le_of_ble_eq_true rfl)⟩) (pre3V g hK mq0_ kq0_ (by decide) (q := (RX8, TX8, 10)) rfl) rfl rfl hl.1 rfl (lv_room (Nat.le_of_ble_eq_true rfl)) dX2_readMemberHead_11 ⟨(Nat.le_of_ble_eq_true rfl), (Nat.le_of_ble_eq_true rfl)⟩) g hK (by decide) (by decide) (fx' := [(8, 6, q0_, .int x_2), (2, 0, a0_, .ref q0_), (2, 1, a0_, .ref q1_), (2, 3, a0_, .ref q2_), (2, 4, a0_, .ref q3_), (2, 5, a0_, .ref q4_), (5, 1, q1_, .ref q5_), (8, 8, q0_, .int y0_)]) rfl (fun r_5 fr_5 H locs hp hMr_5 g => ?_)
  refine lv_istore_n (lv' := [(1, .int r_5), (0, .ref a0_)]) hx hb dX2_readMemberHead_14 rfl hl (by decide) rfl (fun ls hl => ?_)
  refine lv_aload_n hx hb dX2_readMemberHead_15 rfl (lv_at hl 1 rfl) ?_
  refine g_getk (C := RX2) (T := TX2) (N := 16) hx hb hts (mc_ inX2) hown hK g rfl 0 (by decide) rfl (hts _ (List.mem_cons_of_mem _ t_416)) (fun _ h9 => h9) 1 rfl dX2_readMemberHead_16 ?_
  refine g_calll (va_runV (As := []) (rest := []) ⟨hx, hb, hml, hown, hts⟩ (r_X8_value l dC dI L kd tys fr_5 H.size g.2.2.2.1 q0_ mq0_ kq0_) (cwV 0 hts (gV_ t_1114 t_1115 t_1116 t_184 t_1117) rfl rfl rfl (by decide +kernel) ⟨(Nat.le_of_ble_eq_true rfl), (Nat.le_of_ble_eq_true rfl)⟩) (pre3V g hK mq0_ kq0_ (by decide) (q := (RX8, TX8, 10)) rfl) rfl rfl hl.1 rfl (lv_room (Nat.le_of_ble_eq_true rfl)) dX2_readMemberHead_19 ⟨(Nat.le_of_ble_eq_true rfl), (Nat.le_of_ble_eq_true rfl)⟩) g hK (by decide) (by decide) (fx' := [(8, 6, q0_, .int x_2), (2, 0, a0_, .ref q0_), (2, 1, a0_, .ref q1_), (2, 3, a0_, .ref q2_), (2, 4, a0_, .ref q3_), (2, 5, a0_, .ref q4_), (5, 1, q1_, .ref q5_), (8, 8, q0_, .int y0_)]) rfl (fun r_6 fr_6 H locs hp hMr_6 g => ?_)
  refine lv_lstore_n (lv' := [(2, .long r_6), (1, .int r_5), (0, .ref a0_)]) hx hb dX2_readMemberHead_22 rfl hl (by decide) rfl (fun ls hl => ?_)
  refine lv_aload_n hx hb dX2_readMemberHead_23 rfl (lv_at hl 2 rfl) ?_
  refine g_getk (C := RX2) (T := TX2) (N := 16) hx hb hts (mc_ inX2) hown hK g rfl 3 (by decide) rfl (hts _ (List.mem_cons_of_mem _ t_419)) (fun _ h9 => h9) 3 rfl dX2_readMemberHead_24 ?_
  refine lv_aload_n hx hb dX2_readMemberHead_27 rfl (lv_at hl 2 rfl) ?_
  refine g_getk (C := RX2) (T := TX2) (N := 16) hx hb hts (mc_ inX2) hown hK g rfl 4 (by decide) rfl (hts _ (List.mem_cons_of_mem _ t_420)) (fun _ h9 => h9) 4 rfl dX2_readMemberHead_28 ?_
  refine lv_lload_n hx hb dX2_readMemberHead_31 rfl (lv_at hl 0 rfl) ?_
  refine g_calli (va_runV (As := [.ref q3_, .long r_6]) (rest := []) ⟨hx, hb, hml, hown, hts⟩ (r_X7_memberNamed l dC dI L kd tys fr_6 H.size g.2.2.2.1 q2_ mq2_ kq2_ q3_ mq3_ kq3_ r_6) (cwV 2 hts (gV_ t_1306 t_1244 t_1245 t_191 t_1246) rfl rfl rfl (by decide +kernel) ⟨(Nat.le_of_ble_eq_true rfl), (Nat.le_of_ble_eq_true rfl)⟩) (pre3V g hK mq2_ kq2_ (by decide) (q := (RX7, TX7, 19)) rfl) rfl rfl hl.1 rfl (lv_room (Nat.le_of_ble_eq_true rfl)) dX2_readMemberHead_32 ⟨(Nat.le_of_ble_eq_true rfl), (Nat.le_of_ble_eq_true rfl)⟩) g hK (by decide) (by decide) (fx' := [(8, 6, q0_, .int x_2), (2, 0, a0_, .ref q0_), (2, 1, a0_, .ref q1_), (2, 3, a0_, .ref q2_), (2, 4, a0_, .ref q3_), (2, 5, a0_, .ref q4_), (5, 1, q1_, .ref q5_), (8, 8, q0_, .int y0_)]) rfl (fun r_7 fr_7 H locs hp hMr_7 g => ?_)
  obtain ⟨h_8, -⟩ := hp
  refine lv_istore (lv' := [(4, .int r_7), (2, .long r_6), (1, .int r_5), (0, .ref a0_)]) hx hb dX2_readMemberHead_35 hl (by decide) rfl (fun ls hl => ?_)
  refine lv_iload hx hb dX2_readMemberHead_37 (lv_at hl 0 rfl) ?_
  refine lv_iconst (v := (-1)) hx hb dX2_readMemberHead_39 (by decide) ?_
  have kb_m1 : bd (-1) (-1) ((-1) : Int32) := ⟨by decide, by decide⟩
  refine lv_icmp_ne (tgt := 47) hx hb dX2_readMemberHead_40 (by decide) (fun c_9 => ?_) (fun c_9 => ?_)
  · have fc_9 := neq_f c_9
    have b_10 : bd 0 11 r_7 := neX fc_9 h_8 kb_m1 (by decide)
    refine lv_aload_n hx hb dX2_readMemberHead_47 rfl (lv_at hl 3 rfl) ?_
    refine g_getk (C := RX2) (T := TX2) (N := 16) hx hb hts (mc_ inX2) hown hK g rfl 4 (by decide) rfl (hts _ (List.mem_cons_of_mem _ t_420)) (fun _ h9 => h9) 4 rfl dX2_readMemberHead_48 ?_
    refine g_getr (K := 156) (C := RX9) (T := TX9) (N := 13) hx hb hts (mc_ inX9) hown hK g mq3_ kq3_ (by decide) rfl 9 (by decide) rfl (hts _ (List.mem_cons_of_mem _ t_510)) (fun _ h9 => h9) rfl dX2_readMemberHead_51 (fun a_11 ma_11 ka_11 g => ?_)
    refine lv_iload hx hb dX2_readMemberHead_54 (lv_at hl 0 rfl) ?_
    refine g_iald hx hb hK g ma_11 ka_11 (by decide) rfl (in_bd b_10 (by decide)) dX2_readMemberHead_56 (fun x_12 bx_12 cx_12 => ?_)
    refine lv_istore (lv' := [(5, .int x_12), (4, .int r_7), (2, .long r_6), (1, .int r_5), (0, .ref a0_)]) hx hb dX2_readMemberHead_57 hl (by decide) rfl (fun ls hl => ?_)
    refine lv_aload_n hx hb dX2_readMemberHead_59 rfl (lv_at hl 4 rfl) ?_
    refine g_getk (C := RX2) (T := TX2) (N := 16) hx hb hts (mc_ inX2) hown hK g rfl 0 (by decide) rfl (hts _ (List.mem_cons_of_mem _ t_416)) (fun _ h9 => h9) 2 rfl dX2_readMemberHead_60 ?_
    refine g_calli (va_runV (As := []) (rest := []) ⟨hx, hb, hml, hown, hts⟩ (r_X8_kind l dC dI L kd tys fr_7 H.size g.2.2.2.1 q0_ mq0_ kq0_) (cwV 0 hts (gV_ t_1118 t_1119 t_1120 t_184 t_1121) rfl rfl rfl (by decide +kernel) ⟨(Nat.le_of_ble_eq_true rfl), (Nat.le_of_ble_eq_true rfl)⟩) (pre3V g hK mq0_ kq0_ (by decide) (q := (RX8, TX8, 10)) rfl) rfl rfl hl.1 rfl (lv_room (Nat.le_of_ble_eq_true rfl)) dX2_readMemberHead_63 ⟨(Nat.le_of_ble_eq_true rfl), (Nat.le_of_ble_eq_true rfl)⟩) g hK (by decide) (by decide) (fx' := [(9, 9, q3_, .ref a_11), (8, 6, q0_, .int x_2), (2, 0, a0_, .ref q0_), (2, 1, a0_, .ref q1_), (2, 3, a0_, .ref q2_), (2, 4, a0_, .ref q3_), (2, 5, a0_, .ref q4_), (5, 1, q1_, .ref q5_), (8, 8, q0_, .int y0_)]) rfl (fun r_13 fr_13 H locs hp hMr_13 g => ?_)
    refine lv_iconst (v := 3) hx hb dX2_readMemberHead_66 (by decide) ?_
    have kb_3 : bd 3 3 (3 : Int32) := ⟨by decide, by decide⟩
    refine lv_icmp_eq (tgt := 82) hx hb dX2_readMemberHead_67 (by decide) (fun c_14 => ?_) (fun c_14 => ?_)
    · have fc_14 := eq_f c_14
      have b_15 : bd 3 3 r_13 := eqX fc_14 (bdT r_13) kb_3 (by decide)
      refine lv_iload hx hb dX2_readMemberHead_82 (lv_at hl 0 rfl) ?_
      refine lv_iconst (v := (-1)) hx hb dX2_readMemberHead_84 (by decide) ?_
      refine lv_icmp_eq (tgt := 123) hx hb dX2_readMemberHead_85 (by decide) (fun c_16 => ?_) (fun c_16 => ?_)
      · have fc_16 := eq_f c_16
        have b_17 : bd 0 (-1) x_12 := eqX fc_16 bx_12 kb_m1 (by decide)
        exact bd_no b_17 (by decide)
      · have fc_16 := neq_f c_16
        refine lv_aload_n hx hb dX2_readMemberHead_88 rfl (lv_at hl 4 rfl) ?_
        refine g_getk (C := RX2) (T := TX2) (N := 16) hx hb hts (mc_ inX2) hown hK g rfl 3 (by decide) rfl (hts _ (List.mem_cons_of_mem _ t_419)) (fun _ h9 => h9) 4 rfl dX2_readMemberHead_89 ?_
        refine g_getr (K := 137) (C := RX7) (T := TX7) (N := 19) hx hb hts (mc_ inX7) hown hK g mq2_ kq2_ (by decide) rfl 2 (by decide) rfl (hts _ (List.mem_cons_of_mem _ t_630)) (fun _ h9 => h9) rfl dX2_readMemberHead_92 (fun a_18 ma_18 ka_18 g => ?_)
        refine lv_iload hx hb dX2_readMemberHead_95 (lv_at hl 0 rfl) ?_
        refine g_aald hx hb hK g ma_18 ka_18 (by decide) rfl (by decide) (in_bd bx_12 (by decide)) dX2_readMemberHead_97 (fun a_19 ma_19 ua_19 wa_19 => ?_)
        have ka_19 : kd a_19 = 6 := by omega
        refine g_geti (C := RX6) (T := TX6) (N := 13) hx hb hts (mc_ inX6) hown hK g ma_19 ka_19 (by decide) rfl 2 (by decide) rfl (hts _ (List.mem_cons_of_mem _ t_561)) (fun _ h9 => h9) rfl dX2_readMemberHead_98 (fun x_20 bx_20 g => ?_)
        refine lv_aload_n hx hb dX2_readMemberHead_101 rfl (lv_at hl 4 rfl) ?_
        refine g_getk (C := RX2) (T := TX2) (N := 16) hx hb hts (mc_ inX2) hown hK g rfl 1 (by decide) rfl (hts _ (List.mem_cons_of_mem _ t_417)) (fun _ h9 => h9) 5 rfl dX2_readMemberHead_102 ?_
        refine g_geti (C := RX5) (T := TX5) (N := 9) hx hb hts (mc_ inX5) hown hK g mq1_ kq1_ (by decide) rfl 2 (by decide) rfl (hts _ (List.mem_cons_of_mem _ t_333)) (fun _ h9 => h9) rfl dX2_readMemberHead_105 (fun x_21 bx_21 g => ?_)
        refine lv_icmp_ne (tgt := 123) hx hb dX2_readMemberHead_108 (by decide) (fun c_22 => ?_) (fun c_22 => ?_)
        · have fc_22 := neq_f c_22
          refine lv_iload hx hb dX2_readMemberHead_123 (lv_at hl 0 rfl) ?_
          refine lv_iconst (v := (-1)) hx hb dX2_readMemberHead_125 (by decide) ?_
          refine lv_icmp_ne (tgt := 153) hx hb dX2_readMemberHead_126 (by decide) (fun c_23 => ?_) (fun c_23 => ?_)
          · have fc_23 := neq_f c_23
            refine lv_aload_n hx hb dX2_readMemberHead_153 rfl (lv_at hl 4 rfl) ?_
            refine lv_lload_n hx hb dX2_readMemberHead_154 rfl (lv_at hl 2 rfl) ?_
            refine lv_iload_n hx hb dX2_readMemberHead_155 rfl (lv_at hl 3 rfl) ?_
            refine lv_iload hx hb dX2_readMemberHead_156 (lv_at hl 1 rfl) ?_
            refine g_callv (va_runV (As := [.long r_6, .int r_5, .int r_7]) (rest := []) ⟨hx, hb, hml, hown, hts⟩ (r_X2_beginTelling l dC dI L kd tys fr_13 H.size g.2.2.2.1 a0_ ma0_ ka0_ r_6 r_5 r_7 b_10 q0_ mq0_ kq0_ q2_ mq2_ kq2_ q3_ mq3_ kq3_ y0_ by0_ (g.fcts [5, 7, 8, 11] rfl)) (cwV 3 hts (gV_ t_1307 t_1309 t_33 t_183 t_1310) rfl rfl rfl (by decide +kernel) ⟨(Nat.le_of_ble_eq_true rfl), (Nat.le_of_ble_eq_true rfl)⟩) (pre3V g hK ma0_ ka0_ (by decide) (q := (RX2, TX2, 16)) rfl) rfl rfl hl.1 rfl (lv_room (Nat.le_of_ble_eq_true rfl)) dX2_readMemberHead_158 ⟨(Nat.le_of_ble_eq_true rfl), (Nat.le_of_ble_eq_true rfl)⟩) g hK (by decide) (by decide) (fx' := [(5, 2, q1_, .int x_21), (7, 2, q2_, .ref a_18), (9, 9, q3_, .ref a_11), (8, 6, q0_, .int x_2), (2, 0, a0_, .ref q0_), (2, 1, a0_, .ref q1_), (2, 3, a0_, .ref q2_), (2, 4, a0_, .ref q3_), (5, 1, q1_, .ref q5_), (8, 8, q0_, .int y0_)]) rfl (fun fr_24 H locs hp hMr_24 g => ?_)
            obtain ⟨x_25, h_26, a_27, ⟨ma_27, ka_27⟩, x_28, h_29, x_30, h_31, hF_32⟩ := hp
            have g := g.more hF_32
            refine lv_aload_n hx hb dX2_readMemberHead_161 rfl (lv_at hl 4 rfl) ?_
            refine g_getk (C := RX2) (T := TX2) (N := 16) hx hb hts (mc_ inX2) hown hK g rfl 0 (by decide) rfl (hts _ (List.mem_cons_of_mem _ t_416)) (fun _ h9 => h9) 9 rfl dX2_readMemberHead_162 ?_
            refine g_callv (va_runV (As := []) (rest := []) ⟨hx, hb, hml, hown, hts⟩ (r_X8_next l dC dI L kd tys fr_24 H.size g.2.2.2.1 q0_ mq0_ kq0_) (cwV 0 hts (gV_ t_1131 t_1103 t_1104 t_184 t_1105) rfl rfl rfl (by decide +kernel) ⟨(Nat.le_of_ble_eq_true rfl), (Nat.le_of_ble_eq_true rfl)⟩) (pre3V g hK mq0_ kq0_ (by decide) (q := (RX8, TX8, 10)) rfl) rfl rfl hl.1 rfl (lv_room (Nat.le_of_ble_eq_true rfl)) dX2_readMemberHead_165 ⟨(Nat.le_of_ble_eq_true rfl), (Nat.le_of_ble_eq_true rfl)⟩) g hK (by decide) (by decide) (fx' := [(2, 6, a0_, .int 0), (9, 8, q3_, .int x_25), (2, 5, a0_, .ref a_27), (7, 3, q2_, .int x_28), (6, 12, a_27, .int x_30), (5, 2, q1_, .int x_21), (7, 2, q2_, .ref a_18), (9, 9, q3_, .ref a_11), (2, 0, a0_, .ref q0_), (2, 1, a0_, .ref q1_), (2, 3, a0_, .ref q2_), (2, 4, a0_, .ref q3_), (5, 1, q1_, .ref q5_), (8, 8, q0_, .int y0_)]) rfl (fun fr_33 H locs hp hMr_33 g => ?_)
            obtain ⟨x_34, h_35, hF_36⟩ := hp
            have g := g.more hF_36
            refine lv_aload_n hx hb dX2_readMemberHead_168 rfl (lv_at hl 4 rfl) ?_
            refine g_getk (C := RX2) (T := TX2) (N := 16) hx hb hts (mc_ inX2) hown hK g rfl 0 (by decide) rfl (hts _ (List.mem_cons_of_mem _ t_416)) (fun _ h9 => h9) 9 rfl dX2_readMemberHead_169 ?_
            refine lv_bipush (v := 40) hx hb dX2_readMemberHead_172 (by decide) ?_
            refine g_callv (va_runV (As := [.int 40]) (rest := []) ⟨hx, hb, hml, hown, hts⟩ (r_X8_take l dC dI L kd tys fr_33 H.size g.2.2.2.1 q0_ mq0_ kq0_ 40 y0_ by0_ (g.fcts [14] rfl)) (cwV 1 hts (gV_ t_1098 t_1099 t_1100 t_184 t_1101) rfl rfl rfl (by decide +kernel) ⟨(Nat.le_of_ble_eq_true rfl), (Nat.le_of_ble_eq_true rfl)⟩) (pre3V g hK mq0_ kq0_ (by decide) (q := (RX8, TX8, 10)) rfl) rfl rfl hl.1 rfl (lv_room (Nat.le_of_ble_eq_true rfl)) dX2_readMemberHead_174 ⟨(Nat.le_of_ble_eq_true rfl), (Nat.le_of_ble_eq_true rfl)⟩) g hK (by decide) (by decide) (fx' := [(2, 6, a0_, .int 0), (9, 8, q3_, .int x_25), (2, 5, a0_, .ref a_27), (7, 3, q2_, .int x_28), (6, 12, a_27, .int x_30), (5, 2, q1_, .int x_21), (7, 2, q2_, .ref a_18), (9, 9, q3_, .ref a_11), (2, 0, a0_, .ref q0_), (2, 1, a0_, .ref q1_), (2, 3, a0_, .ref q2_), (2, 4, a0_, .ref q3_), (5, 1, q1_, .ref q5_)]) rfl (fun fr_37 H locs hp hMr_37 g => ?_)
            rcases hp with ⟨x_38, h_39, x_40, h_41, hF_42⟩ | ⟨x_43, h_44, hF_45⟩
            · have g := g.more hF_42
              refine lv_aload_n hx hb dX2_readMemberHead_177 rfl (lv_at hl 4 rfl) ?_
              refine g_getk (C := RX2) (T := TX2) (N := 16) hx hb hts (mc_ inX2) hown hK g rfl 0 (by decide) rfl (hts _ (List.mem_cons_of_mem _ t_416)) (fun _ h9 => h9) 10 rfl dX2_readMemberHead_178 ?_
              refine g_calli (va_runV (As := []) (rest := []) ⟨hx, hb, hml, hown, hts⟩ (r_X8_kind l dC dI L kd tys fr_37 H.size g.2.2.2.1 q0_ mq0_ kq0_) (cwV 0 hts (gV_ t_1118 t_1119 t_1120 t_184 t_1121) rfl rfl rfl (by decide +kernel) ⟨(Nat.le_of_ble_eq_true rfl), (Nat.le_of_ble_eq_true rfl)⟩) (pre3V g hK mq0_ kq0_ (by decide) (q := (RX8, TX8, 10)) rfl) rfl rfl hl.1 rfl (lv_room (Nat.le_of_ble_eq_true rfl)) dX2_readMemberHead_181 ⟨(Nat.le_of_ble_eq_true rfl), (Nat.le_of_ble_eq_true rfl)⟩) g hK (by decide) (by decide) (fx' := [(8, 6, q0_, .int x_38), (8, 8, q0_, .int x_40), (2, 6, a0_, .int 0), (9, 8, q3_, .int x_25), (2, 5, a0_, .ref a_27), (7, 3, q2_, .int x_28), (6, 12, a_27, .int x_30), (5, 2, q1_, .int x_21), (7, 2, q2_, .ref a_18), (9, 9, q3_, .ref a_11), (2, 0, a0_, .ref q0_), (2, 1, a0_, .ref q1_), (2, 3, a0_, .ref q2_), (2, 4, a0_, .ref q3_), (5, 1, q1_, .ref q5_)]) rfl (fun r_46 fr_46 H locs hp hMr_46 g => ?_)
              refine lv_bipush (v := 41) hx hb dX2_readMemberHead_184 (by decide) ?_
              have kb_41 : bd 41 41 (41 : Int32) := ⟨by decide, by decide⟩
              refine lv_icmp_eq (tgt := 193) hx hb dX2_readMemberHead_186 (by decide) (fun c_47 => ?_) (fun c_47 => ?_)
              · have fc_47 := eq_f c_47
                have b_48 : bd 41 41 r_46 := eqX fc_47 (bdT r_46) kb_41 (by decide)
                refine lv_iconst (v := 0) hx hb dX2_readMemberHead_193 (by decide) ?_
                refine lv_istore (lv' := [(6, .int 0), (5, .int x_12), (4, .int r_7), (2, .long r_6), (1, .int r_5), (0, .ref a0_)]) hx hb dX2_readMemberHead_194 hl (by decide) rfl (fun ls hl => ?_)
                refine lv_iconst (v := 0) hx hb dX2_readMemberHead_196 (by decide) ?_
                refine lv_istore (lv' := [(7, .int 0), (6, .int 0), (5, .int x_12), (4, .int r_7), (2, .long r_6), (1, .int r_5), (0, .ref a0_)]) hx hb dX2_readMemberHead_197 hl (by decide) rfl (fun ls hl => ?_)
                refine lv_iload hx hb dX2_readMemberHead_199 (lv_at hl 0 rfl) ?_
                refine lv_iconst (v := 3) hx hb dX2_readMemberHead_201 (by decide) ?_
                refine lv_icmp_gt (tgt := 251) hx hb dX2_readMemberHead_202 (by decide) (fun c_ => absurd c_ (by decide)) (fun c_ => ?_)
                refine lv_iload hx hb dX2_readMemberHead_205 (lv_at hl 1 rfl) ?_
                refine lv_if_eq (tgt := 251) hx hb dX2_readMemberHead_207 (by decide) (fun c_ => ?_) (fun c_ => absurd (by decide) c_)
                refine lv_aload_n hx hb dX2_readMemberHead_251 rfl (lv_at hl 6 rfl) ?_
                refine g_getk (C := RX2) (T := TX2) (N := 16) hx hb hts (mc_ inX2) hown hK g rfl 0 (by decide) rfl (hts _ (List.mem_cons_of_mem _ t_416)) (fun _ h9 => h9) 10 rfl dX2_readMemberHead_252 ?_
                refine g_calli (va_runV (As := []) (rest := []) ⟨hx, hb, hml, hown, hts⟩ (r_X8_place l dC dI L kd tys fr_46 H.size g.2.2.2.1 q0_ mq0_ kq0_) (cwV 0 hts (gV_ t_1110 t_1111 t_1112 t_184 t_1113) rfl rfl rfl (by decide +kernel) ⟨(Nat.le_of_ble_eq_true rfl), (Nat.le_of_ble_eq_true rfl)⟩) (pre3V g hK mq0_ kq0_ (by decide) (q := (RX8, TX8, 10)) rfl) rfl rfl hl.1 rfl (lv_room (Nat.le_of_ble_eq_true rfl)) dX2_readMemberHead_255 ⟨(Nat.le_of_ble_eq_true rfl), (Nat.le_of_ble_eq_true rfl)⟩) g hK (by decide) (by decide) (fx' := [(8, 6, q0_, .int x_38), (8, 8, q0_, .int x_40), (2, 6, a0_, .int 0), (9, 8, q3_, .int x_25), (2, 5, a0_, .ref a_27), (7, 3, q2_, .int x_28), (6, 12, a_27, .int x_30), (5, 2, q1_, .int x_21), (7, 2, q2_, .ref a_18), (9, 9, q3_, .ref a_11), (2, 0, a0_, .ref q0_), (2, 1, a0_, .ref q1_), (2, 3, a0_, .ref q2_), (2, 4, a0_, .ref q3_), (5, 1, q1_, .ref q5_)]) rfl (fun r_49 fr_49 H locs hp hMr_49 g => ?_)
                refine lv_istore (lv' := [(7, .int r_49), (6, .int 0), (5, .int x_12), (4, .int r_7), (2, .long r_6), (1, .int r_5), (0, .ref a0_)]) hx hb dX2_readMemberHead_258 hl (by decide) rfl (fun ls hl => ?_)
                refine lv_aload_n hx hb dX2_readMemberHead_260 rfl (lv_at hl 6 rfl) ?_
                refine g_getk (C := RX2) (T := TX2) (N := 16) hx hb hts (mc_ inX2) hown hK g rfl 0 (by decide) rfl (hts _ (List.mem_cons_of_mem _ t_416)) (fun _ h9 => h9) 10 rfl dX2_readMemberHead_261 ?_
                refine lv_bipush (v := 41) hx hb dX2_readMemberHead_264 (by decide) ?_
                refine g_callv (va_runV (As := [.int 41]) (rest := []) ⟨hx, hb, hml, hown, hts⟩ (r_X8_take l dC dI L kd tys fr_49 H.size g.2.2.2.1 q0_ mq0_ kq0_ 41 x_40 h_41 (g.fcts [1] rfl)) (cwV 1 hts (gV_ t_1098 t_1099 t_1100 t_184 t_1101) rfl rfl rfl (by decide +kernel) ⟨(Nat.le_of_ble_eq_true rfl), (Nat.le_of_ble_eq_true rfl)⟩) (pre3V g hK mq0_ kq0_ (by decide) (q := (RX8, TX8, 10)) rfl) rfl rfl hl.1 rfl (lv_room (Nat.le_of_ble_eq_true rfl)) dX2_readMemberHead_266 ⟨(Nat.le_of_ble_eq_true rfl), (Nat.le_of_ble_eq_true rfl)⟩) g hK (by decide) (by decide) (fx' := [(2, 6, a0_, .int 0), (9, 8, q3_, .int x_25), (2, 5, a0_, .ref a_27), (7, 3, q2_, .int x_28), (6, 12, a_27, .int x_30), (5, 2, q1_, .int x_21), (7, 2, q2_, .ref a_18), (9, 9, q3_, .ref a_11), (2, 0, a0_, .ref q0_), (2, 1, a0_, .ref q1_), (2, 3, a0_, .ref q2_), (2, 4, a0_, .ref q3_), (5, 1, q1_, .ref q5_)]) rfl (fun fr_50 H locs hp hMr_50 g => ?_)
                rcases hp with ⟨x_51, h_52, x_53, h_54, hF_55⟩ | ⟨x_56, h_57, hF_58⟩
                · have g := g.more hF_55
                  refine lv_iload hx hb dX2_readMemberHead_269 (lv_at hl 2 rfl) ?_
                  refine lv_iconst (v := (-1)) hx hb dX2_readMemberHead_271 (by decide) ?_
                  refine lv_icmp_eq (tgt := 308) hx hb dX2_readMemberHead_272 (by decide) (fun c_59 => ?_) (fun c_59 => ?_)
                  · have fc_59 := eq_f c_59
                    have b_60 : bd 0 (-1) x_12 := eqX fc_59 bx_12 kb_m1 (by decide)
                    exact bd_no b_60 (by decide)
                  · have fc_59 := neq_f c_59
                    refine lv_aload_n hx hb dX2_readMemberHead_275 rfl (lv_at hl 6 rfl) ?_
                    refine g_getk (C := RX2) (T := TX2) (N := 16) hx hb hts (mc_ inX2) hown hK g rfl 3 (by decide) rfl (hts _ (List.mem_cons_of_mem _ t_419)) (fun _ h9 => h9) 12 rfl dX2_readMemberHead_276 ?_
                    refine g_getk (C := RX7) (T := TX7) (N := 19) hx hb hts (mc_ inX7) hown hK g rfl 2 (by decide) rfl (hts _ (List.mem_cons_of_mem _ t_630)) (fun _ h9 => h9) 8 rfl dX2_readMemberHead_279 ?_
                    refine lv_iload hx hb dX2_readMemberHead_282 (lv_at hl 2 rfl) ?_
                    refine g_aald hx hb hK g ma_18 ka_18 (by decide) rfl (by decide) (in_bd bx_12 (by decide)) dX2_readMemberHead_284 (fun a_61 ma_61 ua_61 wa_61 => ?_)
                    have ka_61 : kd a_61 = 6 := by omega
                    refine g_geti (C := RX6) (T := TX6) (N := 13) hx hb hts (mc_ inX6) hown hK g ma_61 ka_61 (by decide) rfl 3 (by decide) rfl (hts _ (List.mem_cons_of_mem _ t_568)) (fun _ h9 => h9) rfl dX2_readMemberHead_285 (fun x_62 bx_62 g => ?_)
                    refine lv_aload_n hx hb dX2_readMemberHead_288 rfl (lv_at hl 6 rfl) ?_
                    refine g_getk (C := RX2) (T := TX2) (N := 16) hx hb hts (mc_ inX2) hown hK g rfl 5 (by decide) rfl (hts _ (List.mem_cons_of_mem _ t_421)) (fun _ h9 => h9) 5 rfl dX2_readMemberHead_289 ?_
                    refine g_geti (C := RX6) (T := TX6) (N := 13) hx hb hts (mc_ inX6) hown hK g ma_27 ka_27 (by decide) rfl 3 (by decide) rfl (hts _ (List.mem_cons_of_mem _ t_568)) (fun _ h9 => h9) rfl dX2_readMemberHead_292 (fun x_63 bx_63 g => ?_)
                    refine lv_icmp_eq (tgt := 308) hx hb dX2_readMemberHead_295 (by decide) (fun c_64 => ?_) (fun c_64 => ?_)
                    · have fc_64 := eq_f c_64
                      subst hQ
                      exact W.vret hx hb hr (fun t ht hW => ⟨⟨_, rfl, Or.inl ⟨x_51, h_52, x_53, h_54, x_25, h_26, a_27, ⟨ma_27, ka_27⟩, x_28, h_29, x_30, h_31, (g.fcts [2, 3, 4, 5, 6, 7, 8] rfl)⟩, q3_of g hK ht hW⟩, g.2.2.1.F ht⟩) g.2.2.1.2.2 dX2_readMemberHead_308
                    · have fc_64 := neq_f c_64
                      refine lv_aload_n hx hb dX2_readMemberHead_298 rfl (lv_at hl 6 rfl) ?_
                      refine g_getk (C := RX2) (T := TX2) (N := 16) hx hb hts (mc_ inX2) hown hK g rfl 0 (by decide) rfl (hts _ (List.mem_cons_of_mem _ t_416)) (fun _ h9 => h9) 12 rfl dX2_readMemberHead_299 ?_
                      refine lv_iconst (v := 5) hx hb dX2_readMemberHead_302 (by decide) ?_
                      refine lv_iload hx hb dX2_readMemberHead_303 (lv_at hl 0 rfl) ?_
                      have kb_5 : bd 5 5 (5 : Int32) := ⟨by decide, by decide⟩
                      refine g_callv (va_runV (As := [.int 5, .int r_49]) (rest := []) ⟨hx, hb, hml, hown, hts⟩ (r_X8_fail l dC dI L kd tys fr_50 H.size g.2.2.2.1 q0_ mq0_ kq0_ 5 (bd_sub kb_5 (by decide)) r_49 x_53 h_54 (g.fcts [3] rfl)) (cwV 2 hts (gV_ t_1122 t_1107 t_1108 t_184 t_1109) rfl rfl rfl (by decide +kernel) ⟨(Nat.le_of_ble_eq_true rfl), (Nat.le_of_ble_eq_true rfl)⟩) (pre3V g hK mq0_ kq0_ (by decide) (q := (RX8, TX8, 10)) rfl) rfl rfl hl.1 rfl (lv_room (Nat.le_of_ble_eq_true rfl)) dX2_readMemberHead_305 ⟨(Nat.le_of_ble_eq_true rfl), (Nat.le_of_ble_eq_true rfl)⟩) g hK (by decide) (by decide) (fx' := [(6, 3, a_27, .int x_63), (6, 3, a_61, .int x_62), (2, 6, a0_, .int 0), (9, 8, q3_, .int x_25), (2, 5, a0_, .ref a_27), (7, 3, q2_, .int x_28), (6, 12, a_27, .int x_30), (5, 2, q1_, .int x_21), (7, 2, q2_, .ref a_18), (9, 9, q3_, .ref a_11), (2, 0, a0_, .ref q0_), (2, 1, a0_, .ref q1_), (2, 3, a0_, .ref q2_), (2, 4, a0_, .ref q3_), (5, 1, q1_, .ref q5_)]) rfl (fun fr_65 H locs hp hMr_65 g => ?_)
                      obtain ⟨x_66, h_67, hF_68⟩ := hp
                      have g := g.more hF_68
                      have kb_1201 : bd 1201 1201 (1201 : Int32) := ⟨by decide, by decide⟩
                      subst hQ
                      exact W.vret hx hb hr (fun t ht hW => ⟨⟨_, rfl, Or.inr (⟨1201, kb_1201, x_66, h_67, a_27, ⟨ma_27, ka_27⟩, (g.fcts [0, 1, 6] rfl)⟩), q3_of g hK ht hW⟩, g.2.2.1.F ht⟩) g.2.2.1.2.2 dX2_readMemberHead_308
                · have g := g.more hF_58
                  refine lv_iload hx hb dX2_readMemberHead_269 (lv_at hl 2 rfl) ?_
                  refine lv_iconst (v := (-1)) hx hb dX2_readMemberHead_271 (by decide) ?_
                  refine lv_icmp_eq (tgt := 308) hx hb dX2_readMemberHead_272 (by decide) (fun c_69 => ?_) (fun c_69 => ?_)
                  · have fc_69 := eq_f c_69
                    have b_70 : bd 0 (-1) x_12 := eqX fc_69 bx_12 kb_m1 (by decide)
                    exact bd_no b_70 (by decide)
                  · have fc_69 := neq_f c_69
                    refine lv_aload_n hx hb dX2_readMemberHead_275 rfl (lv_at hl 6 rfl) ?_
                    refine g_getk (C := RX2) (T := TX2) (N := 16) hx hb hts (mc_ inX2) hown hK g rfl 3 (by decide) rfl (hts _ (List.mem_cons_of_mem _ t_419)) (fun _ h9 => h9) 12 rfl dX2_readMemberHead_276 ?_
                    refine g_getk (C := RX7) (T := TX7) (N := 19) hx hb hts (mc_ inX7) hown hK g rfl 2 (by decide) rfl (hts _ (List.mem_cons_of_mem _ t_630)) (fun _ h9 => h9) 8 rfl dX2_readMemberHead_279 ?_
                    refine lv_iload hx hb dX2_readMemberHead_282 (lv_at hl 2 rfl) ?_
                    refine g_aald hx hb hK g ma_18 ka_18 (by decide) rfl (by decide) (in_bd bx_12 (by decide)) dX2_readMemberHead_284 (fun a_71 ma_71 ua_71 wa_71 => ?_)
                    have ka_71 : kd a_71 = 6 := by omega
                    refine g_geti (C := RX6) (T := TX6) (N := 13) hx hb hts (mc_ inX6) hown hK g ma_71 ka_71 (by decide) rfl 3 (by decide) rfl (hts _ (List.mem_cons_of_mem _ t_568)) (fun _ h9 => h9) rfl dX2_readMemberHead_285 (fun x_72 bx_72 g => ?_)
                    refine lv_aload_n hx hb dX2_readMemberHead_288 rfl (lv_at hl 6 rfl) ?_
                    refine g_getk (C := RX2) (T := TX2) (N := 16) hx hb hts (mc_ inX2) hown hK g rfl 5 (by decide) rfl (hts _ (List.mem_cons_of_mem _ t_421)) (fun _ h9 => h9) 5 rfl dX2_readMemberHead_289 ?_
                    refine g_geti (C := RX6) (T := TX6) (N := 13) hx hb hts (mc_ inX6) hown hK g ma_27 ka_27 (by decide) rfl 3 (by decide) rfl (hts _ (List.mem_cons_of_mem _ t_568)) (fun _ h9 => h9) rfl dX2_readMemberHead_292 (fun x_73 bx_73 g => ?_)
                    refine lv_icmp_eq (tgt := 308) hx hb dX2_readMemberHead_295 (by decide) (fun c_74 => ?_) (fun c_74 => ?_)
                    · have fc_74 := eq_f c_74
                      have kb_1201 : bd 1201 1201 (1201 : Int32) := ⟨by decide, by decide⟩
                      subst hQ
                      exact W.vret hx hb hr (fun t ht hW => ⟨⟨_, rfl, Or.inr (⟨1201, kb_1201, x_56, h_57, a_27, ⟨ma_27, ka_27⟩, (g.fcts [2, 3, 6] rfl)⟩), q3_of g hK ht hW⟩, g.2.2.1.F ht⟩) g.2.2.1.2.2 dX2_readMemberHead_308
                    · have fc_74 := neq_f c_74
                      refine lv_aload_n hx hb dX2_readMemberHead_298 rfl (lv_at hl 6 rfl) ?_
                      refine g_getk (C := RX2) (T := TX2) (N := 16) hx hb hts (mc_ inX2) hown hK g rfl 0 (by decide) rfl (hts _ (List.mem_cons_of_mem _ t_416)) (fun _ h9 => h9) 12 rfl dX2_readMemberHead_299 ?_
                      refine lv_iconst (v := 5) hx hb dX2_readMemberHead_302 (by decide) ?_
                      refine lv_iload hx hb dX2_readMemberHead_303 (lv_at hl 0 rfl) ?_
                      have kb_5 : bd 5 5 (5 : Int32) := ⟨by decide, by decide⟩
                      refine g_callv (va_runV (As := [.int 5, .int r_49]) (rest := []) ⟨hx, hb, hml, hown, hts⟩ (r_X8_fail_2 l dC dI L kd tys fr_50 H.size g.2.2.2.1 q0_ mq0_ kq0_ 5 (bd_sub kb_5 (by decide)) r_49 x_56 h_57 (g.fcts [3] rfl)) (cwV 2 hts (gV_ t_1122 t_1107 t_1108 t_184 t_1109) rfl rfl rfl (by decide +kernel) ⟨(Nat.le_of_ble_eq_true rfl), (Nat.le_of_ble_eq_true rfl)⟩) (pre3V g hK mq0_ kq0_ (by decide) (q := (RX8, TX8, 10)) rfl) rfl rfl hl.1 rfl (lv_room (Nat.le_of_ble_eq_true rfl)) dX2_readMemberHead_305 ⟨(Nat.le_of_ble_eq_true rfl), (Nat.le_of_ble_eq_true rfl)⟩) g hK (by decide) (by decide) (fx' := [(6, 3, a_27, .int x_73), (6, 3, a_71, .int x_72), (8, 8, q0_, .int x_56), (2, 6, a0_, .int 0), (9, 8, q3_, .int x_25), (2, 5, a0_, .ref a_27), (7, 3, q2_, .int x_28), (6, 12, a_27, .int x_30), (5, 2, q1_, .int x_21), (7, 2, q2_, .ref a_18), (9, 9, q3_, .ref a_11), (2, 0, a0_, .ref q0_), (2, 1, a0_, .ref q1_), (2, 3, a0_, .ref q2_), (2, 4, a0_, .ref q3_), (5, 1, q1_, .ref q5_)]) rfl (fun fr_75 H locs hp hMr_75 g => ?_)
                      have hF_76 := hp
                      have g := g.more hF_76
                      have kb_1201 : bd 1201 1201 (1201 : Int32) := ⟨by decide, by decide⟩
                      subst hQ
                      exact W.vret hx hb hr (fun t ht hW => ⟨⟨_, rfl, Or.inr (⟨1201, kb_1201, x_56, h_57, a_27, ⟨ma_27, ka_27⟩, (g.fcts [0, 3, 6] rfl)⟩), q3_of g hK ht hW⟩, g.2.2.1.F ht⟩) g.2.2.1.2.2 dX2_readMemberHead_308
              · have fc_47 := neq_f c_47
                refine lv_iconst (v := 1) hx hb dX2_readMemberHead_189 (by decide) ?_
                refine lv_goto (tgt := 194) hx hb dX2_readMemberHead_190 (by decide) ?_
                refine lv_istore (lv' := [(6, .int 1), (5, .int x_12), (4, .int r_7), (2, .long r_6), (1, .int r_5), (0, .ref a0_)]) hx hb dX2_readMemberHead_194 hl (by decide) rfl (fun ls hl => ?_)
                refine lv_iconst (v := 0) hx hb dX2_readMemberHead_196 (by decide) ?_
                refine lv_istore (lv' := [(7, .int 0), (6, .int 1), (5, .int x_12), (4, .int r_7), (2, .long r_6), (1, .int r_5), (0, .ref a0_)]) hx hb dX2_readMemberHead_197 hl (by decide) rfl (fun ls hl => ?_)
                have loop_77 : ∀ (n : Nat) (v199_7 : Int32) (v199_6 : Int32) (w199_8_6_q0_ : Int32) (w199_8_8_q0_ : Int32), bd 0 4 v199_7 → bd 0 1 v199_6 → bd 1 1201 w199_8_6_q0_ → bd 0 0 w199_8_8_q0_ → (4 - v199_7.toInt < (n : Int)) → ∀ (f : Nat → va_E) (H : Heap) (locs : List Loc) (ls : Array Slot), G3 (dC, dI) L kd tys s f0 [(2, 5), (2, 6), (5, 4), (6, 0), (6, 1), (6, 2), (6, 3), (6, 6), (6, 7), (6, 8), (6, 9), (6, 10), (6, 11), (6, 12), (7, 3), (8, 6), (8, 8), (8, 9), (9, 8)] [132, 134, 135, 156] f H locs [(8, 6, q0_, .int w199_8_6_q0_), (8, 8, q0_, .int w199_8_8_q0_), (2, 6, a0_, .int 0), (9, 8, q3_, .int x_25), (2, 5, a0_, .ref a_27), (7, 3, q2_, .int x_28), (6, 12, a_27, .int x_30), (5, 2, q1_, .int x_21), (7, 2, q2_, .ref a_18), (9, 9, q3_, .ref a_11), (2, 0, a0_, .ref q0_), (2, 1, a0_, .ref q1_), (2, 3, a0_, .ref q2_), (2, 4, a0_, .ref q3_), (5, 1, q1_, .ref q5_)] → lv_has ls 8 [(7, .int v199_7), (6, .int v199_6), (5, .int x_12), (4, .int r_7), (2, .long r_6), (1, .int r_5), (0, .ref a0_)] → W p l e ({ frames := 3, cells := 0, slots := 0, locals := 72 } : Room) s m [.ref a0_].toArray below meth c H locs 0 0 Q (F0 m 199 ls []) := by
                  intro n199
                  induction n199 with
                  | zero =>
                    intro v199_7 v199_6 w199_8_6_q0_ w199_8_8_q0_ bv199_7 bv199_6 bw199_8_6_q0_ bw199_8_8_q0_ hm199 f H locs ls g  hl
                    exact absurd hm199 (by have h9_v199_7 := bv199_7; unfold bd at h9_v199_7; have h9_v199_6 := bv199_6; unfold bd at h9_v199_6; have h9_w199_8_6_q0_ := bw199_8_6_q0_; unfold bd at h9_w199_8_6_q0_; have h9_w199_8_8_q0_ := bw199_8_8_q0_; unfold bd at h9_w199_8_8_q0_; omega)
                  | succ n199 ih199 =>
                    intro v199_7 v199_6 w199_8_6_q0_ w199_8_8_q0_ bv199_7 bv199_6 bw199_8_6_q0_ bw199_8_8_q0_ hm199 f H locs ls g  hl
                    refine lv_iload hx hb dX2_readMemberHead_199 (lv_at hl 0 rfl) ?_
                    refine lv_iconst (v := 3) hx hb dX2_readMemberHead_201 (by decide) ?_
                    refine lv_icmp_gt (tgt := 251) hx hb dX2_readMemberHead_202 (by decide) (fun c_78 => ?_) (fun c_78 => ?_)
                    · have fc_78 := lt_f c_78
                      have b_79 : bd 4 4 v199_7 := ltR fc_78 kb_3 bv199_7 (by decide)
                      refine lv_aload_n hx hb dX2_readMemberHead_251 rfl (lv_at hl 6 rfl) ?_
                      refine g_getk (C := RX2) (T := TX2) (N := 16) hx hb hts (mc_ inX2) hown hK g rfl 0 (by decide) rfl (hts _ (List.mem_cons_of_mem _ t_416)) (fun _ h9 => h9) 10 rfl dX2_readMemberHead_252 ?_
                      refine g_calli (va_runV (As := []) (rest := []) ⟨hx, hb, hml, hown, hts⟩ (r_X8_place l dC dI L kd tys f H.size g.2.2.2.1 q0_ mq0_ kq0_) (cwV 0 hts (gV_ t_1110 t_1111 t_1112 t_184 t_1113) rfl rfl rfl (by decide +kernel) ⟨(Nat.le_of_ble_eq_true rfl), (Nat.le_of_ble_eq_true rfl)⟩) (pre3V g hK mq0_ kq0_ (by decide) (q := (RX8, TX8, 10)) rfl) rfl rfl hl.1 rfl (lv_room (Nat.le_of_ble_eq_true rfl)) dX2_readMemberHead_255 ⟨(Nat.le_of_ble_eq_true rfl), (Nat.le_of_ble_eq_true rfl)⟩) g hK (by decide) (by decide) (fx' := [(8, 6, q0_, .int w199_8_6_q0_), (8, 8, q0_, .int w199_8_8_q0_), (2, 6, a0_, .int 0), (9, 8, q3_, .int x_25), (2, 5, a0_, .ref a_27), (7, 3, q2_, .int x_28), (6, 12, a_27, .int x_30), (5, 2, q1_, .int x_21), (7, 2, q2_, .ref a_18), (9, 9, q3_, .ref a_11), (2, 0, a0_, .ref q0_), (2, 1, a0_, .ref q1_), (2, 3, a0_, .ref q2_), (2, 4, a0_, .ref q3_), (5, 1, q1_, .ref q5_)]) rfl (fun r_80 fr_80 H locs hp hMr_80 g => ?_)
                      refine lv_istore (lv' := [(7, .int r_80), (6, .int v199_6), (5, .int x_12), (4, .int r_7), (2, .long r_6), (1, .int r_5), (0, .ref a0_)]) hx hb dX2_readMemberHead_258 hl (by decide) rfl (fun ls hl => ?_)
                      refine lv_aload_n hx hb dX2_readMemberHead_260 rfl (lv_at hl 6 rfl) ?_
                      refine g_getk (C := RX2) (T := TX2) (N := 16) hx hb hts (mc_ inX2) hown hK g rfl 0 (by decide) rfl (hts _ (List.mem_cons_of_mem _ t_416)) (fun _ h9 => h9) 10 rfl dX2_readMemberHead_261 ?_
                      refine lv_bipush (v := 41) hx hb dX2_readMemberHead_264 (by decide) ?_
                      refine g_callv (va_runV (As := [.int 41]) (rest := []) ⟨hx, hb, hml, hown, hts⟩ (r_X8_take l dC dI L kd tys fr_80 H.size g.2.2.2.1 q0_ mq0_ kq0_ 41 w199_8_8_q0_ bw199_8_8_q0_ (g.fcts [1] rfl)) (cwV 1 hts (gV_ t_1098 t_1099 t_1100 t_184 t_1101) rfl rfl rfl (by decide +kernel) ⟨(Nat.le_of_ble_eq_true rfl), (Nat.le_of_ble_eq_true rfl)⟩) (pre3V g hK mq0_ kq0_ (by decide) (q := (RX8, TX8, 10)) rfl) rfl rfl hl.1 rfl (lv_room (Nat.le_of_ble_eq_true rfl)) dX2_readMemberHead_266 ⟨(Nat.le_of_ble_eq_true rfl), (Nat.le_of_ble_eq_true rfl)⟩) g hK (by decide) (by decide) (fx' := [(2, 6, a0_, .int 0), (9, 8, q3_, .int x_25), (2, 5, a0_, .ref a_27), (7, 3, q2_, .int x_28), (6, 12, a_27, .int x_30), (5, 2, q1_, .int x_21), (7, 2, q2_, .ref a_18), (9, 9, q3_, .ref a_11), (2, 0, a0_, .ref q0_), (2, 1, a0_, .ref q1_), (2, 3, a0_, .ref q2_), (2, 4, a0_, .ref q3_), (5, 1, q1_, .ref q5_)]) rfl (fun fr_81 H locs hp hMr_81 g => ?_)
                      rcases hp with ⟨x_82, h_83, x_84, h_85, hF_86⟩ | ⟨x_87, h_88, hF_89⟩
                      · have g := g.more hF_86
                        refine lv_iload hx hb dX2_readMemberHead_269 (lv_at hl 2 rfl) ?_
                        refine lv_iconst (v := (-1)) hx hb dX2_readMemberHead_271 (by decide) ?_
                        refine lv_icmp_eq (tgt := 308) hx hb dX2_readMemberHead_272 (by decide) (fun c_90 => ?_) (fun c_90 => ?_)
                        · have fc_90 := eq_f c_90
                          have b_91 : bd 0 (-1) x_12 := eqX fc_90 bx_12 kb_m1 (by decide)
                          exact bd_no b_91 (by decide)
                        · have fc_90 := neq_f c_90
                          refine lv_aload_n hx hb dX2_readMemberHead_275 rfl (lv_at hl 6 rfl) ?_
                          refine g_getk (C := RX2) (T := TX2) (N := 16) hx hb hts (mc_ inX2) hown hK g rfl 3 (by decide) rfl (hts _ (List.mem_cons_of_mem _ t_419)) (fun _ h9 => h9) 12 rfl dX2_readMemberHead_276 ?_
                          refine g_getk (C := RX7) (T := TX7) (N := 19) hx hb hts (mc_ inX7) hown hK g rfl 2 (by decide) rfl (hts _ (List.mem_cons_of_mem _ t_630)) (fun _ h9 => h9) 8 rfl dX2_readMemberHead_279 ?_
                          refine lv_iload hx hb dX2_readMemberHead_282 (lv_at hl 2 rfl) ?_
                          refine g_aald hx hb hK g ma_18 ka_18 (by decide) rfl (by decide) (in_bd bx_12 (by decide)) dX2_readMemberHead_284 (fun a_92 ma_92 ua_92 wa_92 => ?_)
                          have ka_92 : kd a_92 = 6 := by omega
                          refine g_geti (C := RX6) (T := TX6) (N := 13) hx hb hts (mc_ inX6) hown hK g ma_92 ka_92 (by decide) rfl 3 (by decide) rfl (hts _ (List.mem_cons_of_mem _ t_568)) (fun _ h9 => h9) rfl dX2_readMemberHead_285 (fun x_93 bx_93 g => ?_)
                          refine lv_aload_n hx hb dX2_readMemberHead_288 rfl (lv_at hl 6 rfl) ?_
                          refine g_getk (C := RX2) (T := TX2) (N := 16) hx hb hts (mc_ inX2) hown hK g rfl 5 (by decide) rfl (hts _ (List.mem_cons_of_mem _ t_421)) (fun _ h9 => h9) 5 rfl dX2_readMemberHead_289 ?_
                          refine g_geti (C := RX6) (T := TX6) (N := 13) hx hb hts (mc_ inX6) hown hK g ma_27 ka_27 (by decide) rfl 3 (by decide) rfl (hts _ (List.mem_cons_of_mem _ t_568)) (fun _ h9 => h9) rfl dX2_readMemberHead_292 (fun x_94 bx_94 g => ?_)
                          refine lv_icmp_eq (tgt := 308) hx hb dX2_readMemberHead_295 (by decide) (fun c_95 => ?_) (fun c_95 => ?_)
                          · have fc_95 := eq_f c_95
                            subst hQ
                            exact W.vret hx hb hr (fun t ht hW => ⟨⟨_, rfl, Or.inl ⟨x_82, h_83, x_84, h_85, x_25, h_26, a_27, ⟨ma_27, ka_27⟩, x_28, h_29, x_30, h_31, (g.fcts [2, 3, 4, 5, 6, 7, 8] rfl)⟩, q3_of g hK ht hW⟩, g.2.2.1.F ht⟩) g.2.2.1.2.2 dX2_readMemberHead_308
                          · have fc_95 := neq_f c_95
                            refine lv_aload_n hx hb dX2_readMemberHead_298 rfl (lv_at hl 6 rfl) ?_
                            refine g_getk (C := RX2) (T := TX2) (N := 16) hx hb hts (mc_ inX2) hown hK g rfl 0 (by decide) rfl (hts _ (List.mem_cons_of_mem _ t_416)) (fun _ h9 => h9) 12 rfl dX2_readMemberHead_299 ?_
                            refine lv_iconst (v := 5) hx hb dX2_readMemberHead_302 (by decide) ?_
                            refine lv_iload hx hb dX2_readMemberHead_303 (lv_at hl 0 rfl) ?_
                            have kb_5 : bd 5 5 (5 : Int32) := ⟨by decide, by decide⟩
                            refine g_callv (va_runV (As := [.int 5, .int r_80]) (rest := []) ⟨hx, hb, hml, hown, hts⟩ (r_X8_fail l dC dI L kd tys fr_81 H.size g.2.2.2.1 q0_ mq0_ kq0_ 5 (bd_sub kb_5 (by decide)) r_80 x_84 h_85 (g.fcts [3] rfl)) (cwV 2 hts (gV_ t_1122 t_1107 t_1108 t_184 t_1109) rfl rfl rfl (by decide +kernel) ⟨(Nat.le_of_ble_eq_true rfl), (Nat.le_of_ble_eq_true rfl)⟩) (pre3V g hK mq0_ kq0_ (by decide) (q := (RX8, TX8, 10)) rfl) rfl rfl hl.1 rfl (lv_room (Nat.le_of_ble_eq_true rfl)) dX2_readMemberHead_305 ⟨(Nat.le_of_ble_eq_true rfl), (Nat.le_of_ble_eq_true rfl)⟩) g hK (by decide) (by decide) (fx' := [(6, 3, a_27, .int x_94), (6, 3, a_92, .int x_93), (2, 6, a0_, .int 0), (9, 8, q3_, .int x_25), (2, 5, a0_, .ref a_27), (7, 3, q2_, .int x_28), (6, 12, a_27, .int x_30), (5, 2, q1_, .int x_21), (7, 2, q2_, .ref a_18), (9, 9, q3_, .ref a_11), (2, 0, a0_, .ref q0_), (2, 1, a0_, .ref q1_), (2, 3, a0_, .ref q2_), (2, 4, a0_, .ref q3_), (5, 1, q1_, .ref q5_)]) rfl (fun fr_96 H locs hp hMr_96 g => ?_)
                            obtain ⟨x_97, h_98, hF_99⟩ := hp
                            have g := g.more hF_99
                            have kb_1201 : bd 1201 1201 (1201 : Int32) := ⟨by decide, by decide⟩
                            subst hQ
                            exact W.vret hx hb hr (fun t ht hW => ⟨⟨_, rfl, Or.inr (⟨1201, kb_1201, x_97, h_98, a_27, ⟨ma_27, ka_27⟩, (g.fcts [0, 1, 6] rfl)⟩), q3_of g hK ht hW⟩, g.2.2.1.F ht⟩) g.2.2.1.2.2 dX2_readMemberHead_308
                      · have g := g.more hF_89
                        refine lv_iload hx hb dX2_readMemberHead_269 (lv_at hl 2 rfl) ?_
                        refine lv_iconst (v := (-1)) hx hb dX2_readMemberHead_271 (by decide) ?_
                        refine lv_icmp_eq (tgt := 308) hx hb dX2_readMemberHead_272 (by decide) (fun c_100 => ?_) (fun c_100 => ?_)
                        · have fc_100 := eq_f c_100
                          have b_101 : bd 0 (-1) x_12 := eqX fc_100 bx_12 kb_m1 (by decide)
                          exact bd_no b_101 (by decide)
                        · have fc_100 := neq_f c_100
                          refine lv_aload_n hx hb dX2_readMemberHead_275 rfl (lv_at hl 6 rfl) ?_
                          refine g_getk (C := RX2) (T := TX2) (N := 16) hx hb hts (mc_ inX2) hown hK g rfl 3 (by decide) rfl (hts _ (List.mem_cons_of_mem _ t_419)) (fun _ h9 => h9) 12 rfl dX2_readMemberHead_276 ?_
                          refine g_getk (C := RX7) (T := TX7) (N := 19) hx hb hts (mc_ inX7) hown hK g rfl 2 (by decide) rfl (hts _ (List.mem_cons_of_mem _ t_630)) (fun _ h9 => h9) 8 rfl dX2_readMemberHead_279 ?_
                          refine lv_iload hx hb dX2_readMemberHead_282 (lv_at hl 2 rfl) ?_
                          refine g_aald hx hb hK g ma_18 ka_18 (by decide) rfl (by decide) (in_bd bx_12 (by decide)) dX2_readMemberHead_284 (fun a_102 ma_102 ua_102 wa_102 => ?_)
                          have ka_102 : kd a_102 = 6 := by omega
                          refine g_geti (C := RX6) (T := TX6) (N := 13) hx hb hts (mc_ inX6) hown hK g ma_102 ka_102 (by decide) rfl 3 (by decide) rfl (hts _ (List.mem_cons_of_mem _ t_568)) (fun _ h9 => h9) rfl dX2_readMemberHead_285 (fun x_103 bx_103 g => ?_)
                          refine lv_aload_n hx hb dX2_readMemberHead_288 rfl (lv_at hl 6 rfl) ?_
                          refine g_getk (C := RX2) (T := TX2) (N := 16) hx hb hts (mc_ inX2) hown hK g rfl 5 (by decide) rfl (hts _ (List.mem_cons_of_mem _ t_421)) (fun _ h9 => h9) 5 rfl dX2_readMemberHead_289 ?_
                          refine g_geti (C := RX6) (T := TX6) (N := 13) hx hb hts (mc_ inX6) hown hK g ma_27 ka_27 (by decide) rfl 3 (by decide) rfl (hts _ (List.mem_cons_of_mem _ t_568)) (fun _ h9 => h9) rfl dX2_readMemberHead_292 (fun x_104 bx_104 g => ?_)
                          refine lv_icmp_eq (tgt := 308) hx hb dX2_readMemberHead_295 (by decide) (fun c_105 => ?_) (fun c_105 => ?_)
                          · have fc_105 := eq_f c_105
                            have kb_1201 : bd 1201 1201 (1201 : Int32) := ⟨by decide, by decide⟩
                            subst hQ
                            exact W.vret hx hb hr (fun t ht hW => ⟨⟨_, rfl, Or.inr (⟨1201, kb_1201, x_87, h_88, a_27, ⟨ma_27, ka_27⟩, (g.fcts [2, 3, 6] rfl)⟩), q3_of g hK ht hW⟩, g.2.2.1.F ht⟩) g.2.2.1.2.2 dX2_readMemberHead_308
                          · have fc_105 := neq_f c_105
                            refine lv_aload_n hx hb dX2_readMemberHead_298 rfl (lv_at hl 6 rfl) ?_
                            refine g_getk (C := RX2) (T := TX2) (N := 16) hx hb hts (mc_ inX2) hown hK g rfl 0 (by decide) rfl (hts _ (List.mem_cons_of_mem _ t_416)) (fun _ h9 => h9) 12 rfl dX2_readMemberHead_299 ?_
                            refine lv_iconst (v := 5) hx hb dX2_readMemberHead_302 (by decide) ?_
                            refine lv_iload hx hb dX2_readMemberHead_303 (lv_at hl 0 rfl) ?_
                            have kb_5 : bd 5 5 (5 : Int32) := ⟨by decide, by decide⟩
                            refine g_callv (va_runV (As := [.int 5, .int r_80]) (rest := []) ⟨hx, hb, hml, hown, hts⟩ (r_X8_fail_2 l dC dI L kd tys fr_81 H.size g.2.2.2.1 q0_ mq0_ kq0_ 5 (bd_sub kb_5 (by decide)) r_80 x_87 h_88 (g.fcts [3] rfl)) (cwV 2 hts (gV_ t_1122 t_1107 t_1108 t_184 t_1109) rfl rfl rfl (by decide +kernel) ⟨(Nat.le_of_ble_eq_true rfl), (Nat.le_of_ble_eq_true rfl)⟩) (pre3V g hK mq0_ kq0_ (by decide) (q := (RX8, TX8, 10)) rfl) rfl rfl hl.1 rfl (lv_room (Nat.le_of_ble_eq_true rfl)) dX2_readMemberHead_305 ⟨(Nat.le_of_ble_eq_true rfl), (Nat.le_of_ble_eq_true rfl)⟩) g hK (by decide) (by decide) (fx' := [(6, 3, a_27, .int x_104), (6, 3, a_102, .int x_103), (8, 8, q0_, .int x_87), (2, 6, a0_, .int 0), (9, 8, q3_, .int x_25), (2, 5, a0_, .ref a_27), (7, 3, q2_, .int x_28), (6, 12, a_27, .int x_30), (5, 2, q1_, .int x_21), (7, 2, q2_, .ref a_18), (9, 9, q3_, .ref a_11), (2, 0, a0_, .ref q0_), (2, 1, a0_, .ref q1_), (2, 3, a0_, .ref q2_), (2, 4, a0_, .ref q3_), (5, 1, q1_, .ref q5_)]) rfl (fun fr_106 H locs hp hMr_106 g => ?_)
                            have hF_107 := hp
                            have g := g.more hF_107
                            have kb_1201 : bd 1201 1201 (1201 : Int32) := ⟨by decide, by decide⟩
                            subst hQ
                            exact W.vret hx hb hr (fun t ht hW => ⟨⟨_, rfl, Or.inr (⟨1201, kb_1201, x_87, h_88, a_27, ⟨ma_27, ka_27⟩, (g.fcts [0, 3, 6] rfl)⟩), q3_of g hK ht hW⟩, g.2.2.1.F ht⟩) g.2.2.1.2.2 dX2_readMemberHead_308
                    · have fc_78 := nlt_f c_78
                      have b_108 : bd 0 3 v199_7 := leL fc_78 bv199_7 kb_3 (by decide)
                      refine lv_iload hx hb dX2_readMemberHead_205 (lv_at hl 1 rfl) ?_
                      have kb_0 : bd 0 0 (0 : Int32) := ⟨by decide, by decide⟩
                      refine lv_if_eq (tgt := 251) hx hb dX2_readMemberHead_207 (by decide) (fun c_109 => ?_) (fun c_109 => ?_)
                      · have fc_109 := eq_f c_109
                        have b_110 : bd 0 0 v199_6 := eqX fc_109 bv199_6 kb_0 (by decide)
                        refine lv_aload_n hx hb dX2_readMemberHead_251 rfl (lv_at hl 6 rfl) ?_
                        refine g_getk (C := RX2) (T := TX2) (N := 16) hx hb hts (mc_ inX2) hown hK g rfl 0 (by decide) rfl (hts _ (List.mem_cons_of_mem _ t_416)) (fun _ h9 => h9) 10 rfl dX2_readMemberHead_252 ?_
                        refine g_calli (va_runV (As := []) (rest := []) ⟨hx, hb, hml, hown, hts⟩ (r_X8_place l dC dI L kd tys f H.size g.2.2.2.1 q0_ mq0_ kq0_) (cwV 0 hts (gV_ t_1110 t_1111 t_1112 t_184 t_1113) rfl rfl rfl (by decide +kernel) ⟨(Nat.le_of_ble_eq_true rfl), (Nat.le_of_ble_eq_true rfl)⟩) (pre3V g hK mq0_ kq0_ (by decide) (q := (RX8, TX8, 10)) rfl) rfl rfl hl.1 rfl (lv_room (Nat.le_of_ble_eq_true rfl)) dX2_readMemberHead_255 ⟨(Nat.le_of_ble_eq_true rfl), (Nat.le_of_ble_eq_true rfl)⟩) g hK (by decide) (by decide) (fx' := [(8, 6, q0_, .int w199_8_6_q0_), (8, 8, q0_, .int w199_8_8_q0_), (2, 6, a0_, .int 0), (9, 8, q3_, .int x_25), (2, 5, a0_, .ref a_27), (7, 3, q2_, .int x_28), (6, 12, a_27, .int x_30), (5, 2, q1_, .int x_21), (7, 2, q2_, .ref a_18), (9, 9, q3_, .ref a_11), (2, 0, a0_, .ref q0_), (2, 1, a0_, .ref q1_), (2, 3, a0_, .ref q2_), (2, 4, a0_, .ref q3_), (5, 1, q1_, .ref q5_)]) rfl (fun r_111 fr_111 H locs hp hMr_111 g => ?_)
                        refine lv_istore (lv' := [(7, .int r_111), (6, .int v199_6), (5, .int x_12), (4, .int r_7), (2, .long r_6), (1, .int r_5), (0, .ref a0_)]) hx hb dX2_readMemberHead_258 hl (by decide) rfl (fun ls hl => ?_)
                        refine lv_aload_n hx hb dX2_readMemberHead_260 rfl (lv_at hl 6 rfl) ?_
                        refine g_getk (C := RX2) (T := TX2) (N := 16) hx hb hts (mc_ inX2) hown hK g rfl 0 (by decide) rfl (hts _ (List.mem_cons_of_mem _ t_416)) (fun _ h9 => h9) 10 rfl dX2_readMemberHead_261 ?_
                        refine lv_bipush (v := 41) hx hb dX2_readMemberHead_264 (by decide) ?_
                        refine g_callv (va_runV (As := [.int 41]) (rest := []) ⟨hx, hb, hml, hown, hts⟩ (r_X8_take l dC dI L kd tys fr_111 H.size g.2.2.2.1 q0_ mq0_ kq0_ 41 w199_8_8_q0_ bw199_8_8_q0_ (g.fcts [1] rfl)) (cwV 1 hts (gV_ t_1098 t_1099 t_1100 t_184 t_1101) rfl rfl rfl (by decide +kernel) ⟨(Nat.le_of_ble_eq_true rfl), (Nat.le_of_ble_eq_true rfl)⟩) (pre3V g hK mq0_ kq0_ (by decide) (q := (RX8, TX8, 10)) rfl) rfl rfl hl.1 rfl (lv_room (Nat.le_of_ble_eq_true rfl)) dX2_readMemberHead_266 ⟨(Nat.le_of_ble_eq_true rfl), (Nat.le_of_ble_eq_true rfl)⟩) g hK (by decide) (by decide) (fx' := [(2, 6, a0_, .int 0), (9, 8, q3_, .int x_25), (2, 5, a0_, .ref a_27), (7, 3, q2_, .int x_28), (6, 12, a_27, .int x_30), (5, 2, q1_, .int x_21), (7, 2, q2_, .ref a_18), (9, 9, q3_, .ref a_11), (2, 0, a0_, .ref q0_), (2, 1, a0_, .ref q1_), (2, 3, a0_, .ref q2_), (2, 4, a0_, .ref q3_), (5, 1, q1_, .ref q5_)]) rfl (fun fr_112 H locs hp hMr_112 g => ?_)
                        rcases hp with ⟨x_113, h_114, x_115, h_116, hF_117⟩ | ⟨x_118, h_119, hF_120⟩
                        · have g := g.more hF_117
                          refine lv_iload hx hb dX2_readMemberHead_269 (lv_at hl 2 rfl) ?_
                          refine lv_iconst (v := (-1)) hx hb dX2_readMemberHead_271 (by decide) ?_
                          refine lv_icmp_eq (tgt := 308) hx hb dX2_readMemberHead_272 (by decide) (fun c_121 => ?_) (fun c_121 => ?_)
                          · have fc_121 := eq_f c_121
                            have b_122 : bd 0 (-1) x_12 := eqX fc_121 bx_12 kb_m1 (by decide)
                            exact bd_no b_122 (by decide)
                          · have fc_121 := neq_f c_121
                            refine lv_aload_n hx hb dX2_readMemberHead_275 rfl (lv_at hl 6 rfl) ?_
                            refine g_getk (C := RX2) (T := TX2) (N := 16) hx hb hts (mc_ inX2) hown hK g rfl 3 (by decide) rfl (hts _ (List.mem_cons_of_mem _ t_419)) (fun _ h9 => h9) 12 rfl dX2_readMemberHead_276 ?_
                            refine g_getk (C := RX7) (T := TX7) (N := 19) hx hb hts (mc_ inX7) hown hK g rfl 2 (by decide) rfl (hts _ (List.mem_cons_of_mem _ t_630)) (fun _ h9 => h9) 8 rfl dX2_readMemberHead_279 ?_
                            refine lv_iload hx hb dX2_readMemberHead_282 (lv_at hl 2 rfl) ?_
                            refine g_aald hx hb hK g ma_18 ka_18 (by decide) rfl (by decide) (in_bd bx_12 (by decide)) dX2_readMemberHead_284 (fun a_123 ma_123 ua_123 wa_123 => ?_)
                            have ka_123 : kd a_123 = 6 := by omega
                            refine g_geti (C := RX6) (T := TX6) (N := 13) hx hb hts (mc_ inX6) hown hK g ma_123 ka_123 (by decide) rfl 3 (by decide) rfl (hts _ (List.mem_cons_of_mem _ t_568)) (fun _ h9 => h9) rfl dX2_readMemberHead_285 (fun x_124 bx_124 g => ?_)
                            refine lv_aload_n hx hb dX2_readMemberHead_288 rfl (lv_at hl 6 rfl) ?_
                            refine g_getk (C := RX2) (T := TX2) (N := 16) hx hb hts (mc_ inX2) hown hK g rfl 5 (by decide) rfl (hts _ (List.mem_cons_of_mem _ t_421)) (fun _ h9 => h9) 5 rfl dX2_readMemberHead_289 ?_
                            refine g_geti (C := RX6) (T := TX6) (N := 13) hx hb hts (mc_ inX6) hown hK g ma_27 ka_27 (by decide) rfl 3 (by decide) rfl (hts _ (List.mem_cons_of_mem _ t_568)) (fun _ h9 => h9) rfl dX2_readMemberHead_292 (fun x_125 bx_125 g => ?_)
                            refine lv_icmp_eq (tgt := 308) hx hb dX2_readMemberHead_295 (by decide) (fun c_126 => ?_) (fun c_126 => ?_)
                            · have fc_126 := eq_f c_126
                              subst hQ
                              exact W.vret hx hb hr (fun t ht hW => ⟨⟨_, rfl, Or.inl ⟨x_113, h_114, x_115, h_116, x_25, h_26, a_27, ⟨ma_27, ka_27⟩, x_28, h_29, x_30, h_31, (g.fcts [2, 3, 4, 5, 6, 7, 8] rfl)⟩, q3_of g hK ht hW⟩, g.2.2.1.F ht⟩) g.2.2.1.2.2 dX2_readMemberHead_308
                            · have fc_126 := neq_f c_126
                              refine lv_aload_n hx hb dX2_readMemberHead_298 rfl (lv_at hl 6 rfl) ?_
                              refine g_getk (C := RX2) (T := TX2) (N := 16) hx hb hts (mc_ inX2) hown hK g rfl 0 (by decide) rfl (hts _ (List.mem_cons_of_mem _ t_416)) (fun _ h9 => h9) 12 rfl dX2_readMemberHead_299 ?_
                              refine lv_iconst (v := 5) hx hb dX2_readMemberHead_302 (by decide) ?_
                              refine lv_iload hx hb dX2_readMemberHead_303 (lv_at hl 0 rfl) ?_
                              have kb_5 : bd 5 5 (5 : Int32) := ⟨by decide, by decide⟩
                              refine g_callv (va_runV (As := [.int 5, .int r_111]) (rest := []) ⟨hx, hb, hml, hown, hts⟩ (r_X8_fail l dC dI L kd tys fr_112 H.size g.2.2.2.1 q0_ mq0_ kq0_ 5 (bd_sub kb_5 (by decide)) r_111 x_115 h_116 (g.fcts [3] rfl)) (cwV 2 hts (gV_ t_1122 t_1107 t_1108 t_184 t_1109) rfl rfl rfl (by decide +kernel) ⟨(Nat.le_of_ble_eq_true rfl), (Nat.le_of_ble_eq_true rfl)⟩) (pre3V g hK mq0_ kq0_ (by decide) (q := (RX8, TX8, 10)) rfl) rfl rfl hl.1 rfl (lv_room (Nat.le_of_ble_eq_true rfl)) dX2_readMemberHead_305 ⟨(Nat.le_of_ble_eq_true rfl), (Nat.le_of_ble_eq_true rfl)⟩) g hK (by decide) (by decide) (fx' := [(6, 3, a_27, .int x_125), (6, 3, a_123, .int x_124), (2, 6, a0_, .int 0), (9, 8, q3_, .int x_25), (2, 5, a0_, .ref a_27), (7, 3, q2_, .int x_28), (6, 12, a_27, .int x_30), (5, 2, q1_, .int x_21), (7, 2, q2_, .ref a_18), (9, 9, q3_, .ref a_11), (2, 0, a0_, .ref q0_), (2, 1, a0_, .ref q1_), (2, 3, a0_, .ref q2_), (2, 4, a0_, .ref q3_), (5, 1, q1_, .ref q5_)]) rfl (fun fr_127 H locs hp hMr_127 g => ?_)
                              obtain ⟨x_128, h_129, hF_130⟩ := hp
                              have g := g.more hF_130
                              have kb_1201 : bd 1201 1201 (1201 : Int32) := ⟨by decide, by decide⟩
                              subst hQ
                              exact W.vret hx hb hr (fun t ht hW => ⟨⟨_, rfl, Or.inr (⟨1201, kb_1201, x_128, h_129, a_27, ⟨ma_27, ka_27⟩, (g.fcts [0, 1, 6] rfl)⟩), q3_of g hK ht hW⟩, g.2.2.1.F ht⟩) g.2.2.1.2.2 dX2_readMemberHead_308
                        · have g := g.more hF_120
                          refine lv_iload hx hb dX2_readMemberHead_269 (lv_at hl 2 rfl) ?_
                          refine lv_iconst (v := (-1)) hx hb dX2_readMemberHead_271 (by decide) ?_
                          refine lv_icmp_eq (tgt := 308) hx hb dX2_readMemberHead_272 (by decide) (fun c_131 => ?_) (fun c_131 => ?_)
                          · have fc_131 := eq_f c_131
                            have b_132 : bd 0 (-1) x_12 := eqX fc_131 bx_12 kb_m1 (by decide)
                            exact bd_no b_132 (by decide)
                          · have fc_131 := neq_f c_131
                            refine lv_aload_n hx hb dX2_readMemberHead_275 rfl (lv_at hl 6 rfl) ?_
                            refine g_getk (C := RX2) (T := TX2) (N := 16) hx hb hts (mc_ inX2) hown hK g rfl 3 (by decide) rfl (hts _ (List.mem_cons_of_mem _ t_419)) (fun _ h9 => h9) 12 rfl dX2_readMemberHead_276 ?_
                            refine g_getk (C := RX7) (T := TX7) (N := 19) hx hb hts (mc_ inX7) hown hK g rfl 2 (by decide) rfl (hts _ (List.mem_cons_of_mem _ t_630)) (fun _ h9 => h9) 8 rfl dX2_readMemberHead_279 ?_
                            refine lv_iload hx hb dX2_readMemberHead_282 (lv_at hl 2 rfl) ?_
                            refine g_aald hx hb hK g ma_18 ka_18 (by decide) rfl (by decide) (in_bd bx_12 (by decide)) dX2_readMemberHead_284 (fun a_133 ma_133 ua_133 wa_133 => ?_)
                            have ka_133 : kd a_133 = 6 := by omega
                            refine g_geti (C := RX6) (T := TX6) (N := 13) hx hb hts (mc_ inX6) hown hK g ma_133 ka_133 (by decide) rfl 3 (by decide) rfl (hts _ (List.mem_cons_of_mem _ t_568)) (fun _ h9 => h9) rfl dX2_readMemberHead_285 (fun x_134 bx_134 g => ?_)
                            refine lv_aload_n hx hb dX2_readMemberHead_288 rfl (lv_at hl 6 rfl) ?_
                            refine g_getk (C := RX2) (T := TX2) (N := 16) hx hb hts (mc_ inX2) hown hK g rfl 5 (by decide) rfl (hts _ (List.mem_cons_of_mem _ t_421)) (fun _ h9 => h9) 5 rfl dX2_readMemberHead_289 ?_
                            refine g_geti (C := RX6) (T := TX6) (N := 13) hx hb hts (mc_ inX6) hown hK g ma_27 ka_27 (by decide) rfl 3 (by decide) rfl (hts _ (List.mem_cons_of_mem _ t_568)) (fun _ h9 => h9) rfl dX2_readMemberHead_292 (fun x_135 bx_135 g => ?_)
                            refine lv_icmp_eq (tgt := 308) hx hb dX2_readMemberHead_295 (by decide) (fun c_136 => ?_) (fun c_136 => ?_)
                            · have fc_136 := eq_f c_136
                              have kb_1201 : bd 1201 1201 (1201 : Int32) := ⟨by decide, by decide⟩
                              subst hQ
                              exact W.vret hx hb hr (fun t ht hW => ⟨⟨_, rfl, Or.inr (⟨1201, kb_1201, x_118, h_119, a_27, ⟨ma_27, ka_27⟩, (g.fcts [2, 3, 6] rfl)⟩), q3_of g hK ht hW⟩, g.2.2.1.F ht⟩) g.2.2.1.2.2 dX2_readMemberHead_308
                            · have fc_136 := neq_f c_136
                              refine lv_aload_n hx hb dX2_readMemberHead_298 rfl (lv_at hl 6 rfl) ?_
                              refine g_getk (C := RX2) (T := TX2) (N := 16) hx hb hts (mc_ inX2) hown hK g rfl 0 (by decide) rfl (hts _ (List.mem_cons_of_mem _ t_416)) (fun _ h9 => h9) 12 rfl dX2_readMemberHead_299 ?_
                              refine lv_iconst (v := 5) hx hb dX2_readMemberHead_302 (by decide) ?_
                              refine lv_iload hx hb dX2_readMemberHead_303 (lv_at hl 0 rfl) ?_
                              have kb_5 : bd 5 5 (5 : Int32) := ⟨by decide, by decide⟩
                              refine g_callv (va_runV (As := [.int 5, .int r_111]) (rest := []) ⟨hx, hb, hml, hown, hts⟩ (r_X8_fail_2 l dC dI L kd tys fr_112 H.size g.2.2.2.1 q0_ mq0_ kq0_ 5 (bd_sub kb_5 (by decide)) r_111 x_118 h_119 (g.fcts [3] rfl)) (cwV 2 hts (gV_ t_1122 t_1107 t_1108 t_184 t_1109) rfl rfl rfl (by decide +kernel) ⟨(Nat.le_of_ble_eq_true rfl), (Nat.le_of_ble_eq_true rfl)⟩) (pre3V g hK mq0_ kq0_ (by decide) (q := (RX8, TX8, 10)) rfl) rfl rfl hl.1 rfl (lv_room (Nat.le_of_ble_eq_true rfl)) dX2_readMemberHead_305 ⟨(Nat.le_of_ble_eq_true rfl), (Nat.le_of_ble_eq_true rfl)⟩) g hK (by decide) (by decide) (fx' := [(6, 3, a_27, .int x_135), (6, 3, a_133, .int x_134), (8, 8, q0_, .int x_118), (2, 6, a0_, .int 0), (9, 8, q3_, .int x_25), (2, 5, a0_, .ref a_27), (7, 3, q2_, .int x_28), (6, 12, a_27, .int x_30), (5, 2, q1_, .int x_21), (7, 2, q2_, .ref a_18), (9, 9, q3_, .ref a_11), (2, 0, a0_, .ref q0_), (2, 1, a0_, .ref q1_), (2, 3, a0_, .ref q2_), (2, 4, a0_, .ref q3_), (5, 1, q1_, .ref q5_)]) rfl (fun fr_137 H locs hp hMr_137 g => ?_)
                              have hF_138 := hp
                              have g := g.more hF_138
                              have kb_1201 : bd 1201 1201 (1201 : Int32) := ⟨by decide, by decide⟩
                              subst hQ
                              exact W.vret hx hb hr (fun t ht hW => ⟨⟨_, rfl, Or.inr (⟨1201, kb_1201, x_118, h_119, a_27, ⟨ma_27, ka_27⟩, (g.fcts [0, 3, 6] rfl)⟩), q3_of g hK ht hW⟩, g.2.2.1.F ht⟩) g.2.2.1.2.2 dX2_readMemberHead_308
                      · have fc_109 := neq_f c_109
                        have b_139 : bd 1 1 v199_6 := neX fc_109 bv199_6 kb_0 (by decide)
                        refine lv_aload_n hx hb dX2_readMemberHead_210 rfl (lv_at hl 6 rfl) ?_
                        refine g_callv (va_runV (As := []) (rest := []) ⟨hx, hb, hml, hown, hts⟩ (r_X2_readParam l dC dI L kd tys f H.size g.2.2.2.1 a0_ ma0_ ka0_ q0_ mq0_ kq0_ q1_ mq1_ kq1_ a_27 ma_27 ka_27 q5_ mq5_ kq5_ w199_8_8_q0_ bw199_8_8_q0_ (g.fcts [10, 11, 4, 14, 1] rfl)) (cwV 0 hts (gV_ t_1313 t_1315 t_34 t_183 t_1316) rfl rfl rfl (by decide +kernel) ⟨(Nat.le_of_ble_eq_true rfl), (Nat.le_of_ble_eq_true rfl)⟩) (pre3V g hK ma0_ ka0_ (by decide) (q := (RX2, TX2, 16)) rfl) rfl rfl hl.1 rfl (lv_room (Nat.le_of_ble_eq_true rfl)) dX2_readMemberHead_211 ⟨(Nat.le_of_ble_eq_true rfl), (Nat.le_of_ble_eq_true rfl)⟩) g hK (by decide) (by decide) (fx' := [(2, 6, a0_, .int 0), (9, 8, q3_, .int x_25), (2, 5, a0_, .ref a_27), (7, 3, q2_, .int x_28), (6, 12, a_27, .int x_30), (5, 2, q1_, .int x_21), (7, 2, q2_, .ref a_18), (9, 9, q3_, .ref a_11), (2, 0, a0_, .ref q0_), (2, 1, a0_, .ref q1_), (2, 3, a0_, .ref q2_), (2, 4, a0_, .ref q3_), (5, 1, q1_, .ref q5_)]) rfl (fun fr_140 H locs hp hMr_140 g => ?_)
                        rcases hp with ⟨x_141, h_142, x_143, h_144, x_145, h_146, x_147, h_148, hF_149⟩ | ⟨x_150, h_151, hF_152⟩
                        · have g := g.more hF_149
                          refine lv_aload_n hx hb dX2_readMemberHead_214 rfl (lv_at hl 6 rfl) ?_
                          refine g_getk (C := RX2) (T := TX2) (N := 16) hx hb hts (mc_ inX2) hown hK g rfl 0 (by decide) rfl (hts _ (List.mem_cons_of_mem _ t_416)) (fun _ h9 => h9) 12 rfl dX2_readMemberHead_215 ?_
                          refine g_calli (va_runV (As := []) (rest := []) ⟨hx, hb, hml, hown, hts⟩ (r_X8_kind l dC dI L kd tys fr_140 H.size g.2.2.2.1 q0_ mq0_ kq0_) (cwV 0 hts (gV_ t_1118 t_1119 t_1120 t_184 t_1121) rfl rfl rfl (by decide +kernel) ⟨(Nat.le_of_ble_eq_true rfl), (Nat.le_of_ble_eq_true rfl)⟩) (pre3V g hK mq0_ kq0_ (by decide) (q := (RX8, TX8, 10)) rfl) rfl rfl hl.1 rfl (lv_room (Nat.le_of_ble_eq_true rfl)) dX2_readMemberHead_218 ⟨(Nat.le_of_ble_eq_true rfl), (Nat.le_of_ble_eq_true rfl)⟩) g hK (by decide) (by decide) (fx' := [(6, 3, a_27, .int x_141), (5, 4, q1_, .int x_143), (8, 6, q0_, .int x_145), (8, 8, q0_, .int x_147), (2, 6, a0_, .int 0), (9, 8, q3_, .int x_25), (2, 5, a0_, .ref a_27), (7, 3, q2_, .int x_28), (6, 12, a_27, .int x_30), (5, 2, q1_, .int x_21), (7, 2, q2_, .ref a_18), (9, 9, q3_, .ref a_11), (2, 0, a0_, .ref q0_), (2, 1, a0_, .ref q1_), (2, 3, a0_, .ref q2_), (2, 4, a0_, .ref q3_), (5, 1, q1_, .ref q5_)]) rfl (fun r_153 fr_153 H locs hp hMr_153 g => ?_)
                          refine lv_bipush (v := 44) hx hb dX2_readMemberHead_221 (by decide) ?_
                          have kb_44 : bd 44 44 (44 : Int32) := ⟨by decide, by decide⟩
                          refine lv_icmp_ne (tgt := 230) hx hb dX2_readMemberHead_223 (by decide) (fun c_154 => ?_) (fun c_154 => ?_)
                          · have fc_154 := neq_f c_154
                            refine lv_iconst (v := 0) hx hb dX2_readMemberHead_230 (by decide) ?_
                            refine lv_istore (lv' := [(6, .int 0), (7, .int v199_7), (5, .int x_12), (4, .int r_7), (2, .long r_6), (1, .int r_5), (0, .ref a0_)]) hx hb dX2_readMemberHead_231 hl (by decide) rfl (fun ls hl => ?_)
                            refine lv_iload hx hb dX2_readMemberHead_233 (lv_at hl 0 rfl) ?_
                            refine lv_if_eq (tgt := 245) hx hb dX2_readMemberHead_235 (by decide) (fun c_ => ?_) (fun c_ => absurd (by decide) c_)
                            have kb_1 : bd 1 1 (1 : Int32) := ⟨by decide, by decide⟩
                            obtain ⟨y_155, ey_155⟩ : ∃ z : Int32, z = v199_7 + 1 := ⟨_, rfl⟩
                            refine lv_iinc (v := y_155) (lv' := [(7, .int y_155), (6, .int 0), (5, .int x_12), (4, .int r_7), (2, .long r_6), (1, .int r_5), (0, .ref a0_)]) hx hb dX2_readMemberHead_245 hl (k := 1) rfl (by rw [ey_155]; rfl) (by decide) rfl (fun ls hl => ?_)
                            have ty_155 := add_bd ey_155 b_108 kb_1 (by decide)
                            have b_156 : bd 1 4 y_155 := add_rg ty_155 b_108 kb_1 (by decide)
                            refine lv_goto (tgt := 199) hx hb dX2_readMemberHead_248 (by decide) ?_
                            have hl9 := lv_sub hl [0, 1, 2, 3, 4, 5, 6] (by rfl : lv_pick [(7, .int y_155), (6, .int 0), (5, .int x_12), (4, .int r_7), (2, .long r_6), (1, .int r_5), (0, .ref a0_)] [0, 1, 2, 3, 4, 5, 6] = [(7, .int y_155), (6, .int 0), (5, .int x_12), (4, .int r_7), (2, .long r_6), (1, .int r_5), (0, .ref a0_)])
                            have g9 := g.sub (fx' := [(8, 6, q0_, .int x_145), (8, 8, q0_, .int x_147), (2, 6, a0_, .int 0), (9, 8, q3_, .int x_25), (2, 5, a0_, .ref a_27), (7, 3, q2_, .int x_28), (6, 12, a_27, .int x_30), (5, 2, q1_, .int x_21), (7, 2, q2_, .ref a_18), (9, 9, q3_, .ref a_11), (2, 0, a0_, .ref q0_), (2, 1, a0_, .ref q1_), (2, 3, a0_, .ref q2_), (2, 4, a0_, .ref q3_), (5, 1, q1_, .ref q5_)]) [2, 3, 4, 5, 6, 7, 8, 9, 10, 11, 12, 13, 14, 15, 16] rfl
                            exact ih199  y_155 0 x_145 x_147 (bd_sub b_156 (by decide)) (bd_sub kb_0 (by decide)) h_146 h_148 (by have h9_0 := b_156; unfold bd at h9_0; have h9_1 := bv199_6; unfold bd at h9_1; have h9_2 := bv199_7; unfold bd at h9_2; have h9_3 := bw199_8_6_q0_; unfold bd at h9_3; have h9_4 := bw199_8_8_q0_; unfold bd at h9_4; have h9_5 := h_146; unfold bd at h9_5; have h9_6 := h_148; unfold bd at h9_6; have h9_7 := kb_0; unfold bd at h9_7; have h9_8 := kb_1; unfold bd at h9_8; have h9_9 := kb_3; unfold bd at h9_9; have h9_10 := kb_41; unfold bd at h9_10; have h9_11 := kb_44; unfold bd at h9_11; have h9_12 := kb_m1; unfold bd at h9_12; omega) _ _ _ _ g9  hl9
                          · have fc_154 := eq_f c_154
                            have b_157 : bd 44 44 r_153 := eqX fc_154 (bdT r_153) kb_44 (by decide)
                            refine lv_iconst (v := 1) hx hb dX2_readMemberHead_226 (by decide) ?_
                            refine lv_goto (tgt := 231) hx hb dX2_readMemberHead_227 (by decide) ?_
                            refine lv_istore (lv' := [(6, .int 1), (7, .int v199_7), (5, .int x_12), (4, .int r_7), (2, .long r_6), (1, .int r_5), (0, .ref a0_)]) hx hb dX2_readMemberHead_231 hl (by decide) rfl (fun ls hl => ?_)
                            refine lv_iload hx hb dX2_readMemberHead_233 (lv_at hl 0 rfl) ?_
                            refine lv_if_eq (tgt := 245) hx hb dX2_readMemberHead_235 (by decide) (fun c_ => absurd c_ (by decide)) (fun c_ => ?_)
                            refine lv_aload_n hx hb dX2_readMemberHead_238 rfl (lv_at hl 6 rfl) ?_
                            refine g_getk (C := RX2) (T := TX2) (N := 16) hx hb hts (mc_ inX2) hown hK g rfl 0 (by decide) rfl (hts _ (List.mem_cons_of_mem _ t_416)) (fun _ h9 => h9) 12 rfl dX2_readMemberHead_239 ?_
                            refine g_callv (va_runV (As := []) (rest := []) ⟨hx, hb, hml, hown, hts⟩ (r_X8_next l dC dI L kd tys fr_153 H.size g.2.2.2.1 q0_ mq0_ kq0_) (cwV 0 hts (gV_ t_1131 t_1103 t_1104 t_184 t_1105) rfl rfl rfl (by decide +kernel) ⟨(Nat.le_of_ble_eq_true rfl), (Nat.le_of_ble_eq_true rfl)⟩) (pre3V g hK mq0_ kq0_ (by decide) (q := (RX8, TX8, 10)) rfl) rfl rfl hl.1 rfl (lv_room (Nat.le_of_ble_eq_true rfl)) dX2_readMemberHead_242 ⟨(Nat.le_of_ble_eq_true rfl), (Nat.le_of_ble_eq_true rfl)⟩) g hK (by decide) (by decide) (fx' := [(6, 3, a_27, .int x_141), (5, 4, q1_, .int x_143), (8, 8, q0_, .int x_147), (2, 6, a0_, .int 0), (9, 8, q3_, .int x_25), (2, 5, a0_, .ref a_27), (7, 3, q2_, .int x_28), (6, 12, a_27, .int x_30), (5, 2, q1_, .int x_21), (7, 2, q2_, .ref a_18), (9, 9, q3_, .ref a_11), (2, 0, a0_, .ref q0_), (2, 1, a0_, .ref q1_), (2, 3, a0_, .ref q2_), (2, 4, a0_, .ref q3_), (5, 1, q1_, .ref q5_)]) rfl (fun fr_158 H locs hp hMr_158 g => ?_)
                            obtain ⟨x_159, h_160, hF_161⟩ := hp
                            have g := g.more hF_161
                            have kb_1 : bd 1 1 (1 : Int32) := ⟨by decide, by decide⟩
                            obtain ⟨y_162, ey_162⟩ : ∃ z : Int32, z = v199_7 + 1 := ⟨_, rfl⟩
                            refine lv_iinc (v := y_162) (lv' := [(7, .int y_162), (6, .int 1), (5, .int x_12), (4, .int r_7), (2, .long r_6), (1, .int r_5), (0, .ref a0_)]) hx hb dX2_readMemberHead_245 hl (k := 1) rfl (by rw [ey_162]; rfl) (by decide) rfl (fun ls hl => ?_)
                            have ty_162 := add_bd ey_162 b_108 kb_1 (by decide)
                            have b_163 : bd 1 4 y_162 := add_rg ty_162 b_108 kb_1 (by decide)
                            refine lv_goto (tgt := 199) hx hb dX2_readMemberHead_248 (by decide) ?_
                            have hl9 := lv_sub hl [0, 1, 2, 3, 4, 5, 6] (by rfl : lv_pick [(7, .int y_162), (6, .int 1), (5, .int x_12), (4, .int r_7), (2, .long r_6), (1, .int r_5), (0, .ref a0_)] [0, 1, 2, 3, 4, 5, 6] = [(7, .int y_162), (6, .int 1), (5, .int x_12), (4, .int r_7), (2, .long r_6), (1, .int r_5), (0, .ref a0_)])
                            have g9 := g.sub (fx' := [(8, 6, q0_, .int x_159), (8, 8, q0_, .int x_147), (2, 6, a0_, .int 0), (9, 8, q3_, .int x_25), (2, 5, a0_, .ref a_27), (7, 3, q2_, .int x_28), (6, 12, a_27, .int x_30), (5, 2, q1_, .int x_21), (7, 2, q2_, .ref a_18), (9, 9, q3_, .ref a_11), (2, 0, a0_, .ref q0_), (2, 1, a0_, .ref q1_), (2, 3, a0_, .ref q2_), (2, 4, a0_, .ref q3_), (5, 1, q1_, .ref q5_)]) [0, 3, 4, 5, 6, 7, 8, 9, 10, 11, 12, 13, 14, 15, 16] rfl
                            exact ih199  y_162 1 x_159 x_147 (bd_sub b_163 (by decide)) (bd_sub kb_1 (by decide)) h_160 h_148 (by have h9_0 := b_163; unfold bd at h9_0; have h9_1 := bv199_6; unfold bd at h9_1; have h9_2 := bv199_7; unfold bd at h9_2; have h9_3 := bw199_8_6_q0_; unfold bd at h9_3; have h9_4 := bw199_8_8_q0_; unfold bd at h9_4; have h9_5 := h_148; unfold bd at h9_5; have h9_6 := h_160; unfold bd at h9_6; have h9_7 := kb_0; unfold bd at h9_7; have h9_8 := kb_1; unfold bd at h9_8; have h9_9 := kb_3; unfold bd at h9_9; have h9_10 := kb_41; unfold bd at h9_10; have h9_11 := kb_44; unfold bd at h9_11; have h9_12 := kb_m1; unfold bd at h9_12; omega) _ _ _ _ g9  hl9
                        · have g := g.more hF_152
                          refine lv_aload_n hx hb dX2_readMemberHead_214 rfl (lv_at hl 6 rfl) ?_
                          refine g_getk (C := RX2) (T := TX2) (N := 16) hx hb hts (mc_ inX2) hown hK g rfl 0 (by decide) rfl (hts _ (List.mem_cons_of_mem _ t_416)) (fun _ h9 => h9) 10 rfl dX2_readMemberHead_215 ?_
                          have kb_1201 : bd 1201 1201 (1201 : Int32) := ⟨by decide, by decide⟩
                          refine g_calli (va_runV (As := []) (rest := []) ⟨hx, hb, hml, hown, hts⟩ (r_X8_kind_2 l dC dI L kd tys fr_140 H.size g.2.2.2.1 q0_ mq0_ kq0_ 1201 kb_1201 (g.fcts [0] rfl)) (cwV 0 hts (gV_ t_1118 t_1119 t_1120 t_184 t_1121) rfl rfl rfl (by decide +kernel) ⟨(Nat.le_of_ble_eq_true rfl), (Nat.le_of_ble_eq_true rfl)⟩) (pre3V g hK mq0_ kq0_ (by decide) (q := (RX8, TX8, 10)) rfl) rfl rfl hl.1 rfl (lv_room (Nat.le_of_ble_eq_true rfl)) dX2_readMemberHead_218 ⟨(Nat.le_of_ble_eq_true rfl), (Nat.le_of_ble_eq_true rfl)⟩) g hK (by decide) (by decide) (fx' := [(8, 6, q0_, .int 1201), (8, 8, q0_, .int x_150), (2, 6, a0_, .int 0), (9, 8, q3_, .int x_25), (2, 5, a0_, .ref a_27), (7, 3, q2_, .int x_28), (6, 12, a_27, .int x_30), (5, 2, q1_, .int x_21), (7, 2, q2_, .ref a_18), (9, 9, q3_, .ref a_11), (2, 0, a0_, .ref q0_), (2, 1, a0_, .ref q1_), (2, 3, a0_, .ref q2_), (2, 4, a0_, .ref q3_), (5, 1, q1_, .ref q5_)]) rfl (fun r_164 fr_164 H locs hp hMr_164 g => ?_)
                          obtain ⟨h_165, -⟩ := hp
                          obtain rfl : r_164 = 0 := h_165
                          refine lv_bipush (v := 44) hx hb dX2_readMemberHead_221 (by decide) ?_
                          refine lv_icmp_ne (tgt := 230) hx hb dX2_readMemberHead_223 (by decide) (fun c_ => ?_) (fun c_ => absurd c_ (by decide))
                          refine lv_iconst (v := 0) hx hb dX2_readMemberHead_230 (by decide) ?_
                          refine lv_istore (lv' := [(6, .int 0), (7, .int v199_7), (5, .int x_12), (4, .int r_7), (2, .long r_6), (1, .int r_5), (0, .ref a0_)]) hx hb dX2_readMemberHead_231 hl (by decide) rfl (fun ls hl => ?_)
                          refine lv_iload hx hb dX2_readMemberHead_233 (lv_at hl 0 rfl) ?_
                          refine lv_if_eq (tgt := 245) hx hb dX2_readMemberHead_235 (by decide) (fun c_ => ?_) (fun c_ => absurd (by decide) c_)
                          have kb_1 : bd 1 1 (1 : Int32) := ⟨by decide, by decide⟩
                          obtain ⟨y_166, ey_166⟩ : ∃ z : Int32, z = v199_7 + 1 := ⟨_, rfl⟩
                          refine lv_iinc (v := y_166) (lv' := [(7, .int y_166), (6, .int 0), (5, .int x_12), (4, .int r_7), (2, .long r_6), (1, .int r_5), (0, .ref a0_)]) hx hb dX2_readMemberHead_245 hl (k := 1) rfl (by rw [ey_166]; rfl) (by decide) rfl (fun ls hl => ?_)
                          have ty_166 := add_bd ey_166 b_108 kb_1 (by decide)
                          have b_167 : bd 1 4 y_166 := add_rg ty_166 b_108 kb_1 (by decide)
                          refine lv_goto (tgt := 199) hx hb dX2_readMemberHead_248 (by decide) ?_
                          refine lv_iload hx hb dX2_readMemberHead_199 (lv_at hl 0 rfl) ?_
                          refine lv_iconst (v := 3) hx hb dX2_readMemberHead_201 (by decide) ?_
                          refine lv_icmp_gt (tgt := 251) hx hb dX2_readMemberHead_202 (by decide) (fun c_168 => ?_) (fun c_168 => ?_)
                          · have fc_168 := lt_f c_168
                            have b_169 : bd 4 4 y_166 := ltR fc_168 kb_3 b_167 (by decide)
                            have b_170 : bd 3 3 v199_7 := add_inv ty_166 b_169 b_108 kb_1 (by decide)
                            refine lv_aload_n hx hb dX2_readMemberHead_251 rfl (lv_at hl 6 rfl) ?_
                            refine g_getk (C := RX2) (T := TX2) (N := 16) hx hb hts (mc_ inX2) hown hK g rfl 0 (by decide) rfl (hts _ (List.mem_cons_of_mem _ t_416)) (fun _ h9 => h9) 10 rfl dX2_readMemberHead_252 ?_
                            refine g_calli (va_runV (As := []) (rest := []) ⟨hx, hb, hml, hown, hts⟩ (r_X8_place l dC dI L kd tys fr_164 H.size g.2.2.2.1 q0_ mq0_ kq0_) (cwV 0 hts (gV_ t_1110 t_1111 t_1112 t_184 t_1113) rfl rfl rfl (by decide +kernel) ⟨(Nat.le_of_ble_eq_true rfl), (Nat.le_of_ble_eq_true rfl)⟩) (pre3V g hK mq0_ kq0_ (by decide) (q := (RX8, TX8, 10)) rfl) rfl rfl hl.1 rfl (lv_room (Nat.le_of_ble_eq_true rfl)) dX2_readMemberHead_255 ⟨(Nat.le_of_ble_eq_true rfl), (Nat.le_of_ble_eq_true rfl)⟩) g hK (by decide) (by decide) (fx' := [(8, 6, q0_, .int 1201), (8, 8, q0_, .int x_150), (2, 6, a0_, .int 0), (9, 8, q3_, .int x_25), (2, 5, a0_, .ref a_27), (7, 3, q2_, .int x_28), (6, 12, a_27, .int x_30), (5, 2, q1_, .int x_21), (7, 2, q2_, .ref a_18), (9, 9, q3_, .ref a_11), (2, 0, a0_, .ref q0_), (2, 1, a0_, .ref q1_), (2, 3, a0_, .ref q2_), (2, 4, a0_, .ref q3_), (5, 1, q1_, .ref q5_)]) rfl (fun r_171 fr_171 H locs hp hMr_171 g => ?_)
                            refine lv_istore (lv' := [(7, .int r_171), (6, .int 0), (5, .int x_12), (4, .int r_7), (2, .long r_6), (1, .int r_5), (0, .ref a0_)]) hx hb dX2_readMemberHead_258 hl (by decide) rfl (fun ls hl => ?_)
                            refine lv_aload_n hx hb dX2_readMemberHead_260 rfl (lv_at hl 6 rfl) ?_
                            refine g_getk (C := RX2) (T := TX2) (N := 16) hx hb hts (mc_ inX2) hown hK g rfl 0 (by decide) rfl (hts _ (List.mem_cons_of_mem _ t_416)) (fun _ h9 => h9) 10 rfl dX2_readMemberHead_261 ?_
                            refine lv_bipush (v := 41) hx hb dX2_readMemberHead_264 (by decide) ?_
                            refine g_callv (va_runV (As := [.int 41]) (rest := []) ⟨hx, hb, hml, hown, hts⟩ (r_X8_take_2 l dC dI L kd tys fr_171 H.size g.2.2.2.1 q0_ mq0_ kq0_ 41 1201 kb_1201 x_150 h_151 (g.fcts [0, 1] rfl)) (cwV 1 hts (gV_ t_1098 t_1099 t_1100 t_184 t_1101) rfl rfl rfl (by decide +kernel) ⟨(Nat.le_of_ble_eq_true rfl), (Nat.le_of_ble_eq_true rfl)⟩) (pre3V g hK mq0_ kq0_ (by decide) (q := (RX8, TX8, 10)) rfl) rfl rfl hl.1 rfl (lv_room (Nat.le_of_ble_eq_true rfl)) dX2_readMemberHead_266 ⟨(Nat.le_of_ble_eq_true rfl), (Nat.le_of_ble_eq_true rfl)⟩) g hK (by decide) (by decide) (fx' := [(8, 8, q0_, .int x_150), (2, 6, a0_, .int 0), (9, 8, q3_, .int x_25), (2, 5, a0_, .ref a_27), (7, 3, q2_, .int x_28), (6, 12, a_27, .int x_30), (5, 2, q1_, .int x_21), (7, 2, q2_, .ref a_18), (9, 9, q3_, .ref a_11), (2, 0, a0_, .ref q0_), (2, 1, a0_, .ref q1_), (2, 3, a0_, .ref q2_), (2, 4, a0_, .ref q3_), (5, 1, q1_, .ref q5_)]) rfl (fun fr_172 H locs hp hMr_172 g => ?_)
                            obtain ⟨x_173, h_174, hF_175⟩ := hp
                            have g := g.more hF_175
                            refine lv_iload hx hb dX2_readMemberHead_269 (lv_at hl 2 rfl) ?_
                            refine lv_iconst (v := (-1)) hx hb dX2_readMemberHead_271 (by decide) ?_
                            refine lv_icmp_eq (tgt := 308) hx hb dX2_readMemberHead_272 (by decide) (fun c_176 => ?_) (fun c_176 => ?_)
                            · have fc_176 := eq_f c_176
                              have b_177 : bd 0 (-1) x_12 := eqX fc_176 bx_12 kb_m1 (by decide)
                              exact bd_no b_177 (by decide)
                            · have fc_176 := neq_f c_176
                              refine lv_aload_n hx hb dX2_readMemberHead_275 rfl (lv_at hl 6 rfl) ?_
                              refine g_getk (C := RX2) (T := TX2) (N := 16) hx hb hts (mc_ inX2) hown hK g rfl 3 (by decide) rfl (hts _ (List.mem_cons_of_mem _ t_419)) (fun _ h9 => h9) 12 rfl dX2_readMemberHead_276 ?_
                              refine g_getk (C := RX7) (T := TX7) (N := 19) hx hb hts (mc_ inX7) hown hK g rfl 2 (by decide) rfl (hts _ (List.mem_cons_of_mem _ t_630)) (fun _ h9 => h9) 8 rfl dX2_readMemberHead_279 ?_
                              refine lv_iload hx hb dX2_readMemberHead_282 (lv_at hl 2 rfl) ?_
                              refine g_aald hx hb hK g ma_18 ka_18 (by decide) rfl (by decide) (in_bd bx_12 (by decide)) dX2_readMemberHead_284 (fun a_178 ma_178 ua_178 wa_178 => ?_)
                              have ka_178 : kd a_178 = 6 := by omega
                              refine g_geti (C := RX6) (T := TX6) (N := 13) hx hb hts (mc_ inX6) hown hK g ma_178 ka_178 (by decide) rfl 3 (by decide) rfl (hts _ (List.mem_cons_of_mem _ t_568)) (fun _ h9 => h9) rfl dX2_readMemberHead_285 (fun x_179 bx_179 g => ?_)
                              refine lv_aload_n hx hb dX2_readMemberHead_288 rfl (lv_at hl 6 rfl) ?_
                              refine g_getk (C := RX2) (T := TX2) (N := 16) hx hb hts (mc_ inX2) hown hK g rfl 5 (by decide) rfl (hts _ (List.mem_cons_of_mem _ t_421)) (fun _ h9 => h9) 5 rfl dX2_readMemberHead_289 ?_
                              refine g_geti (C := RX6) (T := TX6) (N := 13) hx hb hts (mc_ inX6) hown hK g ma_27 ka_27 (by decide) rfl 3 (by decide) rfl (hts _ (List.mem_cons_of_mem _ t_568)) (fun _ h9 => h9) rfl dX2_readMemberHead_292 (fun x_180 bx_180 g => ?_)
                              refine lv_icmp_eq (tgt := 308) hx hb dX2_readMemberHead_295 (by decide) (fun c_181 => ?_) (fun c_181 => ?_)
                              · have fc_181 := eq_f c_181
                                subst hQ
                                exact W.vret hx hb hr (fun t ht hW => ⟨⟨_, rfl, Or.inr (⟨x_173, h_174, x_150, h_151, a_27, ⟨ma_27, ka_27⟩, (g.fcts [2, 3, 6] rfl)⟩), q3_of g hK ht hW⟩, g.2.2.1.F ht⟩) g.2.2.1.2.2 dX2_readMemberHead_308
                              · have fc_181 := neq_f c_181
                                refine lv_aload_n hx hb dX2_readMemberHead_298 rfl (lv_at hl 6 rfl) ?_
                                refine g_getk (C := RX2) (T := TX2) (N := 16) hx hb hts (mc_ inX2) hown hK g rfl 0 (by decide) rfl (hts _ (List.mem_cons_of_mem _ t_416)) (fun _ h9 => h9) 12 rfl dX2_readMemberHead_299 ?_
                                refine lv_iconst (v := 5) hx hb dX2_readMemberHead_302 (by decide) ?_
                                refine lv_iload hx hb dX2_readMemberHead_303 (lv_at hl 0 rfl) ?_
                                have kb_5 : bd 5 5 (5 : Int32) := ⟨by decide, by decide⟩
                                refine g_callv (va_runV (As := [.int 5, .int r_171]) (rest := []) ⟨hx, hb, hml, hown, hts⟩ (r_X8_fail_2 l dC dI L kd tys fr_172 H.size g.2.2.2.1 q0_ mq0_ kq0_ 5 (bd_sub kb_5 (by decide)) r_171 x_150 h_151 (g.fcts [3] rfl)) (cwV 2 hts (gV_ t_1122 t_1107 t_1108 t_184 t_1109) rfl rfl rfl (by decide +kernel) ⟨(Nat.le_of_ble_eq_true rfl), (Nat.le_of_ble_eq_true rfl)⟩) (pre3V g hK mq0_ kq0_ (by decide) (q := (RX8, TX8, 10)) rfl) rfl rfl hl.1 rfl (lv_room (Nat.le_of_ble_eq_true rfl)) dX2_readMemberHead_305 ⟨(Nat.le_of_ble_eq_true rfl), (Nat.le_of_ble_eq_true rfl)⟩) g hK (by decide) (by decide) (fx' := [(6, 3, a_27, .int x_180), (6, 3, a_178, .int x_179), (8, 8, q0_, .int x_150), (2, 6, a0_, .int 0), (9, 8, q3_, .int x_25), (2, 5, a0_, .ref a_27), (7, 3, q2_, .int x_28), (6, 12, a_27, .int x_30), (5, 2, q1_, .int x_21), (7, 2, q2_, .ref a_18), (9, 9, q3_, .ref a_11), (2, 0, a0_, .ref q0_), (2, 1, a0_, .ref q1_), (2, 3, a0_, .ref q2_), (2, 4, a0_, .ref q3_), (5, 1, q1_, .ref q5_)]) rfl (fun fr_182 H locs hp hMr_182 g => ?_)
                                have hF_183 := hp
                                have g := g.more hF_183
                                subst hQ
                                exact W.vret hx hb hr (fun t ht hW => ⟨⟨_, rfl, Or.inr (⟨1201, kb_1201, x_150, h_151, a_27, ⟨ma_27, ka_27⟩, (g.fcts [0, 3, 6] rfl)⟩), q3_of g hK ht hW⟩, g.2.2.1.F ht⟩) g.2.2.1.2.2 dX2_readMemberHead_308
                          · have fc_168 := nlt_f c_168
                            have b_184 : bd 1 3 y_166 := leL fc_168 b_167 kb_3 (by decide)
                            have b_185 : bd 0 2 v199_7 := add_inv ty_166 b_184 b_108 kb_1 (by decide)
                            refine lv_iload hx hb dX2_readMemberHead_205 (lv_at hl 1 rfl) ?_
                            refine lv_if_eq (tgt := 251) hx hb dX2_readMemberHead_207 (by decide) (fun c_ => ?_) (fun c_ => absurd (by decide) c_)
                            refine lv_aload_n hx hb dX2_readMemberHead_251 rfl (lv_at hl 6 rfl) ?_
                            refine g_getk (C := RX2) (T := TX2) (N := 16) hx hb hts (mc_ inX2) hown hK g rfl 0 (by decide) rfl (hts _ (List.mem_cons_of_mem _ t_416)) (fun _ h9 => h9) 10 rfl dX2_readMemberHead_252 ?_
                            refine g_calli (va_runV (As := []) (rest := []) ⟨hx, hb, hml, hown, hts⟩ (r_X8_place l dC dI L kd tys fr_164 H.size g.2.2.2.1 q0_ mq0_ kq0_) (cwV 0 hts (gV_ t_1110 t_1111 t_1112 t_184 t_1113) rfl rfl rfl (by decide +kernel) ⟨(Nat.le_of_ble_eq_true rfl), (Nat.le_of_ble_eq_true rfl)⟩) (pre3V g hK mq0_ kq0_ (by decide) (q := (RX8, TX8, 10)) rfl) rfl rfl hl.1 rfl (lv_room (Nat.le_of_ble_eq_true rfl)) dX2_readMemberHead_255 ⟨(Nat.le_of_ble_eq_true rfl), (Nat.le_of_ble_eq_true rfl)⟩) g hK (by decide) (by decide) (fx' := [(8, 6, q0_, .int 1201), (8, 8, q0_, .int x_150), (2, 6, a0_, .int 0), (9, 8, q3_, .int x_25), (2, 5, a0_, .ref a_27), (7, 3, q2_, .int x_28), (6, 12, a_27, .int x_30), (5, 2, q1_, .int x_21), (7, 2, q2_, .ref a_18), (9, 9, q3_, .ref a_11), (2, 0, a0_, .ref q0_), (2, 1, a0_, .ref q1_), (2, 3, a0_, .ref q2_), (2, 4, a0_, .ref q3_), (5, 1, q1_, .ref q5_)]) rfl (fun r_186 fr_186 H locs hp hMr_186 g => ?_)
                            refine lv_istore (lv' := [(7, .int r_186), (6, .int 0), (5, .int x_12), (4, .int r_7), (2, .long r_6), (1, .int r_5), (0, .ref a0_)]) hx hb dX2_readMemberHead_258 hl (by decide) rfl (fun ls hl => ?_)
                            refine lv_aload_n hx hb dX2_readMemberHead_260 rfl (lv_at hl 6 rfl) ?_
                            refine g_getk (C := RX2) (T := TX2) (N := 16) hx hb hts (mc_ inX2) hown hK g rfl 0 (by decide) rfl (hts _ (List.mem_cons_of_mem _ t_416)) (fun _ h9 => h9) 10 rfl dX2_readMemberHead_261 ?_
                            refine lv_bipush (v := 41) hx hb dX2_readMemberHead_264 (by decide) ?_
                            refine g_callv (va_runV (As := [.int 41]) (rest := []) ⟨hx, hb, hml, hown, hts⟩ (r_X8_take_2 l dC dI L kd tys fr_186 H.size g.2.2.2.1 q0_ mq0_ kq0_ 41 1201 kb_1201 x_150 h_151 (g.fcts [0, 1] rfl)) (cwV 1 hts (gV_ t_1098 t_1099 t_1100 t_184 t_1101) rfl rfl rfl (by decide +kernel) ⟨(Nat.le_of_ble_eq_true rfl), (Nat.le_of_ble_eq_true rfl)⟩) (pre3V g hK mq0_ kq0_ (by decide) (q := (RX8, TX8, 10)) rfl) rfl rfl hl.1 rfl (lv_room (Nat.le_of_ble_eq_true rfl)) dX2_readMemberHead_266 ⟨(Nat.le_of_ble_eq_true rfl), (Nat.le_of_ble_eq_true rfl)⟩) g hK (by decide) (by decide) (fx' := [(8, 8, q0_, .int x_150), (2, 6, a0_, .int 0), (9, 8, q3_, .int x_25), (2, 5, a0_, .ref a_27), (7, 3, q2_, .int x_28), (6, 12, a_27, .int x_30), (5, 2, q1_, .int x_21), (7, 2, q2_, .ref a_18), (9, 9, q3_, .ref a_11), (2, 0, a0_, .ref q0_), (2, 1, a0_, .ref q1_), (2, 3, a0_, .ref q2_), (2, 4, a0_, .ref q3_), (5, 1, q1_, .ref q5_)]) rfl (fun fr_187 H locs hp hMr_187 g => ?_)
                            obtain ⟨x_188, h_189, hF_190⟩ := hp
                            have g := g.more hF_190
                            refine lv_iload hx hb dX2_readMemberHead_269 (lv_at hl 2 rfl) ?_
                            refine lv_iconst (v := (-1)) hx hb dX2_readMemberHead_271 (by decide) ?_
                            refine lv_icmp_eq (tgt := 308) hx hb dX2_readMemberHead_272 (by decide) (fun c_191 => ?_) (fun c_191 => ?_)
                            · have fc_191 := eq_f c_191
                              have b_192 : bd 0 (-1) x_12 := eqX fc_191 bx_12 kb_m1 (by decide)
                              exact bd_no b_192 (by decide)
                            · have fc_191 := neq_f c_191
                              refine lv_aload_n hx hb dX2_readMemberHead_275 rfl (lv_at hl 6 rfl) ?_
                              refine g_getk (C := RX2) (T := TX2) (N := 16) hx hb hts (mc_ inX2) hown hK g rfl 3 (by decide) rfl (hts _ (List.mem_cons_of_mem _ t_419)) (fun _ h9 => h9) 12 rfl dX2_readMemberHead_276 ?_
                              refine g_getk (C := RX7) (T := TX7) (N := 19) hx hb hts (mc_ inX7) hown hK g rfl 2 (by decide) rfl (hts _ (List.mem_cons_of_mem _ t_630)) (fun _ h9 => h9) 8 rfl dX2_readMemberHead_279 ?_
                              refine lv_iload hx hb dX2_readMemberHead_282 (lv_at hl 2 rfl) ?_
                              refine g_aald hx hb hK g ma_18 ka_18 (by decide) rfl (by decide) (in_bd bx_12 (by decide)) dX2_readMemberHead_284 (fun a_193 ma_193 ua_193 wa_193 => ?_)
                              have ka_193 : kd a_193 = 6 := by omega
                              refine g_geti (C := RX6) (T := TX6) (N := 13) hx hb hts (mc_ inX6) hown hK g ma_193 ka_193 (by decide) rfl 3 (by decide) rfl (hts _ (List.mem_cons_of_mem _ t_568)) (fun _ h9 => h9) rfl dX2_readMemberHead_285 (fun x_194 bx_194 g => ?_)
                              refine lv_aload_n hx hb dX2_readMemberHead_288 rfl (lv_at hl 6 rfl) ?_
                              refine g_getk (C := RX2) (T := TX2) (N := 16) hx hb hts (mc_ inX2) hown hK g rfl 5 (by decide) rfl (hts _ (List.mem_cons_of_mem _ t_421)) (fun _ h9 => h9) 5 rfl dX2_readMemberHead_289 ?_
                              refine g_geti (C := RX6) (T := TX6) (N := 13) hx hb hts (mc_ inX6) hown hK g ma_27 ka_27 (by decide) rfl 3 (by decide) rfl (hts _ (List.mem_cons_of_mem _ t_568)) (fun _ h9 => h9) rfl dX2_readMemberHead_292 (fun x_195 bx_195 g => ?_)
                              refine lv_icmp_eq (tgt := 308) hx hb dX2_readMemberHead_295 (by decide) (fun c_196 => ?_) (fun c_196 => ?_)
                              · have fc_196 := eq_f c_196
                                subst hQ
                                exact W.vret hx hb hr (fun t ht hW => ⟨⟨_, rfl, Or.inr (⟨x_188, h_189, x_150, h_151, a_27, ⟨ma_27, ka_27⟩, (g.fcts [2, 3, 6] rfl)⟩), q3_of g hK ht hW⟩, g.2.2.1.F ht⟩) g.2.2.1.2.2 dX2_readMemberHead_308
                              · have fc_196 := neq_f c_196
                                refine lv_aload_n hx hb dX2_readMemberHead_298 rfl (lv_at hl 6 rfl) ?_
                                refine g_getk (C := RX2) (T := TX2) (N := 16) hx hb hts (mc_ inX2) hown hK g rfl 0 (by decide) rfl (hts _ (List.mem_cons_of_mem _ t_416)) (fun _ h9 => h9) 12 rfl dX2_readMemberHead_299 ?_
                                refine lv_iconst (v := 5) hx hb dX2_readMemberHead_302 (by decide) ?_
                                refine lv_iload hx hb dX2_readMemberHead_303 (lv_at hl 0 rfl) ?_
                                have kb_5 : bd 5 5 (5 : Int32) := ⟨by decide, by decide⟩
                                refine g_callv (va_runV (As := [.int 5, .int r_186]) (rest := []) ⟨hx, hb, hml, hown, hts⟩ (r_X8_fail_2 l dC dI L kd tys fr_187 H.size g.2.2.2.1 q0_ mq0_ kq0_ 5 (bd_sub kb_5 (by decide)) r_186 x_150 h_151 (g.fcts [3] rfl)) (cwV 2 hts (gV_ t_1122 t_1107 t_1108 t_184 t_1109) rfl rfl rfl (by decide +kernel) ⟨(Nat.le_of_ble_eq_true rfl), (Nat.le_of_ble_eq_true rfl)⟩) (pre3V g hK mq0_ kq0_ (by decide) (q := (RX8, TX8, 10)) rfl) rfl rfl hl.1 rfl (lv_room (Nat.le_of_ble_eq_true rfl)) dX2_readMemberHead_305 ⟨(Nat.le_of_ble_eq_true rfl), (Nat.le_of_ble_eq_true rfl)⟩) g hK (by decide) (by decide) (fx' := [(6, 3, a_27, .int x_195), (6, 3, a_193, .int x_194), (8, 8, q0_, .int x_150), (2, 6, a0_, .int 0), (9, 8, q3_, .int x_25), (2, 5, a0_, .ref a_27), (7, 3, q2_, .int x_28), (6, 12, a_27, .int x_30), (5, 2, q1_, .int x_21), (7, 2, q2_, .ref a_18), (9, 9, q3_, .ref a_11), (2, 0, a0_, .ref q0_), (2, 1, a0_, .ref q1_), (2, 3, a0_, .ref q2_), (2, 4, a0_, .ref q3_), (5, 1, q1_, .ref q5_)]) rfl (fun fr_197 H locs hp hMr_197 g => ?_)
                                have hF_198 := hp
                                have g := g.more hF_198
                                subst hQ
                                exact W.vret hx hb hr (fun t ht hW => ⟨⟨_, rfl, Or.inr (⟨1201, kb_1201, x_150, h_151, a_27, ⟨ma_27, ka_27⟩, (g.fcts [0, 3, 6] rfl)⟩), q3_of g hK ht hW⟩, g.2.2.1.F ht⟩) g.2.2.1.2.2 dX2_readMemberHead_308
                have kb_0 : bd 0 0 (0 : Int32) := ⟨by decide, by decide⟩
                have kb_1 : bd 1 1 (1 : Int32) := ⟨by decide, by decide⟩
                have hl9 := lv_sub hl [0, 1, 2, 3, 4, 5, 6] (by rfl : lv_pick [(7, .int 0), (6, .int 1), (5, .int x_12), (4, .int r_7), (2, .long r_6), (1, .int r_5), (0, .ref a0_)] [0, 1, 2, 3, 4, 5, 6] = [(7, .int 0), (6, .int 1), (5, .int x_12), (4, .int r_7), (2, .long r_6), (1, .int r_5), (0, .ref a0_)])
                have g9 := g.sub (fx' := [(8, 6, q0_, .int x_38), (8, 8, q0_, .int x_40), (2, 6, a0_, .int 0), (9, 8, q3_, .int x_25), (2, 5, a0_, .ref a_27), (7, 3, q2_, .int x_28), (6, 12, a_27, .int x_30), (5, 2, q1_, .int x_21), (7, 2, q2_, .ref a_18), (9, 9, q3_, .ref a_11), (2, 0, a0_, .ref q0_), (2, 1, a0_, .ref q1_), (2, 3, a0_, .ref q2_), (2, 4, a0_, .ref q3_), (5, 1, q1_, .ref q5_)]) [0, 1, 2, 3, 4, 5, 6, 7, 8, 9, 10, 11, 12, 13, 14] rfl
                exact loop_77 (11) 0 1 x_38 x_40 (bd_sub kb_0 (by decide)) (bd_sub kb_1 (by decide)) h_39 h_41 (by have h9_0 := h_39; unfold bd at h9_0; have h9_1 := h_41; unfold bd at h9_1; have h9_2 := kb_0; unfold bd at h9_2; have h9_3 := kb_1; unfold bd at h9_3; have h9_4 := kb_3; unfold bd at h9_4; have h9_5 := kb_41; unfold bd at h9_5; have h9_6 := kb_m1; unfold bd at h9_6; omega) _ _ _ _ g9  hl9
            · have g := g.more hF_45
              refine lv_aload_n hx hb dX2_readMemberHead_177 rfl (lv_at hl 4 rfl) ?_
              refine g_getk (C := RX2) (T := TX2) (N := 16) hx hb hts (mc_ inX2) hown hK g rfl 0 (by decide) rfl (hts _ (List.mem_cons_of_mem _ t_416)) (fun _ h9 => h9) 10 rfl dX2_readMemberHead_178 ?_
              have kb_1201 : bd 1201 1201 (1201 : Int32) := ⟨by decide, by decide⟩
              refine g_calli (va_runV (As := []) (rest := []) ⟨hx, hb, hml, hown, hts⟩ (r_X8_kind_2 l dC dI L kd tys fr_37 H.size g.2.2.2.1 q0_ mq0_ kq0_ 1201 kb_1201 (g.fcts [0] rfl)) (cwV 0 hts (gV_ t_1118 t_1119 t_1120 t_184 t_1121) rfl rfl rfl (by decide +kernel) ⟨(Nat.le_of_ble_eq_true rfl), (Nat.le_of_ble_eq_true rfl)⟩) (pre3V g hK mq0_ kq0_ (by decide) (q := (RX8, TX8, 10)) rfl) rfl rfl hl.1 rfl (lv_room (Nat.le_of_ble_eq_true rfl)) dX2_readMemberHead_181 ⟨(Nat.le_of_ble_eq_true rfl), (Nat.le_of_ble_eq_true rfl)⟩) g hK (by decide) (by decide) (fx' := [(8, 6, q0_, .int 1201), (8, 8, q0_, .int x_43), (2, 6, a0_, .int 0), (9, 8, q3_, .int x_25), (2, 5, a0_, .ref a_27), (7, 3, q2_, .int x_28), (6, 12, a_27, .int x_30), (5, 2, q1_, .int x_21), (7, 2, q2_, .ref a_18), (9, 9, q3_, .ref a_11), (2, 0, a0_, .ref q0_), (2, 1, a0_, .ref q1_), (2, 3, a0_, .ref q2_), (2, 4, a0_, .ref q3_), (5, 1, q1_, .ref q5_)]) rfl (fun r_199 fr_199 H locs hp hMr_199 g => ?_)
              obtain ⟨h_200, -⟩ := hp
              obtain rfl : r_199 = 0 := h_200
              refine lv_bipush (v := 41) hx hb dX2_readMemberHead_184 (by decide) ?_
              refine lv_icmp_eq (tgt := 193) hx hb dX2_readMemberHead_186 (by decide) (fun c_ => absurd c_ (by decide)) (fun c_ => ?_)
              refine lv_iconst (v := 1) hx hb dX2_readMemberHead_189 (by decide) ?_
              refine lv_goto (tgt := 194) hx hb dX2_readMemberHead_190 (by decide) ?_
              refine lv_istore (lv' := [(6, .int 1), (5, .int x_12), (4, .int r_7), (2, .long r_6), (1, .int r_5), (0, .ref a0_)]) hx hb dX2_readMemberHead_194 hl (by decide) rfl (fun ls hl => ?_)
              refine lv_iconst (v := 0) hx hb dX2_readMemberHead_196 (by decide) ?_
              refine lv_istore (lv' := [(7, .int 0), (6, .int 1), (5, .int x_12), (4, .int r_7), (2, .long r_6), (1, .int r_5), (0, .ref a0_)]) hx hb dX2_readMemberHead_197 hl (by decide) rfl (fun ls hl => ?_)
              have loop_201 : ∀ (n : Nat) (v199_7 : Int32) (v199_6 : Int32), bd 0 4 v199_7 → bd 0 1 v199_6 → (4 - v199_7.toInt < (n : Int)) → ∀ (f : Nat → va_E) (H : Heap) (locs : List Loc) (ls : Array Slot), G3 (dC, dI) L kd tys s f0 [(2, 5), (2, 6), (5, 4), (6, 0), (6, 1), (6, 2), (6, 3), (6, 6), (6, 7), (6, 8), (6, 9), (6, 10), (6, 11), (6, 12), (7, 3), (8, 6), (8, 8), (8, 9), (9, 8)] [132, 134, 135, 156] f H locs [(8, 6, q0_, .int 1201), (8, 8, q0_, .int x_43), (2, 6, a0_, .int 0), (9, 8, q3_, .int x_25), (2, 5, a0_, .ref a_27), (7, 3, q2_, .int x_28), (6, 12, a_27, .int x_30), (5, 2, q1_, .int x_21), (7, 2, q2_, .ref a_18), (9, 9, q3_, .ref a_11), (2, 0, a0_, .ref q0_), (2, 1, a0_, .ref q1_), (2, 3, a0_, .ref q2_), (2, 4, a0_, .ref q3_), (5, 1, q1_, .ref q5_)] → lv_has ls 8 [(7, .int v199_7), (6, .int v199_6), (5, .int x_12), (4, .int r_7), (2, .long r_6), (1, .int r_5), (0, .ref a0_)] → W p l e ({ frames := 3, cells := 0, slots := 0, locals := 72 } : Room) s m [.ref a0_].toArray below meth c H locs 0 0 Q (F0 m 199 ls []) := by
                intro n199
                induction n199 with
                | zero =>
                  intro v199_7 v199_6 bv199_7 bv199_6 hm199 f H locs ls g  hl
                  exact absurd hm199 (by have h9_v199_7 := bv199_7; unfold bd at h9_v199_7; have h9_v199_6 := bv199_6; unfold bd at h9_v199_6; omega)
                | succ n199 ih199 =>
                  intro v199_7 v199_6 bv199_7 bv199_6 hm199 f H locs ls g  hl
                  refine lv_iload hx hb dX2_readMemberHead_199 (lv_at hl 0 rfl) ?_
                  refine lv_iconst (v := 3) hx hb dX2_readMemberHead_201 (by decide) ?_
                  refine lv_icmp_gt (tgt := 251) hx hb dX2_readMemberHead_202 (by decide) (fun c_202 => ?_) (fun c_202 => ?_)
                  · have fc_202 := lt_f c_202
                    have b_203 : bd 4 4 v199_7 := ltR fc_202 kb_3 bv199_7 (by decide)
                    refine lv_aload_n hx hb dX2_readMemberHead_251 rfl (lv_at hl 6 rfl) ?_
                    refine g_getk (C := RX2) (T := TX2) (N := 16) hx hb hts (mc_ inX2) hown hK g rfl 0 (by decide) rfl (hts _ (List.mem_cons_of_mem _ t_416)) (fun _ h9 => h9) 10 rfl dX2_readMemberHead_252 ?_
                    refine g_calli (va_runV (As := []) (rest := []) ⟨hx, hb, hml, hown, hts⟩ (r_X8_place l dC dI L kd tys f H.size g.2.2.2.1 q0_ mq0_ kq0_) (cwV 0 hts (gV_ t_1110 t_1111 t_1112 t_184 t_1113) rfl rfl rfl (by decide +kernel) ⟨(Nat.le_of_ble_eq_true rfl), (Nat.le_of_ble_eq_true rfl)⟩) (pre3V g hK mq0_ kq0_ (by decide) (q := (RX8, TX8, 10)) rfl) rfl rfl hl.1 rfl (lv_room (Nat.le_of_ble_eq_true rfl)) dX2_readMemberHead_255 ⟨(Nat.le_of_ble_eq_true rfl), (Nat.le_of_ble_eq_true rfl)⟩) g hK (by decide) (by decide) (fx' := [(8, 6, q0_, .int 1201), (8, 8, q0_, .int x_43), (2, 6, a0_, .int 0), (9, 8, q3_, .int x_25), (2, 5, a0_, .ref a_27), (7, 3, q2_, .int x_28), (6, 12, a_27, .int x_30), (5, 2, q1_, .int x_21), (7, 2, q2_, .ref a_18), (9, 9, q3_, .ref a_11), (2, 0, a0_, .ref q0_), (2, 1, a0_, .ref q1_), (2, 3, a0_, .ref q2_), (2, 4, a0_, .ref q3_), (5, 1, q1_, .ref q5_)]) rfl (fun r_204 fr_204 H locs hp hMr_204 g => ?_)
                    refine lv_istore (lv' := [(7, .int r_204), (6, .int v199_6), (5, .int x_12), (4, .int r_7), (2, .long r_6), (1, .int r_5), (0, .ref a0_)]) hx hb dX2_readMemberHead_258 hl (by decide) rfl (fun ls hl => ?_)
                    refine lv_aload_n hx hb dX2_readMemberHead_260 rfl (lv_at hl 6 rfl) ?_
                    refine g_getk (C := RX2) (T := TX2) (N := 16) hx hb hts (mc_ inX2) hown hK g rfl 0 (by decide) rfl (hts _ (List.mem_cons_of_mem _ t_416)) (fun _ h9 => h9) 10 rfl dX2_readMemberHead_261 ?_
                    refine lv_bipush (v := 41) hx hb dX2_readMemberHead_264 (by decide) ?_
                    refine g_callv (va_runV (As := [.int 41]) (rest := []) ⟨hx, hb, hml, hown, hts⟩ (r_X8_take_2 l dC dI L kd tys fr_204 H.size g.2.2.2.1 q0_ mq0_ kq0_ 41 1201 kb_1201 x_43 h_44 (g.fcts [0, 1] rfl)) (cwV 1 hts (gV_ t_1098 t_1099 t_1100 t_184 t_1101) rfl rfl rfl (by decide +kernel) ⟨(Nat.le_of_ble_eq_true rfl), (Nat.le_of_ble_eq_true rfl)⟩) (pre3V g hK mq0_ kq0_ (by decide) (q := (RX8, TX8, 10)) rfl) rfl rfl hl.1 rfl (lv_room (Nat.le_of_ble_eq_true rfl)) dX2_readMemberHead_266 ⟨(Nat.le_of_ble_eq_true rfl), (Nat.le_of_ble_eq_true rfl)⟩) g hK (by decide) (by decide) (fx' := [(8, 8, q0_, .int x_43), (2, 6, a0_, .int 0), (9, 8, q3_, .int x_25), (2, 5, a0_, .ref a_27), (7, 3, q2_, .int x_28), (6, 12, a_27, .int x_30), (5, 2, q1_, .int x_21), (7, 2, q2_, .ref a_18), (9, 9, q3_, .ref a_11), (2, 0, a0_, .ref q0_), (2, 1, a0_, .ref q1_), (2, 3, a0_, .ref q2_), (2, 4, a0_, .ref q3_), (5, 1, q1_, .ref q5_)]) rfl (fun fr_205 H locs hp hMr_205 g => ?_)
                    obtain ⟨x_206, h_207, hF_208⟩ := hp
                    have g := g.more hF_208
                    refine lv_iload hx hb dX2_readMemberHead_269 (lv_at hl 2 rfl) ?_
                    refine lv_iconst (v := (-1)) hx hb dX2_readMemberHead_271 (by decide) ?_
                    refine lv_icmp_eq (tgt := 308) hx hb dX2_readMemberHead_272 (by decide) (fun c_209 => ?_) (fun c_209 => ?_)
                    · have fc_209 := eq_f c_209
                      have b_210 : bd 0 (-1) x_12 := eqX fc_209 bx_12 kb_m1 (by decide)
                      exact bd_no b_210 (by decide)
                    · have fc_209 := neq_f c_209
                      refine lv_aload_n hx hb dX2_readMemberHead_275 rfl (lv_at hl 6 rfl) ?_
                      refine g_getk (C := RX2) (T := TX2) (N := 16) hx hb hts (mc_ inX2) hown hK g rfl 3 (by decide) rfl (hts _ (List.mem_cons_of_mem _ t_419)) (fun _ h9 => h9) 12 rfl dX2_readMemberHead_276 ?_
                      refine g_getk (C := RX7) (T := TX7) (N := 19) hx hb hts (mc_ inX7) hown hK g rfl 2 (by decide) rfl (hts _ (List.mem_cons_of_mem _ t_630)) (fun _ h9 => h9) 8 rfl dX2_readMemberHead_279 ?_
                      refine lv_iload hx hb dX2_readMemberHead_282 (lv_at hl 2 rfl) ?_
                      refine g_aald hx hb hK g ma_18 ka_18 (by decide) rfl (by decide) (in_bd bx_12 (by decide)) dX2_readMemberHead_284 (fun a_211 ma_211 ua_211 wa_211 => ?_)
                      have ka_211 : kd a_211 = 6 := by omega
                      refine g_geti (C := RX6) (T := TX6) (N := 13) hx hb hts (mc_ inX6) hown hK g ma_211 ka_211 (by decide) rfl 3 (by decide) rfl (hts _ (List.mem_cons_of_mem _ t_568)) (fun _ h9 => h9) rfl dX2_readMemberHead_285 (fun x_212 bx_212 g => ?_)
                      refine lv_aload_n hx hb dX2_readMemberHead_288 rfl (lv_at hl 6 rfl) ?_
                      refine g_getk (C := RX2) (T := TX2) (N := 16) hx hb hts (mc_ inX2) hown hK g rfl 5 (by decide) rfl (hts _ (List.mem_cons_of_mem _ t_421)) (fun _ h9 => h9) 5 rfl dX2_readMemberHead_289 ?_
                      refine g_geti (C := RX6) (T := TX6) (N := 13) hx hb hts (mc_ inX6) hown hK g ma_27 ka_27 (by decide) rfl 3 (by decide) rfl (hts _ (List.mem_cons_of_mem _ t_568)) (fun _ h9 => h9) rfl dX2_readMemberHead_292 (fun x_213 bx_213 g => ?_)
                      refine lv_icmp_eq (tgt := 308) hx hb dX2_readMemberHead_295 (by decide) (fun c_214 => ?_) (fun c_214 => ?_)
                      · have fc_214 := eq_f c_214
                        subst hQ
                        exact W.vret hx hb hr (fun t ht hW => ⟨⟨_, rfl, Or.inr (⟨x_206, h_207, x_43, h_44, a_27, ⟨ma_27, ka_27⟩, (g.fcts [2, 3, 6] rfl)⟩), q3_of g hK ht hW⟩, g.2.2.1.F ht⟩) g.2.2.1.2.2 dX2_readMemberHead_308
                      · have fc_214 := neq_f c_214
                        refine lv_aload_n hx hb dX2_readMemberHead_298 rfl (lv_at hl 6 rfl) ?_
                        refine g_getk (C := RX2) (T := TX2) (N := 16) hx hb hts (mc_ inX2) hown hK g rfl 0 (by decide) rfl (hts _ (List.mem_cons_of_mem _ t_416)) (fun _ h9 => h9) 12 rfl dX2_readMemberHead_299 ?_
                        refine lv_iconst (v := 5) hx hb dX2_readMemberHead_302 (by decide) ?_
                        refine lv_iload hx hb dX2_readMemberHead_303 (lv_at hl 0 rfl) ?_
                        have kb_5 : bd 5 5 (5 : Int32) := ⟨by decide, by decide⟩
                        refine g_callv (va_runV (As := [.int 5, .int r_204]) (rest := []) ⟨hx, hb, hml, hown, hts⟩ (r_X8_fail_2 l dC dI L kd tys fr_205 H.size g.2.2.2.1 q0_ mq0_ kq0_ 5 (bd_sub kb_5 (by decide)) r_204 x_43 h_44 (g.fcts [3] rfl)) (cwV 2 hts (gV_ t_1122 t_1107 t_1108 t_184 t_1109) rfl rfl rfl (by decide +kernel) ⟨(Nat.le_of_ble_eq_true rfl), (Nat.le_of_ble_eq_true rfl)⟩) (pre3V g hK mq0_ kq0_ (by decide) (q := (RX8, TX8, 10)) rfl) rfl rfl hl.1 rfl (lv_room (Nat.le_of_ble_eq_true rfl)) dX2_readMemberHead_305 ⟨(Nat.le_of_ble_eq_true rfl), (Nat.le_of_ble_eq_true rfl)⟩) g hK (by decide) (by decide) (fx' := [(6, 3, a_27, .int x_213), (6, 3, a_211, .int x_212), (8, 8, q0_, .int x_43), (2, 6, a0_, .int 0), (9, 8, q3_, .int x_25), (2, 5, a0_, .ref a_27), (7, 3, q2_, .int x_28), (6, 12, a_27, .int x_30), (5, 2, q1_, .int x_21), (7, 2, q2_, .ref a_18), (9, 9, q3_, .ref a_11), (2, 0, a0_, .ref q0_), (2, 1, a0_, .ref q1_), (2, 3, a0_, .ref q2_), (2, 4, a0_, .ref q3_), (5, 1, q1_, .ref q5_)]) rfl (fun fr_215 H locs hp hMr_215 g => ?_)
                        have hF_216 := hp
                        have g := g.more hF_216
                        subst hQ
                        exact W.vret hx hb hr (fun t ht hW => ⟨⟨_, rfl, Or.inr (⟨1201, kb_1201, x_43, h_44, a_27, ⟨ma_27, ka_27⟩, (g.fcts [0, 3, 6] rfl)⟩), q3_of g hK ht hW⟩, g.2.2.1.F ht⟩) g.2.2.1.2.2 dX2_readMemberHead_308
                  · have fc_202 := nlt_f c_202
                    have b_217 : bd 0 3 v199_7 := leL fc_202 bv199_7 kb_3 (by decide)
                    refine lv_iload hx hb dX2_readMemberHead_205 (lv_at hl 1 rfl) ?_
                    have kb_0 : bd 0 0 (0 : Int32) := ⟨by decide, by decide⟩
                    refine lv_if_eq (tgt := 251) hx hb dX2_readMemberHead_207 (by decide) (fun c_218 => ?_) (fun c_218 => ?_)
                    · have fc_218 := eq_f c_218
                      have b_219 : bd 0 0 v199_6 := eqX fc_218 bv199_6 kb_0 (by decide)
                      refine lv_aload_n hx hb dX2_readMemberHead_251 rfl (lv_at hl 6 rfl) ?_
                      refine g_getk (C := RX2) (T := TX2) (N := 16) hx hb hts (mc_ inX2) hown hK g rfl 0 (by decide) rfl (hts _ (List.mem_cons_of_mem _ t_416)) (fun _ h9 => h9) 10 rfl dX2_readMemberHead_252 ?_
                      refine g_calli (va_runV (As := []) (rest := []) ⟨hx, hb, hml, hown, hts⟩ (r_X8_place l dC dI L kd tys f H.size g.2.2.2.1 q0_ mq0_ kq0_) (cwV 0 hts (gV_ t_1110 t_1111 t_1112 t_184 t_1113) rfl rfl rfl (by decide +kernel) ⟨(Nat.le_of_ble_eq_true rfl), (Nat.le_of_ble_eq_true rfl)⟩) (pre3V g hK mq0_ kq0_ (by decide) (q := (RX8, TX8, 10)) rfl) rfl rfl hl.1 rfl (lv_room (Nat.le_of_ble_eq_true rfl)) dX2_readMemberHead_255 ⟨(Nat.le_of_ble_eq_true rfl), (Nat.le_of_ble_eq_true rfl)⟩) g hK (by decide) (by decide) (fx' := [(8, 6, q0_, .int 1201), (8, 8, q0_, .int x_43), (2, 6, a0_, .int 0), (9, 8, q3_, .int x_25), (2, 5, a0_, .ref a_27), (7, 3, q2_, .int x_28), (6, 12, a_27, .int x_30), (5, 2, q1_, .int x_21), (7, 2, q2_, .ref a_18), (9, 9, q3_, .ref a_11), (2, 0, a0_, .ref q0_), (2, 1, a0_, .ref q1_), (2, 3, a0_, .ref q2_), (2, 4, a0_, .ref q3_), (5, 1, q1_, .ref q5_)]) rfl (fun r_220 fr_220 H locs hp hMr_220 g => ?_)
                      refine lv_istore (lv' := [(7, .int r_220), (6, .int v199_6), (5, .int x_12), (4, .int r_7), (2, .long r_6), (1, .int r_5), (0, .ref a0_)]) hx hb dX2_readMemberHead_258 hl (by decide) rfl (fun ls hl => ?_)
                      refine lv_aload_n hx hb dX2_readMemberHead_260 rfl (lv_at hl 6 rfl) ?_
                      refine g_getk (C := RX2) (T := TX2) (N := 16) hx hb hts (mc_ inX2) hown hK g rfl 0 (by decide) rfl (hts _ (List.mem_cons_of_mem _ t_416)) (fun _ h9 => h9) 10 rfl dX2_readMemberHead_261 ?_
                      refine lv_bipush (v := 41) hx hb dX2_readMemberHead_264 (by decide) ?_
                      refine g_callv (va_runV (As := [.int 41]) (rest := []) ⟨hx, hb, hml, hown, hts⟩ (r_X8_take_2 l dC dI L kd tys fr_220 H.size g.2.2.2.1 q0_ mq0_ kq0_ 41 1201 kb_1201 x_43 h_44 (g.fcts [0, 1] rfl)) (cwV 1 hts (gV_ t_1098 t_1099 t_1100 t_184 t_1101) rfl rfl rfl (by decide +kernel) ⟨(Nat.le_of_ble_eq_true rfl), (Nat.le_of_ble_eq_true rfl)⟩) (pre3V g hK mq0_ kq0_ (by decide) (q := (RX8, TX8, 10)) rfl) rfl rfl hl.1 rfl (lv_room (Nat.le_of_ble_eq_true rfl)) dX2_readMemberHead_266 ⟨(Nat.le_of_ble_eq_true rfl), (Nat.le_of_ble_eq_true rfl)⟩) g hK (by decide) (by decide) (fx' := [(8, 8, q0_, .int x_43), (2, 6, a0_, .int 0), (9, 8, q3_, .int x_25), (2, 5, a0_, .ref a_27), (7, 3, q2_, .int x_28), (6, 12, a_27, .int x_30), (5, 2, q1_, .int x_21), (7, 2, q2_, .ref a_18), (9, 9, q3_, .ref a_11), (2, 0, a0_, .ref q0_), (2, 1, a0_, .ref q1_), (2, 3, a0_, .ref q2_), (2, 4, a0_, .ref q3_), (5, 1, q1_, .ref q5_)]) rfl (fun fr_221 H locs hp hMr_221 g => ?_)
                      obtain ⟨x_222, h_223, hF_224⟩ := hp
                      have g := g.more hF_224
                      refine lv_iload hx hb dX2_readMemberHead_269 (lv_at hl 2 rfl) ?_
                      refine lv_iconst (v := (-1)) hx hb dX2_readMemberHead_271 (by decide) ?_
                      refine lv_icmp_eq (tgt := 308) hx hb dX2_readMemberHead_272 (by decide) (fun c_225 => ?_) (fun c_225 => ?_)
                      · have fc_225 := eq_f c_225
                        have b_226 : bd 0 (-1) x_12 := eqX fc_225 bx_12 kb_m1 (by decide)
                        exact bd_no b_226 (by decide)
                      · have fc_225 := neq_f c_225
                        refine lv_aload_n hx hb dX2_readMemberHead_275 rfl (lv_at hl 6 rfl) ?_
                        refine g_getk (C := RX2) (T := TX2) (N := 16) hx hb hts (mc_ inX2) hown hK g rfl 3 (by decide) rfl (hts _ (List.mem_cons_of_mem _ t_419)) (fun _ h9 => h9) 12 rfl dX2_readMemberHead_276 ?_
                        refine g_getk (C := RX7) (T := TX7) (N := 19) hx hb hts (mc_ inX7) hown hK g rfl 2 (by decide) rfl (hts _ (List.mem_cons_of_mem _ t_630)) (fun _ h9 => h9) 8 rfl dX2_readMemberHead_279 ?_
                        refine lv_iload hx hb dX2_readMemberHead_282 (lv_at hl 2 rfl) ?_
                        refine g_aald hx hb hK g ma_18 ka_18 (by decide) rfl (by decide) (in_bd bx_12 (by decide)) dX2_readMemberHead_284 (fun a_227 ma_227 ua_227 wa_227 => ?_)
                        have ka_227 : kd a_227 = 6 := by omega
                        refine g_geti (C := RX6) (T := TX6) (N := 13) hx hb hts (mc_ inX6) hown hK g ma_227 ka_227 (by decide) rfl 3 (by decide) rfl (hts _ (List.mem_cons_of_mem _ t_568)) (fun _ h9 => h9) rfl dX2_readMemberHead_285 (fun x_228 bx_228 g => ?_)
                        refine lv_aload_n hx hb dX2_readMemberHead_288 rfl (lv_at hl 6 rfl) ?_
                        refine g_getk (C := RX2) (T := TX2) (N := 16) hx hb hts (mc_ inX2) hown hK g rfl 5 (by decide) rfl (hts _ (List.mem_cons_of_mem _ t_421)) (fun _ h9 => h9) 5 rfl dX2_readMemberHead_289 ?_
                        refine g_geti (C := RX6) (T := TX6) (N := 13) hx hb hts (mc_ inX6) hown hK g ma_27 ka_27 (by decide) rfl 3 (by decide) rfl (hts _ (List.mem_cons_of_mem _ t_568)) (fun _ h9 => h9) rfl dX2_readMemberHead_292 (fun x_229 bx_229 g => ?_)
                        refine lv_icmp_eq (tgt := 308) hx hb dX2_readMemberHead_295 (by decide) (fun c_230 => ?_) (fun c_230 => ?_)
                        · have fc_230 := eq_f c_230
                          subst hQ
                          exact W.vret hx hb hr (fun t ht hW => ⟨⟨_, rfl, Or.inr (⟨x_222, h_223, x_43, h_44, a_27, ⟨ma_27, ka_27⟩, (g.fcts [2, 3, 6] rfl)⟩), q3_of g hK ht hW⟩, g.2.2.1.F ht⟩) g.2.2.1.2.2 dX2_readMemberHead_308
                        · have fc_230 := neq_f c_230
                          refine lv_aload_n hx hb dX2_readMemberHead_298 rfl (lv_at hl 6 rfl) ?_
                          refine g_getk (C := RX2) (T := TX2) (N := 16) hx hb hts (mc_ inX2) hown hK g rfl 0 (by decide) rfl (hts _ (List.mem_cons_of_mem _ t_416)) (fun _ h9 => h9) 12 rfl dX2_readMemberHead_299 ?_
                          refine lv_iconst (v := 5) hx hb dX2_readMemberHead_302 (by decide) ?_
                          refine lv_iload hx hb dX2_readMemberHead_303 (lv_at hl 0 rfl) ?_
                          have kb_5 : bd 5 5 (5 : Int32) := ⟨by decide, by decide⟩
                          refine g_callv (va_runV (As := [.int 5, .int r_220]) (rest := []) ⟨hx, hb, hml, hown, hts⟩ (r_X8_fail_2 l dC dI L kd tys fr_221 H.size g.2.2.2.1 q0_ mq0_ kq0_ 5 (bd_sub kb_5 (by decide)) r_220 x_43 h_44 (g.fcts [3] rfl)) (cwV 2 hts (gV_ t_1122 t_1107 t_1108 t_184 t_1109) rfl rfl rfl (by decide +kernel) ⟨(Nat.le_of_ble_eq_true rfl), (Nat.le_of_ble_eq_true rfl)⟩) (pre3V g hK mq0_ kq0_ (by decide) (q := (RX8, TX8, 10)) rfl) rfl rfl hl.1 rfl (lv_room (Nat.le_of_ble_eq_true rfl)) dX2_readMemberHead_305 ⟨(Nat.le_of_ble_eq_true rfl), (Nat.le_of_ble_eq_true rfl)⟩) g hK (by decide) (by decide) (fx' := [(6, 3, a_27, .int x_229), (6, 3, a_227, .int x_228), (8, 8, q0_, .int x_43), (2, 6, a0_, .int 0), (9, 8, q3_, .int x_25), (2, 5, a0_, .ref a_27), (7, 3, q2_, .int x_28), (6, 12, a_27, .int x_30), (5, 2, q1_, .int x_21), (7, 2, q2_, .ref a_18), (9, 9, q3_, .ref a_11), (2, 0, a0_, .ref q0_), (2, 1, a0_, .ref q1_), (2, 3, a0_, .ref q2_), (2, 4, a0_, .ref q3_), (5, 1, q1_, .ref q5_)]) rfl (fun fr_231 H locs hp hMr_231 g => ?_)
                          have hF_232 := hp
                          have g := g.more hF_232
                          subst hQ
                          exact W.vret hx hb hr (fun t ht hW => ⟨⟨_, rfl, Or.inr (⟨1201, kb_1201, x_43, h_44, a_27, ⟨ma_27, ka_27⟩, (g.fcts [0, 3, 6] rfl)⟩), q3_of g hK ht hW⟩, g.2.2.1.F ht⟩) g.2.2.1.2.2 dX2_readMemberHead_308
                    · have fc_218 := neq_f c_218
                      have b_233 : bd 1 1 v199_6 := neX fc_218 bv199_6 kb_0 (by decide)
                      refine lv_aload_n hx hb dX2_readMemberHead_210 rfl (lv_at hl 6 rfl) ?_
                      refine g_callv (va_runV (As := []) (rest := []) ⟨hx, hb, hml, hown, hts⟩ (r_X2_readParam_2 l dC dI L kd tys f H.size g.2.2.2.1 a0_ ma0_ ka0_ q0_ mq0_ kq0_ q1_ mq1_ kq1_ a_27 ma_27 ka_27 q5_ mq5_ kq5_ 1201 kb_1201 x_43 h_44 (g.fcts [10, 11, 4, 14, 0, 1] rfl)) (cwV 0 hts (gV_ t_1313 t_1315 t_34 t_183 t_1316) rfl rfl rfl (by decide +kernel) ⟨(Nat.le_of_ble_eq_true rfl), (Nat.le_of_ble_eq_true rfl)⟩) (pre3V g hK ma0_ ka0_ (by decide) (q := (RX2, TX2, 16)) rfl) rfl rfl hl.1 rfl (lv_room (Nat.le_of_ble_eq_true rfl)) dX2_readMemberHead_211 ⟨(Nat.le_of_ble_eq_true rfl), (Nat.le_of_ble_eq_true rfl)⟩) g hK (by decide) (by decide) (fx' := [(8, 8, q0_, .int x_43), (2, 6, a0_, .int 0), (9, 8, q3_, .int x_25), (2, 5, a0_, .ref a_27), (7, 3, q2_, .int x_28), (6, 12, a_27, .int x_30), (5, 2, q1_, .int x_21), (7, 2, q2_, .ref a_18), (9, 9, q3_, .ref a_11), (2, 0, a0_, .ref q0_), (2, 1, a0_, .ref q1_), (2, 3, a0_, .ref q2_), (2, 4, a0_, .ref q3_), (5, 1, q1_, .ref q5_)]) rfl (fun fr_234 H locs hp hMr_234 g => ?_)
                      have hF_235 := hp
                      have g := g.more hF_235
                      refine lv_aload_n hx hb dX2_readMemberHead_214 rfl (lv_at hl 6 rfl) ?_
                      refine g_getk (C := RX2) (T := TX2) (N := 16) hx hb hts (mc_ inX2) hown hK g rfl 0 (by decide) rfl (hts _ (List.mem_cons_of_mem _ t_416)) (fun _ h9 => h9) 10 rfl dX2_readMemberHead_215 ?_
                      refine g_calli (va_runV (As := []) (rest := []) ⟨hx, hb, hml, hown, hts⟩ (r_X8_kind_2 l dC dI L kd tys fr_234 H.size g.2.2.2.1 q0_ mq0_ kq0_ 1201 kb_1201 (g.fcts [0] rfl)) (cwV 0 hts (gV_ t_1118 t_1119 t_1120 t_184 t_1121) rfl rfl rfl (by decide +kernel) ⟨(Nat.le_of_ble_eq_true rfl), (Nat.le_of_ble_eq_true rfl)⟩) (pre3V g hK mq0_ kq0_ (by decide) (q := (RX8, TX8, 10)) rfl) rfl rfl hl.1 rfl (lv_room (Nat.le_of_ble_eq_true rfl)) dX2_readMemberHead_218 ⟨(Nat.le_of_ble_eq_true rfl), (Nat.le_of_ble_eq_true rfl)⟩) g hK (by decide) (by decide) (fx' := [(8, 6, q0_, .int 1201), (8, 8, q0_, .int x_43), (2, 6, a0_, .int 0), (9, 8, q3_, .int x_25), (2, 5, a0_, .ref a_27), (7, 3, q2_, .int x_28), (6, 12, a_27, .int x_30), (5, 2, q1_, .int x_21), (7, 2, q2_, .ref a_18), (9, 9, q3_, .ref a_11), (2, 0, a0_, .ref q0_), (2, 1, a0_, .ref q1_), (2, 3, a0_, .ref q2_), (2, 4, a0_, .ref q3_), (5, 1, q1_, .ref q5_)]) rfl (fun r_236 fr_236 H locs hp hMr_236 g => ?_)
                      obtain ⟨h_237, -⟩ := hp
                      obtain rfl : r_236 = 0 := h_237
                      refine lv_bipush (v := 44) hx hb dX2_readMemberHead_221 (by decide) ?_
                      refine lv_icmp_ne (tgt := 230) hx hb dX2_readMemberHead_223 (by decide) (fun c_ => ?_) (fun c_ => absurd c_ (by decide))
                      refine lv_iconst (v := 0) hx hb dX2_readMemberHead_230 (by decide) ?_
                      refine lv_istore (lv' := [(6, .int 0), (7, .int v199_7), (5, .int x_12), (4, .int r_7), (2, .long r_6), (1, .int r_5), (0, .ref a0_)]) hx hb dX2_readMemberHead_231 hl (by decide) rfl (fun ls hl => ?_)
                      refine lv_iload hx hb dX2_readMemberHead_233 (lv_at hl 0 rfl) ?_
                      refine lv_if_eq (tgt := 245) hx hb dX2_readMemberHead_235 (by decide) (fun c_ => ?_) (fun c_ => absurd (by decide) c_)
                      have kb_1 : bd 1 1 (1 : Int32) := ⟨by decide, by decide⟩
                      obtain ⟨y_238, ey_238⟩ : ∃ z : Int32, z = v199_7 + 1 := ⟨_, rfl⟩
                      refine lv_iinc (v := y_238) (lv' := [(7, .int y_238), (6, .int 0), (5, .int x_12), (4, .int r_7), (2, .long r_6), (1, .int r_5), (0, .ref a0_)]) hx hb dX2_readMemberHead_245 hl (k := 1) rfl (by rw [ey_238]; rfl) (by decide) rfl (fun ls hl => ?_)
                      have ty_238 := add_bd ey_238 b_217 kb_1 (by decide)
                      have b_239 : bd 1 4 y_238 := add_rg ty_238 b_217 kb_1 (by decide)
                      refine lv_goto (tgt := 199) hx hb dX2_readMemberHead_248 (by decide) ?_
                      have hl9 := lv_sub hl [0, 1, 2, 3, 4, 5, 6] (by rfl : lv_pick [(7, .int y_238), (6, .int 0), (5, .int x_12), (4, .int r_7), (2, .long r_6), (1, .int r_5), (0, .ref a0_)] [0, 1, 2, 3, 4, 5, 6] = [(7, .int y_238), (6, .int 0), (5, .int x_12), (4, .int r_7), (2, .long r_6), (1, .int r_5), (0, .ref a0_)])
                      have g9 := g.sub (fx' := [(8, 6, q0_, .int 1201), (8, 8, q0_, .int x_43), (2, 6, a0_, .int 0), (9, 8, q3_, .int x_25), (2, 5, a0_, .ref a_27), (7, 3, q2_, .int x_28), (6, 12, a_27, .int x_30), (5, 2, q1_, .int x_21), (7, 2, q2_, .ref a_18), (9, 9, q3_, .ref a_11), (2, 0, a0_, .ref q0_), (2, 1, a0_, .ref q1_), (2, 3, a0_, .ref q2_), (2, 4, a0_, .ref q3_), (5, 1, q1_, .ref q5_)]) [0, 1, 2, 3, 4, 5, 6, 7, 8, 9, 10, 11, 12, 13, 14] rfl
                      exact ih199  y_238 0 (bd_sub b_239 (by decide)) (bd_sub kb_0 (by decide)) (by have h9_0 := b_239; unfold bd at h9_0; have h9_1 := bv199_6; unfold bd at h9_1; have h9_2 := bv199_7; unfold bd at h9_2; have h9_3 := kb_0; unfold bd at h9_3; have h9_4 := kb_1; unfold bd at h9_4; have h9_5 := kb_1201; unfold bd at h9_5; have h9_6 := kb_3; unfold bd at h9_6; have h9_7 := kb_m1; unfold bd at h9_7; omega) _ _ _ _ g9  hl9
              have kb_0 : bd 0 0 (0 : Int32) := ⟨by decide, by decide⟩
              have kb_1 : bd 1 1 (1 : Int32) := ⟨by decide, by decide⟩
              have hl9 := lv_sub hl [0, 1, 2, 3, 4, 5, 6] (by rfl : lv_pick [(7, .int 0), (6, .int 1), (5, .int x_12), (4, .int r_7), (2, .long r_6), (1, .int r_5), (0, .ref a0_)] [0, 1, 2, 3, 4, 5, 6] = [(7, .int 0), (6, .int 1), (5, .int x_12), (4, .int r_7), (2, .long r_6), (1, .int r_5), (0, .ref a0_)])
              have g9 := g.sub (fx' := [(8, 6, q0_, .int 1201), (8, 8, q0_, .int x_43), (2, 6, a0_, .int 0), (9, 8, q3_, .int x_25), (2, 5, a0_, .ref a_27), (7, 3, q2_, .int x_28), (6, 12, a_27, .int x_30), (5, 2, q1_, .int x_21), (7, 2, q2_, .ref a_18), (9, 9, q3_, .ref a_11), (2, 0, a0_, .ref q0_), (2, 1, a0_, .ref q1_), (2, 3, a0_, .ref q2_), (2, 4, a0_, .ref q3_), (5, 1, q1_, .ref q5_)]) [0, 1, 2, 3, 4, 5, 6, 7, 8, 9, 10, 11, 12, 13, 14] rfl
              exact loop_201 (11) 0 1 (bd_sub kb_0 (by decide)) (bd_sub kb_1 (by decide)) (by have h9_0 := kb_0; unfold bd at h9_0; have h9_1 := kb_1; unfold bd at h9_1; have h9_2 := kb_1201; unfold bd at h9_2; have h9_3 := kb_3; unfold bd at h9_3; have h9_4 := kb_m1; unfold bd at h9_4; omega) _ _ _ _ g9  hl9
          · have fc_23 := eq_f c_23
            have b_240 : bd 0 (-1) x_12 := eqX fc_23 bx_12 kb_m1 (by decide)
            exact bd_no b_240 (by decide)
        · have fc_22 := eq_f c_22
          refine lv_aload_n hx hb dX2_readMemberHead_111 rfl (lv_at hl 4 rfl) ?_
          refine g_getk (C := RX2) (T := TX2) (N := 16) hx hb hts (mc_ inX2) hown hK g rfl 0 (by decide) rfl (hts _ (List.mem_cons_of_mem _ t_416)) (fun _ h9 => h9) 5 rfl dX2_readMemberHead_112 ?_
          refine lv_iconst (v := 2) hx hb dX2_readMemberHead_115 (by decide) ?_
          refine lv_iload_n hx hb dX2_readMemberHead_116 rfl (lv_at hl 3 rfl) ?_
          have kb_2 : bd 2 2 (2 : Int32) := ⟨by decide, by decide⟩
          refine g_callv (va_runV (As := [.int 2, .int r_5]) (rest := []) ⟨hx, hb, hml, hown, hts⟩ (r_X8_fail l dC dI L kd tys fr_13 H.size g.2.2.2.1 q0_ mq0_ kq0_ 2 (bd_sub kb_2 (by decide)) r_5 y0_ by0_ (g.fcts [11] rfl)) (cwV 2 hts (gV_ t_1122 t_1107 t_1108 t_184 t_1109) rfl rfl rfl (by decide +kernel) ⟨(Nat.le_of_ble_eq_true rfl), (Nat.le_of_ble_eq_true rfl)⟩) (pre3V g hK mq0_ kq0_ (by decide) (q := (RX8, TX8, 10)) rfl) rfl rfl hl.1 rfl (lv_room (Nat.le_of_ble_eq_true rfl)) dX2_readMemberHead_117 ⟨(Nat.le_of_ble_eq_true rfl), (Nat.le_of_ble_eq_true rfl)⟩) g hK (by decide) (by decide) (fx' := [(5, 2, q1_, .int x_21), (6, 2, a_19, .int x_20), (7, 2, q2_, .ref a_18), (9, 9, q3_, .ref a_11), (2, 0, a0_, .ref q0_), (2, 1, a0_, .ref q1_), (2, 3, a0_, .ref q2_), (2, 4, a0_, .ref q3_), (2, 5, a0_, .ref q4_), (5, 1, q1_, .ref q5_)]) rfl (fun fr_241 H locs hp hMr_241 g => ?_)
          obtain ⟨x_242, h_243, hF_244⟩ := hp
          have g := g.more hF_244
          refine lv_goto (tgt := 161) hx hb dX2_readMemberHead_120 (by decide) ?_
          refine lv_aload_n hx hb dX2_readMemberHead_161 rfl (lv_at hl 4 rfl) ?_
          refine g_getk (C := RX2) (T := TX2) (N := 16) hx hb hts (mc_ inX2) hown hK g rfl 0 (by decide) rfl (hts _ (List.mem_cons_of_mem _ t_416)) (fun _ h9 => h9) 6 rfl dX2_readMemberHead_162 ?_
          have kb_1201 : bd 1201 1201 (1201 : Int32) := ⟨by decide, by decide⟩
          refine g_callv (va_runV (As := []) (rest := []) ⟨hx, hb, hml, hown, hts⟩ (r_X8_next_2 l dC dI L kd tys fr_241 H.size g.2.2.2.1 q0_ mq0_ kq0_ 1201 kb_1201 (g.fcts [0] rfl)) (cwV 0 hts (gV_ t_1131 t_1103 t_1104 t_184 t_1105) rfl rfl rfl (by decide +kernel) ⟨(Nat.le_of_ble_eq_true rfl), (Nat.le_of_ble_eq_true rfl)⟩) (pre3V g hK mq0_ kq0_ (by decide) (q := (RX8, TX8, 10)) rfl) rfl rfl hl.1 rfl (lv_room (Nat.le_of_ble_eq_true rfl)) dX2_readMemberHead_165 ⟨(Nat.le_of_ble_eq_true rfl), (Nat.le_of_ble_eq_true rfl)⟩) g hK (by decide) (by decide) (fx' := [(8, 6, q0_, .int 1201), (8, 8, q0_, .int x_242), (5, 2, q1_, .int x_21), (6, 2, a_19, .int x_20), (7, 2, q2_, .ref a_18), (9, 9, q3_, .ref a_11), (2, 0, a0_, .ref q0_), (2, 1, a0_, .ref q1_), (2, 3, a0_, .ref q2_), (2, 4, a0_, .ref q3_), (2, 5, a0_, .ref q4_), (5, 1, q1_, .ref q5_)]) rfl (fun fr_245 H locs hp hMr_245 g => ?_)
          refine lv_aload_n hx hb dX2_readMemberHead_168 rfl (lv_at hl 4 rfl) ?_
          refine g_getk (C := RX2) (T := TX2) (N := 16) hx hb hts (mc_ inX2) hown hK g rfl 0 (by decide) rfl (hts _ (List.mem_cons_of_mem _ t_416)) (fun _ h9 => h9) 6 rfl dX2_readMemberHead_169 ?_
          refine lv_bipush (v := 40) hx hb dX2_readMemberHead_172 (by decide) ?_
          refine g_callv (va_runV (As := [.int 40]) (rest := []) ⟨hx, hb, hml, hown, hts⟩ (r_X8_take_2 l dC dI L kd tys fr_245 H.size g.2.2.2.1 q0_ mq0_ kq0_ 40 1201 kb_1201 x_242 h_243 (g.fcts [0, 1] rfl)) (cwV 1 hts (gV_ t_1098 t_1099 t_1100 t_184 t_1101) rfl rfl rfl (by decide +kernel) ⟨(Nat.le_of_ble_eq_true rfl), (Nat.le_of_ble_eq_true rfl)⟩) (pre3V g hK mq0_ kq0_ (by decide) (q := (RX8, TX8, 10)) rfl) rfl rfl hl.1 rfl (lv_room (Nat.le_of_ble_eq_true rfl)) dX2_readMemberHead_174 ⟨(Nat.le_of_ble_eq_true rfl), (Nat.le_of_ble_eq_true rfl)⟩) g hK (by decide) (by decide) (fx' := [(8, 8, q0_, .int x_242), (5, 2, q1_, .int x_21), (6, 2, a_19, .int x_20), (7, 2, q2_, .ref a_18), (9, 9, q3_, .ref a_11), (2, 0, a0_, .ref q0_), (2, 1, a0_, .ref q1_), (2, 3, a0_, .ref q2_), (2, 4, a0_, .ref q3_), (2, 5, a0_, .ref q4_), (5, 1, q1_, .ref q5_)]) rfl (fun fr_246 H locs hp hMr_246 g => ?_)
          obtain ⟨x_247, h_248, hF_249⟩ := hp
          have g := g.more hF_249
          refine lv_aload_n hx hb dX2_readMemberHead_177 rfl (lv_at hl 4 rfl) ?_
          refine g_getk (C := RX2) (T := TX2) (N := 16) hx hb hts (mc_ inX2) hown hK g rfl 0 (by decide) rfl (hts _ (List.mem_cons_of_mem _ t_416)) (fun _ h9 => h9) 6 rfl dX2_readMemberHead_178 ?_
          refine g_calli (va_runV (As := []) (rest := []) ⟨hx, hb, hml, hown, hts⟩ (r_X8_kind_2 l dC dI L kd tys fr_246 H.size g.2.2.2.1 q0_ mq0_ kq0_ x_247 h_248 (g.fcts [0] rfl)) (cwV 0 hts (gV_ t_1118 t_1119 t_1120 t_184 t_1121) rfl rfl rfl (by decide +kernel) ⟨(Nat.le_of_ble_eq_true rfl), (Nat.le_of_ble_eq_true rfl)⟩) (pre3V g hK mq0_ kq0_ (by decide) (q := (RX8, TX8, 10)) rfl) rfl rfl hl.1 rfl (lv_room (Nat.le_of_ble_eq_true rfl)) dX2_readMemberHead_181 ⟨(Nat.le_of_ble_eq_true rfl), (Nat.le_of_ble_eq_true rfl)⟩) g hK (by decide) (by decide) (fx' := [(8, 6, q0_, .int x_247), (8, 8, q0_, .int x_242), (5, 2, q1_, .int x_21), (6, 2, a_19, .int x_20), (7, 2, q2_, .ref a_18), (9, 9, q3_, .ref a_11), (2, 0, a0_, .ref q0_), (2, 1, a0_, .ref q1_), (2, 3, a0_, .ref q2_), (2, 4, a0_, .ref q3_), (2, 5, a0_, .ref q4_), (5, 1, q1_, .ref q5_)]) rfl (fun r_250 fr_250 H locs hp hMr_250 g => ?_)
          obtain ⟨h_251, -⟩ := hp
          obtain rfl : r_250 = 0 := h_251
          refine lv_bipush (v := 41) hx hb dX2_readMemberHead_184 (by decide) ?_
          refine lv_icmp_eq (tgt := 193) hx hb dX2_readMemberHead_186 (by decide) (fun c_ => absurd c_ (by decide)) (fun c_ => ?_)
          refine lv_iconst (v := 1) hx hb dX2_readMemberHead_189 (by decide) ?_
          refine lv_goto (tgt := 194) hx hb dX2_readMemberHead_190 (by decide) ?_
          refine lv_istore (lv' := [(6, .int 1), (5, .int x_12), (4, .int r_7), (2, .long r_6), (1, .int r_5), (0, .ref a0_)]) hx hb dX2_readMemberHead_194 hl (by decide) rfl (fun ls hl => ?_)
          refine lv_iconst (v := 0) hx hb dX2_readMemberHead_196 (by decide) ?_
          refine lv_istore (lv' := [(7, .int 0), (6, .int 1), (5, .int x_12), (4, .int r_7), (2, .long r_6), (1, .int r_5), (0, .ref a0_)]) hx hb dX2_readMemberHead_197 hl (by decide) rfl (fun ls hl => ?_)
          have loop_252 : ∀ (n : Nat) (v199_7 : Int32) (v199_6 : Int32) (w199_8_6_q0_ : Int32), bd 0 4 v199_7 → bd 0 1 v199_6 → bd 1201 1201 w199_8_6_q0_ → (4 - v199_7.toInt < (n : Int)) → ∀ (f : Nat → va_E) (H : Heap) (locs : List Loc) (ls : Array Slot), G3 (dC, dI) L kd tys s f0 [(2, 5), (2, 6), (5, 4), (6, 0), (6, 1), (6, 2), (6, 3), (6, 6), (6, 7), (6, 8), (6, 9), (6, 10), (6, 11), (6, 12), (7, 3), (8, 6), (8, 8), (8, 9), (9, 8)] [132, 134, 135, 156] f H locs [(8, 6, q0_, .int w199_8_6_q0_), (8, 8, q0_, .int x_242), (5, 2, q1_, .int x_21), (6, 2, a_19, .int x_20), (7, 2, q2_, .ref a_18), (9, 9, q3_, .ref a_11), (2, 0, a0_, .ref q0_), (2, 1, a0_, .ref q1_), (2, 3, a0_, .ref q2_), (2, 4, a0_, .ref q3_), (2, 5, a0_, .ref q4_), (5, 1, q1_, .ref q5_)] → lv_has ls 8 [(7, .int v199_7), (6, .int v199_6), (5, .int x_12), (4, .int r_7), (2, .long r_6), (1, .int r_5), (0, .ref a0_)] → W p l e ({ frames := 3, cells := 0, slots := 0, locals := 72 } : Room) s m [.ref a0_].toArray below meth c H locs 0 0 Q (F0 m 199 ls []) := by
            intro n199
            induction n199 with
            | zero =>
              intro v199_7 v199_6 w199_8_6_q0_ bv199_7 bv199_6 bw199_8_6_q0_ hm199 f H locs ls g  hl
              exact absurd hm199 (by have h9_v199_7 := bv199_7; unfold bd at h9_v199_7; have h9_v199_6 := bv199_6; unfold bd at h9_v199_6; have h9_w199_8_6_q0_ := bw199_8_6_q0_; unfold bd at h9_w199_8_6_q0_; omega)
            | succ n199 ih199 =>
              intro v199_7 v199_6 w199_8_6_q0_ bv199_7 bv199_6 bw199_8_6_q0_ hm199 f H locs ls g  hl
              refine lv_iload hx hb dX2_readMemberHead_199 (lv_at hl 0 rfl) ?_
              refine lv_iconst (v := 3) hx hb dX2_readMemberHead_201 (by decide) ?_
              refine lv_icmp_gt (tgt := 251) hx hb dX2_readMemberHead_202 (by decide) (fun c_253 => ?_) (fun c_253 => ?_)
              · have fc_253 := lt_f c_253
                have b_254 : bd 4 4 v199_7 := ltR fc_253 kb_3 bv199_7 (by decide)
                refine lv_aload_n hx hb dX2_readMemberHead_251 rfl (lv_at hl 6 rfl) ?_
                refine g_getk (C := RX2) (T := TX2) (N := 16) hx hb hts (mc_ inX2) hown hK g rfl 0 (by decide) rfl (hts _ (List.mem_cons_of_mem _ t_416)) (fun _ h9 => h9) 6 rfl dX2_readMemberHead_252 ?_
                refine g_calli (va_runV (As := []) (rest := []) ⟨hx, hb, hml, hown, hts⟩ (r_X8_place l dC dI L kd tys f H.size g.2.2.2.1 q0_ mq0_ kq0_) (cwV 0 hts (gV_ t_1110 t_1111 t_1112 t_184 t_1113) rfl rfl rfl (by decide +kernel) ⟨(Nat.le_of_ble_eq_true rfl), (Nat.le_of_ble_eq_true rfl)⟩) (pre3V g hK mq0_ kq0_ (by decide) (q := (RX8, TX8, 10)) rfl) rfl rfl hl.1 rfl (lv_room (Nat.le_of_ble_eq_true rfl)) dX2_readMemberHead_255 ⟨(Nat.le_of_ble_eq_true rfl), (Nat.le_of_ble_eq_true rfl)⟩) g hK (by decide) (by decide) (fx' := [(8, 6, q0_, .int w199_8_6_q0_), (8, 8, q0_, .int x_242), (5, 2, q1_, .int x_21), (6, 2, a_19, .int x_20), (7, 2, q2_, .ref a_18), (9, 9, q3_, .ref a_11), (2, 0, a0_, .ref q0_), (2, 1, a0_, .ref q1_), (2, 3, a0_, .ref q2_), (2, 4, a0_, .ref q3_), (2, 5, a0_, .ref q4_), (5, 1, q1_, .ref q5_)]) rfl (fun r_255 fr_255 H locs hp hMr_255 g => ?_)
                refine lv_istore (lv' := [(7, .int r_255), (6, .int v199_6), (5, .int x_12), (4, .int r_7), (2, .long r_6), (1, .int r_5), (0, .ref a0_)]) hx hb dX2_readMemberHead_258 hl (by decide) rfl (fun ls hl => ?_)
                refine lv_aload_n hx hb dX2_readMemberHead_260 rfl (lv_at hl 6 rfl) ?_
                refine g_getk (C := RX2) (T := TX2) (N := 16) hx hb hts (mc_ inX2) hown hK g rfl 0 (by decide) rfl (hts _ (List.mem_cons_of_mem _ t_416)) (fun _ h9 => h9) 6 rfl dX2_readMemberHead_261 ?_
                refine lv_bipush (v := 41) hx hb dX2_readMemberHead_264 (by decide) ?_
                refine g_callv (va_runV (As := [.int 41]) (rest := []) ⟨hx, hb, hml, hown, hts⟩ (r_X8_take_2 l dC dI L kd tys fr_255 H.size g.2.2.2.1 q0_ mq0_ kq0_ 41 w199_8_6_q0_ bw199_8_6_q0_ x_242 h_243 (g.fcts [0, 1] rfl)) (cwV 1 hts (gV_ t_1098 t_1099 t_1100 t_184 t_1101) rfl rfl rfl (by decide +kernel) ⟨(Nat.le_of_ble_eq_true rfl), (Nat.le_of_ble_eq_true rfl)⟩) (pre3V g hK mq0_ kq0_ (by decide) (q := (RX8, TX8, 10)) rfl) rfl rfl hl.1 rfl (lv_room (Nat.le_of_ble_eq_true rfl)) dX2_readMemberHead_266 ⟨(Nat.le_of_ble_eq_true rfl), (Nat.le_of_ble_eq_true rfl)⟩) g hK (by decide) (by decide) (fx' := [(8, 8, q0_, .int x_242), (5, 2, q1_, .int x_21), (6, 2, a_19, .int x_20), (7, 2, q2_, .ref a_18), (9, 9, q3_, .ref a_11), (2, 0, a0_, .ref q0_), (2, 1, a0_, .ref q1_), (2, 3, a0_, .ref q2_), (2, 4, a0_, .ref q3_), (2, 5, a0_, .ref q4_), (5, 1, q1_, .ref q5_)]) rfl (fun fr_256 H locs hp hMr_256 g => ?_)
                obtain ⟨x_257, h_258, hF_259⟩ := hp
                have g := g.more hF_259
                refine lv_iload hx hb dX2_readMemberHead_269 (lv_at hl 2 rfl) ?_
                refine lv_iconst (v := (-1)) hx hb dX2_readMemberHead_271 (by decide) ?_
                refine lv_icmp_eq (tgt := 308) hx hb dX2_readMemberHead_272 (by decide) (fun c_260 => ?_) (fun c_260 => ?_)
                · have fc_260 := eq_f c_260
                  have b_261 : bd 0 (-1) x_12 := eqX fc_260 bx_12 kb_m1 (by decide)
                  exact bd_no b_261 (by decide)
                · have fc_260 := neq_f c_260
                  refine lv_aload_n hx hb dX2_readMemberHead_275 rfl (lv_at hl 6 rfl) ?_
                  refine g_getk (C := RX2) (T := TX2) (N := 16) hx hb hts (mc_ inX2) hown hK g rfl 3 (by decide) rfl (hts _ (List.mem_cons_of_mem _ t_419)) (fun _ h9 => h9) 8 rfl dX2_readMemberHead_276 ?_
                  refine g_getk (C := RX7) (T := TX7) (N := 19) hx hb hts (mc_ inX7) hown hK g rfl 2 (by decide) rfl (hts _ (List.mem_cons_of_mem _ t_630)) (fun _ h9 => h9) 4 rfl dX2_readMemberHead_279 ?_
                  refine lv_iload hx hb dX2_readMemberHead_282 (lv_at hl 2 rfl) ?_
                  refine g_aald hx hb hK g ma_18 ka_18 (by decide) rfl (by decide) (in_bd bx_12 (by decide)) dX2_readMemberHead_284 (fun a_262 ma_262 ua_262 wa_262 => ?_)
                  have ka_262 : kd a_262 = 6 := by omega
                  refine g_geti (C := RX6) (T := TX6) (N := 13) hx hb hts (mc_ inX6) hown hK g ma_262 ka_262 (by decide) rfl 3 (by decide) rfl (hts _ (List.mem_cons_of_mem _ t_568)) (fun _ h9 => h9) rfl dX2_readMemberHead_285 (fun x_263 bx_263 g => ?_)
                  refine lv_aload_n hx hb dX2_readMemberHead_288 rfl (lv_at hl 6 rfl) ?_
                  refine g_getk (C := RX2) (T := TX2) (N := 16) hx hb hts (mc_ inX2) hown hK g rfl 5 (by decide) rfl (hts _ (List.mem_cons_of_mem _ t_421)) (fun _ h9 => h9) 11 rfl dX2_readMemberHead_289 ?_
                  refine g_geti (C := RX6) (T := TX6) (N := 13) hx hb hts (mc_ inX6) hown hK g mq4_ kq4_ (by decide) rfl 3 (by decide) rfl (hts _ (List.mem_cons_of_mem _ t_568)) (fun _ h9 => h9) rfl dX2_readMemberHead_292 (fun x_264 bx_264 g => ?_)
                  refine lv_icmp_eq (tgt := 308) hx hb dX2_readMemberHead_295 (by decide) (fun c_265 => ?_) (fun c_265 => ?_)
                  · have fc_265 := eq_f c_265
                    subst hQ
                    exact W.vret hx hb hr (fun t ht hW => ⟨⟨_, rfl, Or.inr (⟨x_257, h_258, x_242, h_243, q4_, ⟨mq4_, kq4_⟩, (g.fcts [2, 3, 12] rfl)⟩), q3_of g hK ht hW⟩, g.2.2.1.F ht⟩) g.2.2.1.2.2 dX2_readMemberHead_308
                  · have fc_265 := neq_f c_265
                    refine lv_aload_n hx hb dX2_readMemberHead_298 rfl (lv_at hl 6 rfl) ?_
                    refine g_getk (C := RX2) (T := TX2) (N := 16) hx hb hts (mc_ inX2) hown hK g rfl 0 (by decide) rfl (hts _ (List.mem_cons_of_mem _ t_416)) (fun _ h9 => h9) 8 rfl dX2_readMemberHead_299 ?_
                    refine lv_iconst (v := 5) hx hb dX2_readMemberHead_302 (by decide) ?_
                    refine lv_iload hx hb dX2_readMemberHead_303 (lv_at hl 0 rfl) ?_
                    have kb_5 : bd 5 5 (5 : Int32) := ⟨by decide, by decide⟩
                    refine g_callv (va_runV (As := [.int 5, .int r_255]) (rest := []) ⟨hx, hb, hml, hown, hts⟩ (r_X8_fail_2 l dC dI L kd tys fr_256 H.size g.2.2.2.1 q0_ mq0_ kq0_ 5 (bd_sub kb_5 (by decide)) r_255 x_242 h_243 (g.fcts [3] rfl)) (cwV 2 hts (gV_ t_1122 t_1107 t_1108 t_184 t_1109) rfl rfl rfl (by decide +kernel) ⟨(Nat.le_of_ble_eq_true rfl), (Nat.le_of_ble_eq_true rfl)⟩) (pre3V g hK mq0_ kq0_ (by decide) (q := (RX8, TX8, 10)) rfl) rfl rfl hl.1 rfl (lv_room (Nat.le_of_ble_eq_true rfl)) dX2_readMemberHead_305 ⟨(Nat.le_of_ble_eq_true rfl), (Nat.le_of_ble_eq_true rfl)⟩) g hK (by decide) (by decide) (fx' := [(6, 3, q4_, .int x_264), (6, 3, a_262, .int x_263), (8, 8, q0_, .int x_242), (5, 2, q1_, .int x_21), (6, 2, a_19, .int x_20), (7, 2, q2_, .ref a_18), (9, 9, q3_, .ref a_11), (2, 0, a0_, .ref q0_), (2, 1, a0_, .ref q1_), (2, 3, a0_, .ref q2_), (2, 4, a0_, .ref q3_), (2, 5, a0_, .ref q4_), (5, 1, q1_, .ref q5_)]) rfl (fun fr_266 H locs hp hMr_266 g => ?_)
                    have hF_267 := hp
                    have g := g.more hF_267
                    subst hQ
                    exact W.vret hx hb hr (fun t ht hW => ⟨⟨_, rfl, Or.inr (⟨1201, kb_1201, x_242, h_243, q4_, ⟨mq4_, kq4_⟩, (g.fcts [0, 3, 12] rfl)⟩), q3_of g hK ht hW⟩, g.2.2.1.F ht⟩) g.2.2.1.2.2 dX2_readMemberHead_308
              · have fc_253 := nlt_f c_253
                have b_268 : bd 0 3 v199_7 := leL fc_253 bv199_7 kb_3 (by decide)
                refine lv_iload hx hb dX2_readMemberHead_205 (lv_at hl 1 rfl) ?_
                have kb_0 : bd 0 0 (0 : Int32) := ⟨by decide, by decide⟩
                refine lv_if_eq (tgt := 251) hx hb dX2_readMemberHead_207 (by decide) (fun c_269 => ?_) (fun c_269 => ?_)
                · have fc_269 := eq_f c_269
                  have b_270 : bd 0 0 v199_6 := eqX fc_269 bv199_6 kb_0 (by decide)
                  refine lv_aload_n hx hb dX2_readMemberHead_251 rfl (lv_at hl 6 rfl) ?_
                  refine g_getk (C := RX2) (T := TX2) (N := 16) hx hb hts (mc_ inX2) hown hK g rfl 0 (by decide) rfl (hts _ (List.mem_cons_of_mem _ t_416)) (fun _ h9 => h9) 6 rfl dX2_readMemberHead_252 ?_
                  refine g_calli (va_runV (As := []) (rest := []) ⟨hx, hb, hml, hown, hts⟩ (r_X8_place l dC dI L kd tys f H.size g.2.2.2.1 q0_ mq0_ kq0_) (cwV 0 hts (gV_ t_1110 t_1111 t_1112 t_184 t_1113) rfl rfl rfl (by decide +kernel) ⟨(Nat.le_of_ble_eq_true rfl), (Nat.le_of_ble_eq_true rfl)⟩) (pre3V g hK mq0_ kq0_ (by decide) (q := (RX8, TX8, 10)) rfl) rfl rfl hl.1 rfl (lv_room (Nat.le_of_ble_eq_true rfl)) dX2_readMemberHead_255 ⟨(Nat.le_of_ble_eq_true rfl), (Nat.le_of_ble_eq_true rfl)⟩) g hK (by decide) (by decide) (fx' := [(8, 6, q0_, .int w199_8_6_q0_), (8, 8, q0_, .int x_242), (5, 2, q1_, .int x_21), (6, 2, a_19, .int x_20), (7, 2, q2_, .ref a_18), (9, 9, q3_, .ref a_11), (2, 0, a0_, .ref q0_), (2, 1, a0_, .ref q1_), (2, 3, a0_, .ref q2_), (2, 4, a0_, .ref q3_), (2, 5, a0_, .ref q4_), (5, 1, q1_, .ref q5_)]) rfl (fun r_271 fr_271 H locs hp hMr_271 g => ?_)
                  refine lv_istore (lv' := [(7, .int r_271), (6, .int v199_6), (5, .int x_12), (4, .int r_7), (2, .long r_6), (1, .int r_5), (0, .ref a0_)]) hx hb dX2_readMemberHead_258 hl (by decide) rfl (fun ls hl => ?_)
                  refine lv_aload_n hx hb dX2_readMemberHead_260 rfl (lv_at hl 6 rfl) ?_
                  refine g_getk (C := RX2) (T := TX2) (N := 16) hx hb hts (mc_ inX2) hown hK g rfl 0 (by decide) rfl (hts _ (List.mem_cons_of_mem _ t_416)) (fun _ h9 => h9) 6 rfl dX2_readMemberHead_261 ?_
                  refine lv_bipush (v := 41) hx hb dX2_readMemberHead_264 (by decide) ?_
                  refine g_callv (va_runV (As := [.int 41]) (rest := []) ⟨hx, hb, hml, hown, hts⟩ (r_X8_take_2 l dC dI L kd tys fr_271 H.size g.2.2.2.1 q0_ mq0_ kq0_ 41 w199_8_6_q0_ bw199_8_6_q0_ x_242 h_243 (g.fcts [0, 1] rfl)) (cwV 1 hts (gV_ t_1098 t_1099 t_1100 t_184 t_1101) rfl rfl rfl (by decide +kernel) ⟨(Nat.le_of_ble_eq_true rfl), (Nat.le_of_ble_eq_true rfl)⟩) (pre3V g hK mq0_ kq0_ (by decide) (q := (RX8, TX8, 10)) rfl) rfl rfl hl.1 rfl (lv_room (Nat.le_of_ble_eq_true rfl)) dX2_readMemberHead_266 ⟨(Nat.le_of_ble_eq_true rfl), (Nat.le_of_ble_eq_true rfl)⟩) g hK (by decide) (by decide) (fx' := [(8, 8, q0_, .int x_242), (5, 2, q1_, .int x_21), (6, 2, a_19, .int x_20), (7, 2, q2_, .ref a_18), (9, 9, q3_, .ref a_11), (2, 0, a0_, .ref q0_), (2, 1, a0_, .ref q1_), (2, 3, a0_, .ref q2_), (2, 4, a0_, .ref q3_), (2, 5, a0_, .ref q4_), (5, 1, q1_, .ref q5_)]) rfl (fun fr_272 H locs hp hMr_272 g => ?_)
                  obtain ⟨x_273, h_274, hF_275⟩ := hp
                  have g := g.more hF_275
                  refine lv_iload hx hb dX2_readMemberHead_269 (lv_at hl 2 rfl) ?_
                  refine lv_iconst (v := (-1)) hx hb dX2_readMemberHead_271 (by decide) ?_
                  refine lv_icmp_eq (tgt := 308) hx hb dX2_readMemberHead_272 (by decide) (fun c_276 => ?_) (fun c_276 => ?_)
                  · have fc_276 := eq_f c_276
                    have b_277 : bd 0 (-1) x_12 := eqX fc_276 bx_12 kb_m1 (by decide)
                    exact bd_no b_277 (by decide)
                  · have fc_276 := neq_f c_276
                    refine lv_aload_n hx hb dX2_readMemberHead_275 rfl (lv_at hl 6 rfl) ?_
                    refine g_getk (C := RX2) (T := TX2) (N := 16) hx hb hts (mc_ inX2) hown hK g rfl 3 (by decide) rfl (hts _ (List.mem_cons_of_mem _ t_419)) (fun _ h9 => h9) 8 rfl dX2_readMemberHead_276 ?_
                    refine g_getk (C := RX7) (T := TX7) (N := 19) hx hb hts (mc_ inX7) hown hK g rfl 2 (by decide) rfl (hts _ (List.mem_cons_of_mem _ t_630)) (fun _ h9 => h9) 4 rfl dX2_readMemberHead_279 ?_
                    refine lv_iload hx hb dX2_readMemberHead_282 (lv_at hl 2 rfl) ?_
                    refine g_aald hx hb hK g ma_18 ka_18 (by decide) rfl (by decide) (in_bd bx_12 (by decide)) dX2_readMemberHead_284 (fun a_278 ma_278 ua_278 wa_278 => ?_)
                    have ka_278 : kd a_278 = 6 := by omega
                    refine g_geti (C := RX6) (T := TX6) (N := 13) hx hb hts (mc_ inX6) hown hK g ma_278 ka_278 (by decide) rfl 3 (by decide) rfl (hts _ (List.mem_cons_of_mem _ t_568)) (fun _ h9 => h9) rfl dX2_readMemberHead_285 (fun x_279 bx_279 g => ?_)
                    refine lv_aload_n hx hb dX2_readMemberHead_288 rfl (lv_at hl 6 rfl) ?_
                    refine g_getk (C := RX2) (T := TX2) (N := 16) hx hb hts (mc_ inX2) hown hK g rfl 5 (by decide) rfl (hts _ (List.mem_cons_of_mem _ t_421)) (fun _ h9 => h9) 11 rfl dX2_readMemberHead_289 ?_
                    refine g_geti (C := RX6) (T := TX6) (N := 13) hx hb hts (mc_ inX6) hown hK g mq4_ kq4_ (by decide) rfl 3 (by decide) rfl (hts _ (List.mem_cons_of_mem _ t_568)) (fun _ h9 => h9) rfl dX2_readMemberHead_292 (fun x_280 bx_280 g => ?_)
                    refine lv_icmp_eq (tgt := 308) hx hb dX2_readMemberHead_295 (by decide) (fun c_281 => ?_) (fun c_281 => ?_)
                    · have fc_281 := eq_f c_281
                      subst hQ
                      exact W.vret hx hb hr (fun t ht hW => ⟨⟨_, rfl, Or.inr (⟨x_273, h_274, x_242, h_243, q4_, ⟨mq4_, kq4_⟩, (g.fcts [2, 3, 12] rfl)⟩), q3_of g hK ht hW⟩, g.2.2.1.F ht⟩) g.2.2.1.2.2 dX2_readMemberHead_308
                    · have fc_281 := neq_f c_281
                      refine lv_aload_n hx hb dX2_readMemberHead_298 rfl (lv_at hl 6 rfl) ?_
                      refine g_getk (C := RX2) (T := TX2) (N := 16) hx hb hts (mc_ inX2) hown hK g rfl 0 (by decide) rfl (hts _ (List.mem_cons_of_mem _ t_416)) (fun _ h9 => h9) 8 rfl dX2_readMemberHead_299 ?_
                      refine lv_iconst (v := 5) hx hb dX2_readMemberHead_302 (by decide) ?_
                      refine lv_iload hx hb dX2_readMemberHead_303 (lv_at hl 0 rfl) ?_
                      have kb_5 : bd 5 5 (5 : Int32) := ⟨by decide, by decide⟩
                      refine g_callv (va_runV (As := [.int 5, .int r_271]) (rest := []) ⟨hx, hb, hml, hown, hts⟩ (r_X8_fail_2 l dC dI L kd tys fr_272 H.size g.2.2.2.1 q0_ mq0_ kq0_ 5 (bd_sub kb_5 (by decide)) r_271 x_242 h_243 (g.fcts [3] rfl)) (cwV 2 hts (gV_ t_1122 t_1107 t_1108 t_184 t_1109) rfl rfl rfl (by decide +kernel) ⟨(Nat.le_of_ble_eq_true rfl), (Nat.le_of_ble_eq_true rfl)⟩) (pre3V g hK mq0_ kq0_ (by decide) (q := (RX8, TX8, 10)) rfl) rfl rfl hl.1 rfl (lv_room (Nat.le_of_ble_eq_true rfl)) dX2_readMemberHead_305 ⟨(Nat.le_of_ble_eq_true rfl), (Nat.le_of_ble_eq_true rfl)⟩) g hK (by decide) (by decide) (fx' := [(6, 3, q4_, .int x_280), (6, 3, a_278, .int x_279), (8, 8, q0_, .int x_242), (5, 2, q1_, .int x_21), (6, 2, a_19, .int x_20), (7, 2, q2_, .ref a_18), (9, 9, q3_, .ref a_11), (2, 0, a0_, .ref q0_), (2, 1, a0_, .ref q1_), (2, 3, a0_, .ref q2_), (2, 4, a0_, .ref q3_), (2, 5, a0_, .ref q4_), (5, 1, q1_, .ref q5_)]) rfl (fun fr_282 H locs hp hMr_282 g => ?_)
                      have hF_283 := hp
                      have g := g.more hF_283
                      subst hQ
                      exact W.vret hx hb hr (fun t ht hW => ⟨⟨_, rfl, Or.inr (⟨1201, kb_1201, x_242, h_243, q4_, ⟨mq4_, kq4_⟩, (g.fcts [0, 3, 12] rfl)⟩), q3_of g hK ht hW⟩, g.2.2.1.F ht⟩) g.2.2.1.2.2 dX2_readMemberHead_308
                · have fc_269 := neq_f c_269
                  have b_284 : bd 1 1 v199_6 := neX fc_269 bv199_6 kb_0 (by decide)
                  refine lv_aload_n hx hb dX2_readMemberHead_210 rfl (lv_at hl 6 rfl) ?_
                  refine g_callv (va_runV (As := []) (rest := []) ⟨hx, hb, hml, hown, hts⟩ (r_X2_readParam_2 l dC dI L kd tys f H.size g.2.2.2.1 a0_ ma0_ ka0_ q0_ mq0_ kq0_ q1_ mq1_ kq1_ q4_ mq4_ kq4_ q5_ mq5_ kq5_ w199_8_6_q0_ bw199_8_6_q0_ x_242 h_243 (g.fcts [6, 7, 10, 11, 0, 1] rfl)) (cwV 0 hts (gV_ t_1313 t_1315 t_34 t_183 t_1316) rfl rfl rfl (by decide +kernel) ⟨(Nat.le_of_ble_eq_true rfl), (Nat.le_of_ble_eq_true rfl)⟩) (pre3V g hK ma0_ ka0_ (by decide) (q := (RX2, TX2, 16)) rfl) rfl rfl hl.1 rfl (lv_room (Nat.le_of_ble_eq_true rfl)) dX2_readMemberHead_211 ⟨(Nat.le_of_ble_eq_true rfl), (Nat.le_of_ble_eq_true rfl)⟩) g hK (by decide) (by decide) (fx' := [(8, 8, q0_, .int x_242), (5, 2, q1_, .int x_21), (6, 2, a_19, .int x_20), (7, 2, q2_, .ref a_18), (9, 9, q3_, .ref a_11), (2, 0, a0_, .ref q0_), (2, 1, a0_, .ref q1_), (2, 3, a0_, .ref q2_), (2, 4, a0_, .ref q3_), (2, 5, a0_, .ref q4_), (5, 1, q1_, .ref q5_)]) rfl (fun fr_285 H locs hp hMr_285 g => ?_)
                  have hF_286 := hp
                  have g := g.more hF_286
                  refine lv_aload_n hx hb dX2_readMemberHead_214 rfl (lv_at hl 6 rfl) ?_
                  refine g_getk (C := RX2) (T := TX2) (N := 16) hx hb hts (mc_ inX2) hown hK g rfl 0 (by decide) rfl (hts _ (List.mem_cons_of_mem _ t_416)) (fun _ h9 => h9) 6 rfl dX2_readMemberHead_215 ?_
                  refine g_calli (va_runV (As := []) (rest := []) ⟨hx, hb, hml, hown, hts⟩ (r_X8_kind_2 l dC dI L kd tys fr_285 H.size g.2.2.2.1 q0_ mq0_ kq0_ 1201 kb_1201 (g.fcts [0] rfl)) (cwV 0 hts (gV_ t_1118 t_1119 t_1120 t_184 t_1121) rfl rfl rfl (by decide +kernel) ⟨(Nat.le_of_ble_eq_true rfl), (Nat.le_of_ble_eq_true rfl)⟩) (pre3V g hK mq0_ kq0_ (by decide) (q := (RX8, TX8, 10)) rfl) rfl rfl hl.1 rfl (lv_room (Nat.le_of_ble_eq_true rfl)) dX2_readMemberHead_218 ⟨(Nat.le_of_ble_eq_true rfl), (Nat.le_of_ble_eq_true rfl)⟩) g hK (by decide) (by decide) (fx' := [(8, 6, q0_, .int 1201), (8, 8, q0_, .int x_242), (5, 2, q1_, .int x_21), (6, 2, a_19, .int x_20), (7, 2, q2_, .ref a_18), (9, 9, q3_, .ref a_11), (2, 0, a0_, .ref q0_), (2, 1, a0_, .ref q1_), (2, 3, a0_, .ref q2_), (2, 4, a0_, .ref q3_), (2, 5, a0_, .ref q4_), (5, 1, q1_, .ref q5_)]) rfl (fun r_287 fr_287 H locs hp hMr_287 g => ?_)
                  obtain ⟨h_288, -⟩ := hp
                  obtain rfl : r_287 = 0 := h_288
                  refine lv_bipush (v := 44) hx hb dX2_readMemberHead_221 (by decide) ?_
                  refine lv_icmp_ne (tgt := 230) hx hb dX2_readMemberHead_223 (by decide) (fun c_ => ?_) (fun c_ => absurd c_ (by decide))
                  refine lv_iconst (v := 0) hx hb dX2_readMemberHead_230 (by decide) ?_
                  refine lv_istore (lv' := [(6, .int 0), (7, .int v199_7), (5, .int x_12), (4, .int r_7), (2, .long r_6), (1, .int r_5), (0, .ref a0_)]) hx hb dX2_readMemberHead_231 hl (by decide) rfl (fun ls hl => ?_)
                  refine lv_iload hx hb dX2_readMemberHead_233 (lv_at hl 0 rfl) ?_
                  refine lv_if_eq (tgt := 245) hx hb dX2_readMemberHead_235 (by decide) (fun c_ => ?_) (fun c_ => absurd (by decide) c_)
                  have kb_1 : bd 1 1 (1 : Int32) := ⟨by decide, by decide⟩
                  obtain ⟨y_289, ey_289⟩ : ∃ z : Int32, z = v199_7 + 1 := ⟨_, rfl⟩
                  refine lv_iinc (v := y_289) (lv' := [(7, .int y_289), (6, .int 0), (5, .int x_12), (4, .int r_7), (2, .long r_6), (1, .int r_5), (0, .ref a0_)]) hx hb dX2_readMemberHead_245 hl (k := 1) rfl (by rw [ey_289]; rfl) (by decide) rfl (fun ls hl => ?_)
                  have ty_289 := add_bd ey_289 b_268 kb_1 (by decide)
                  have b_290 : bd 1 4 y_289 := add_rg ty_289 b_268 kb_1 (by decide)
                  refine lv_goto (tgt := 199) hx hb dX2_readMemberHead_248 (by decide) ?_
                  have hl9 := lv_sub hl [0, 1, 2, 3, 4, 5, 6] (by rfl : lv_pick [(7, .int y_289), (6, .int 0), (5, .int x_12), (4, .int r_7), (2, .long r_6), (1, .int r_5), (0, .ref a0_)] [0, 1, 2, 3, 4, 5, 6] = [(7, .int y_289), (6, .int 0), (5, .int x_12), (4, .int r_7), (2, .long r_6), (1, .int r_5), (0, .ref a0_)])
                  have g9 := g.sub (fx' := [(8, 6, q0_, .int 1201), (8, 8, q0_, .int x_242), (5, 2, q1_, .int x_21), (6, 2, a_19, .int x_20), (7, 2, q2_, .ref a_18), (9, 9, q3_, .ref a_11), (2, 0, a0_, .ref q0_), (2, 1, a0_, .ref q1_), (2, 3, a0_, .ref q2_), (2, 4, a0_, .ref q3_), (2, 5, a0_, .ref q4_), (5, 1, q1_, .ref q5_)]) [0, 1, 2, 3, 4, 5, 6, 7, 8, 9, 10, 11] rfl
                  exact ih199  y_289 0 1201 (bd_sub b_290 (by decide)) (bd_sub kb_0 (by decide)) kb_1201 (by have h9_0 := b_290; unfold bd at h9_0; have h9_1 := bv199_6; unfold bd at h9_1; have h9_2 := bv199_7; unfold bd at h9_2; have h9_3 := bw199_8_6_q0_; unfold bd at h9_3; have h9_4 := kb_0; unfold bd at h9_4; have h9_5 := kb_1; unfold bd at h9_5; have h9_6 := kb_1201; unfold bd at h9_6; have h9_7 := kb_2; unfold bd at h9_7; have h9_8 := kb_3; unfold bd at h9_8; have h9_9 := kb_m1; unfold bd at h9_9; omega) _ _ _ _ g9  hl9
          have kb_0 : bd 0 0 (0 : Int32) := ⟨by decide, by decide⟩
          have kb_1 : bd 1 1 (1 : Int32) := ⟨by decide, by decide⟩
          have hl9 := lv_sub hl [0, 1, 2, 3, 4, 5, 6] (by rfl : lv_pick [(7, .int 0), (6, .int 1), (5, .int x_12), (4, .int r_7), (2, .long r_6), (1, .int r_5), (0, .ref a0_)] [0, 1, 2, 3, 4, 5, 6] = [(7, .int 0), (6, .int 1), (5, .int x_12), (4, .int r_7), (2, .long r_6), (1, .int r_5), (0, .ref a0_)])
          have g9 := g.sub (fx' := [(8, 6, q0_, .int x_247), (8, 8, q0_, .int x_242), (5, 2, q1_, .int x_21), (6, 2, a_19, .int x_20), (7, 2, q2_, .ref a_18), (9, 9, q3_, .ref a_11), (2, 0, a0_, .ref q0_), (2, 1, a0_, .ref q1_), (2, 3, a0_, .ref q2_), (2, 4, a0_, .ref q3_), (2, 5, a0_, .ref q4_), (5, 1, q1_, .ref q5_)]) [0, 1, 2, 3, 4, 5, 6, 7, 8, 9, 10, 11] rfl
          exact loop_252 (11) 0 1 x_247 (bd_sub kb_0 (by decide)) (bd_sub kb_1 (by decide)) h_248 (by have h9_0 := h_248; unfold bd at h9_0; have h9_1 := kb_0; unfold bd at h9_1; have h9_2 := kb_1; unfold bd at h9_2; have h9_3 := kb_1201; unfold bd at h9_3; have h9_4 := kb_2; unfold bd at h9_4; have h9_5 := kb_3; unfold bd at h9_5; have h9_6 := kb_m1; unfold bd at h9_6; omega) _ _ _ _ g9  hl9
    · have fc_14 := neq_f c_14
      refine lv_aload_n hx hb dX2_readMemberHead_70 rfl (lv_at hl 4 rfl) ?_
      refine g_getk (C := RX2) (T := TX2) (N := 16) hx hb hts (mc_ inX2) hown hK g rfl 0 (by decide) rfl (hts _ (List.mem_cons_of_mem _ t_416)) (fun _ h9 => h9) 2 rfl dX2_readMemberHead_71 ?_
      refine lv_iconst (v := 1) hx hb dX2_readMemberHead_74 (by decide) ?_
      refine lv_iload_n hx hb dX2_readMemberHead_75 rfl (lv_at hl 3 rfl) ?_
      have kb_1 : bd 1 1 (1 : Int32) := ⟨by decide, by decide⟩
      refine g_callv (va_runV (As := [.int 1, .int r_5]) (rest := []) ⟨hx, hb, hml, hown, hts⟩ (r_X8_fail l dC dI L kd tys fr_13 H.size g.2.2.2.1 q0_ mq0_ kq0_ 1 (bd_sub kb_1 (by decide)) r_5 y0_ by0_ (g.fcts [8] rfl)) (cwV 2 hts (gV_ t_1122 t_1107 t_1108 t_184 t_1109) rfl rfl rfl (by decide +kernel) ⟨(Nat.le_of_ble_eq_true rfl), (Nat.le_of_ble_eq_true rfl)⟩) (pre3V g hK mq0_ kq0_ (by decide) (q := (RX8, TX8, 10)) rfl) rfl rfl hl.1 rfl (lv_room (Nat.le_of_ble_eq_true rfl)) dX2_readMemberHead_76 ⟨(Nat.le_of_ble_eq_true rfl), (Nat.le_of_ble_eq_true rfl)⟩) g hK (by decide) (by decide) (fx' := [(9, 9, q3_, .ref a_11), (2, 0, a0_, .ref q0_), (2, 1, a0_, .ref q1_), (2, 3, a0_, .ref q2_), (2, 4, a0_, .ref q3_), (2, 5, a0_, .ref q4_), (5, 1, q1_, .ref q5_)]) rfl (fun fr_291 H locs hp hMr_291 g => ?_)
      obtain ⟨x_292, h_293, hF_294⟩ := hp
      have g := g.more hF_294
      refine lv_goto (tgt := 161) hx hb dX2_readMemberHead_79 (by decide) ?_
      refine lv_aload_n hx hb dX2_readMemberHead_161 rfl (lv_at hl 4 rfl) ?_
      refine g_getk (C := RX2) (T := TX2) (N := 16) hx hb hts (mc_ inX2) hown hK g rfl 0 (by decide) rfl (hts _ (List.mem_cons_of_mem _ t_416)) (fun _ h9 => h9) 3 rfl dX2_readMemberHead_162 ?_
      have kb_1201 : bd 1201 1201 (1201 : Int32) := ⟨by decide, by decide⟩
      refine g_callv (va_runV (As := []) (rest := []) ⟨hx, hb, hml, hown, hts⟩ (r_X8_next_2 l dC dI L kd tys fr_291 H.size g.2.2.2.1 q0_ mq0_ kq0_ 1201 kb_1201 (g.fcts [0] rfl)) (cwV 0 hts (gV_ t_1131 t_1103 t_1104 t_184 t_1105) rfl rfl rfl (by decide +kernel) ⟨(Nat.le_of_ble_eq_true rfl), (Nat.le_of_ble_eq_true rfl)⟩) (pre3V g hK mq0_ kq0_ (by decide) (q := (RX8, TX8, 10)) rfl) rfl rfl hl.1 rfl (lv_room (Nat.le_of_ble_eq_true rfl)) dX2_readMemberHead_165 ⟨(Nat.le_of_ble_eq_true rfl), (Nat.le_of_ble_eq_true rfl)⟩) g hK (by decide) (by decide) (fx' := [(8, 6, q0_, .int 1201), (8, 8, q0_, .int x_292), (9, 9, q3_, .ref a_11), (2, 0, a0_, .ref q0_), (2, 1, a0_, .ref q1_), (2, 3, a0_, .ref q2_), (2, 4, a0_, .ref q3_), (2, 5, a0_, .ref q4_), (5, 1, q1_, .ref q5_)]) rfl (fun fr_295 H locs hp hMr_295 g => ?_)
      refine lv_aload_n hx hb dX2_readMemberHead_168 rfl (lv_at hl 4 rfl) ?_
      refine g_getk (C := RX2) (T := TX2) (N := 16) hx hb hts (mc_ inX2) hown hK g rfl 0 (by decide) rfl (hts _ (List.mem_cons_of_mem _ t_416)) (fun _ h9 => h9) 3 rfl dX2_readMemberHead_169 ?_
      refine lv_bipush (v := 40) hx hb dX2_readMemberHead_172 (by decide) ?_
      refine g_callv (va_runV (As := [.int 40]) (rest := []) ⟨hx, hb, hml, hown, hts⟩ (r_X8_take_2 l dC dI L kd tys fr_295 H.size g.2.2.2.1 q0_ mq0_ kq0_ 40 1201 kb_1201 x_292 h_293 (g.fcts [0, 1] rfl)) (cwV 1 hts (gV_ t_1098 t_1099 t_1100 t_184 t_1101) rfl rfl rfl (by decide +kernel) ⟨(Nat.le_of_ble_eq_true rfl), (Nat.le_of_ble_eq_true rfl)⟩) (pre3V g hK mq0_ kq0_ (by decide) (q := (RX8, TX8, 10)) rfl) rfl rfl hl.1 rfl (lv_room (Nat.le_of_ble_eq_true rfl)) dX2_readMemberHead_174 ⟨(Nat.le_of_ble_eq_true rfl), (Nat.le_of_ble_eq_true rfl)⟩) g hK (by decide) (by decide) (fx' := [(8, 8, q0_, .int x_292), (9, 9, q3_, .ref a_11), (2, 0, a0_, .ref q0_), (2, 1, a0_, .ref q1_), (2, 3, a0_, .ref q2_), (2, 4, a0_, .ref q3_), (2, 5, a0_, .ref q4_), (5, 1, q1_, .ref q5_)]) rfl (fun fr_296 H locs hp hMr_296 g => ?_)
      obtain ⟨x_297, h_298, hF_299⟩ := hp
      have g := g.more hF_299
      refine lv_aload_n hx hb dX2_readMemberHead_177 rfl (lv_at hl 4 rfl) ?_
      refine g_getk (C := RX2) (T := TX2) (N := 16) hx hb hts (mc_ inX2) hown hK g rfl 0 (by decide) rfl (hts _ (List.mem_cons_of_mem _ t_416)) (fun _ h9 => h9) 3 rfl dX2_readMemberHead_178 ?_
      refine g_calli (va_runV (As := []) (rest := []) ⟨hx, hb, hml, hown, hts⟩ (r_X8_kind_2 l dC dI L kd tys fr_296 H.size g.2.2.2.1 q0_ mq0_ kq0_ x_297 h_298 (g.fcts [0] rfl)) (cwV 0 hts (gV_ t_1118 t_1119 t_1120 t_184 t_1121) rfl rfl rfl (by decide +kernel) ⟨(Nat.le_of_ble_eq_true rfl), (Nat.le_of_ble_eq_true rfl)⟩) (pre3V g hK mq0_ kq0_ (by decide) (q := (RX8, TX8, 10)) rfl) rfl rfl hl.1 rfl (lv_room (Nat.le_of_ble_eq_true rfl)) dX2_readMemberHead_181 ⟨(Nat.le_of_ble_eq_true rfl), (Nat.le_of_ble_eq_true rfl)⟩) g hK (by decide) (by decide) (fx' := [(8, 6, q0_, .int x_297), (8, 8, q0_, .int x_292), (9, 9, q3_, .ref a_11), (2, 0, a0_, .ref q0_), (2, 1, a0_, .ref q1_), (2, 3, a0_, .ref q2_), (2, 4, a0_, .ref q3_), (2, 5, a0_, .ref q4_), (5, 1, q1_, .ref q5_)]) rfl (fun r_300 fr_300 H locs hp hMr_300 g => ?_)
      obtain ⟨h_301, -⟩ := hp
      obtain rfl : r_300 = 0 := h_301
      refine lv_bipush (v := 41) hx hb dX2_readMemberHead_184 (by decide) ?_
      refine lv_icmp_eq (tgt := 193) hx hb dX2_readMemberHead_186 (by decide) (fun c_ => absurd c_ (by decide)) (fun c_ => ?_)
      refine lv_iconst (v := 1) hx hb dX2_readMemberHead_189 (by decide) ?_
      refine lv_goto (tgt := 194) hx hb dX2_readMemberHead_190 (by decide) ?_
      refine lv_istore (lv' := [(6, .int 1), (5, .int x_12), (4, .int r_7), (2, .long r_6), (1, .int r_5), (0, .ref a0_)]) hx hb dX2_readMemberHead_194 hl (by decide) rfl (fun ls hl => ?_)
      refine lv_iconst (v := 0) hx hb dX2_readMemberHead_196 (by decide) ?_
      refine lv_istore (lv' := [(7, .int 0), (6, .int 1), (5, .int x_12), (4, .int r_7), (2, .long r_6), (1, .int r_5), (0, .ref a0_)]) hx hb dX2_readMemberHead_197 hl (by decide) rfl (fun ls hl => ?_)
      have loop_302 : ∀ (n : Nat) (v199_7 : Int32) (v199_6 : Int32) (w199_8_6_q0_ : Int32), bd 0 4 v199_7 → bd 0 1 v199_6 → bd 1201 1201 w199_8_6_q0_ → (4 - v199_7.toInt < (n : Int)) → ∀ (f : Nat → va_E) (H : Heap) (locs : List Loc) (ls : Array Slot), G3 (dC, dI) L kd tys s f0 [(2, 5), (2, 6), (5, 4), (6, 0), (6, 1), (6, 2), (6, 3), (6, 6), (6, 7), (6, 8), (6, 9), (6, 10), (6, 11), (6, 12), (7, 3), (8, 6), (8, 8), (8, 9), (9, 8)] [132, 134, 135, 156] f H locs [(8, 6, q0_, .int w199_8_6_q0_), (8, 8, q0_, .int x_292), (9, 9, q3_, .ref a_11), (2, 0, a0_, .ref q0_), (2, 1, a0_, .ref q1_), (2, 3, a0_, .ref q2_), (2, 4, a0_, .ref q3_), (2, 5, a0_, .ref q4_), (5, 1, q1_, .ref q5_)] → lv_has ls 8 [(7, .int v199_7), (6, .int v199_6), (5, .int x_12), (4, .int r_7), (2, .long r_6), (1, .int r_5), (0, .ref a0_)] → W p l e ({ frames := 3, cells := 0, slots := 0, locals := 72 } : Room) s m [.ref a0_].toArray below meth c H locs 0 0 Q (F0 m 199 ls []) := by
        intro n199
        induction n199 with
        | zero =>
          intro v199_7 v199_6 w199_8_6_q0_ bv199_7 bv199_6 bw199_8_6_q0_ hm199 f H locs ls g  hl
          exact absurd hm199 (by have h9_v199_7 := bv199_7; unfold bd at h9_v199_7; have h9_v199_6 := bv199_6; unfold bd at h9_v199_6; have h9_w199_8_6_q0_ := bw199_8_6_q0_; unfold bd at h9_w199_8_6_q0_; omega)
        | succ n199 ih199 =>
          intro v199_7 v199_6 w199_8_6_q0_ bv199_7 bv199_6 bw199_8_6_q0_ hm199 f H locs ls g  hl
          refine lv_iload hx hb dX2_readMemberHead_199 (lv_at hl 0 rfl) ?_
          refine lv_iconst (v := 3) hx hb dX2_readMemberHead_201 (by decide) ?_
          refine lv_icmp_gt (tgt := 251) hx hb dX2_readMemberHead_202 (by decide) (fun c_303 => ?_) (fun c_303 => ?_)
          · have fc_303 := lt_f c_303
            have b_304 : bd 4 4 v199_7 := ltR fc_303 kb_3 bv199_7 (by decide)
            refine lv_aload_n hx hb dX2_readMemberHead_251 rfl (lv_at hl 6 rfl) ?_
            refine g_getk (C := RX2) (T := TX2) (N := 16) hx hb hts (mc_ inX2) hown hK g rfl 0 (by decide) rfl (hts _ (List.mem_cons_of_mem _ t_416)) (fun _ h9 => h9) 3 rfl dX2_readMemberHead_252 ?_
            refine g_calli (va_runV (As := []) (rest := []) ⟨hx, hb, hml, hown, hts⟩ (r_X8_place l dC dI L kd tys f H.size g.2.2.2.1 q0_ mq0_ kq0_) (cwV 0 hts (gV_ t_1110 t_1111 t_1112 t_184 t_1113) rfl rfl rfl (by decide +kernel) ⟨(Nat.le_of_ble_eq_true rfl), (Nat.le_of_ble_eq_true rfl)⟩) (pre3V g hK mq0_ kq0_ (by decide) (q := (RX8, TX8, 10)) rfl) rfl rfl hl.1 rfl (lv_room (Nat.le_of_ble_eq_true rfl)) dX2_readMemberHead_255 ⟨(Nat.le_of_ble_eq_true rfl), (Nat.le_of_ble_eq_true rfl)⟩) g hK (by decide) (by decide) (fx' := [(8, 6, q0_, .int w199_8_6_q0_), (8, 8, q0_, .int x_292), (9, 9, q3_, .ref a_11), (2, 0, a0_, .ref q0_), (2, 1, a0_, .ref q1_), (2, 3, a0_, .ref q2_), (2, 4, a0_, .ref q3_), (2, 5, a0_, .ref q4_), (5, 1, q1_, .ref q5_)]) rfl (fun r_305 fr_305 H locs hp hMr_305 g => ?_)
            refine lv_istore (lv' := [(7, .int r_305), (6, .int v199_6), (5, .int x_12), (4, .int r_7), (2, .long r_6), (1, .int r_5), (0, .ref a0_)]) hx hb dX2_readMemberHead_258 hl (by decide) rfl (fun ls hl => ?_)
            refine lv_aload_n hx hb dX2_readMemberHead_260 rfl (lv_at hl 6 rfl) ?_
            refine g_getk (C := RX2) (T := TX2) (N := 16) hx hb hts (mc_ inX2) hown hK g rfl 0 (by decide) rfl (hts _ (List.mem_cons_of_mem _ t_416)) (fun _ h9 => h9) 3 rfl dX2_readMemberHead_261 ?_
            refine lv_bipush (v := 41) hx hb dX2_readMemberHead_264 (by decide) ?_
            refine g_callv (va_runV (As := [.int 41]) (rest := []) ⟨hx, hb, hml, hown, hts⟩ (r_X8_take_2 l dC dI L kd tys fr_305 H.size g.2.2.2.1 q0_ mq0_ kq0_ 41 w199_8_6_q0_ bw199_8_6_q0_ x_292 h_293 (g.fcts [0, 1] rfl)) (cwV 1 hts (gV_ t_1098 t_1099 t_1100 t_184 t_1101) rfl rfl rfl (by decide +kernel) ⟨(Nat.le_of_ble_eq_true rfl), (Nat.le_of_ble_eq_true rfl)⟩) (pre3V g hK mq0_ kq0_ (by decide) (q := (RX8, TX8, 10)) rfl) rfl rfl hl.1 rfl (lv_room (Nat.le_of_ble_eq_true rfl)) dX2_readMemberHead_266 ⟨(Nat.le_of_ble_eq_true rfl), (Nat.le_of_ble_eq_true rfl)⟩) g hK (by decide) (by decide) (fx' := [(8, 8, q0_, .int x_292), (9, 9, q3_, .ref a_11), (2, 0, a0_, .ref q0_), (2, 1, a0_, .ref q1_), (2, 3, a0_, .ref q2_), (2, 4, a0_, .ref q3_), (2, 5, a0_, .ref q4_), (5, 1, q1_, .ref q5_)]) rfl (fun fr_306 H locs hp hMr_306 g => ?_)
            obtain ⟨x_307, h_308, hF_309⟩ := hp
            have g := g.more hF_309
            refine lv_iload hx hb dX2_readMemberHead_269 (lv_at hl 2 rfl) ?_
            refine lv_iconst (v := (-1)) hx hb dX2_readMemberHead_271 (by decide) ?_
            refine lv_icmp_eq (tgt := 308) hx hb dX2_readMemberHead_272 (by decide) (fun c_310 => ?_) (fun c_310 => ?_)
            · have fc_310 := eq_f c_310
              have b_311 : bd 0 (-1) x_12 := eqX fc_310 bx_12 kb_m1 (by decide)
              exact bd_no b_311 (by decide)
            · have fc_310 := neq_f c_310
              refine lv_aload_n hx hb dX2_readMemberHead_275 rfl (lv_at hl 6 rfl) ?_
              refine g_getk (C := RX2) (T := TX2) (N := 16) hx hb hts (mc_ inX2) hown hK g rfl 3 (by decide) rfl (hts _ (List.mem_cons_of_mem _ t_419)) (fun _ h9 => h9) 5 rfl dX2_readMemberHead_276 ?_
              refine g_getr (K := 137) (C := RX7) (T := TX7) (N := 19) hx hb hts (mc_ inX7) hown hK g mq2_ kq2_ (by decide) rfl 2 (by decide) rfl (hts _ (List.mem_cons_of_mem _ t_630)) (fun _ h9 => h9) rfl dX2_readMemberHead_279 (fun a_312 ma_312 ka_312 g => ?_)
              refine lv_iload hx hb dX2_readMemberHead_282 (lv_at hl 2 rfl) ?_
              refine g_aald hx hb hK g ma_312 ka_312 (by decide) rfl (by decide) (in_bd bx_12 (by decide)) dX2_readMemberHead_284 (fun a_313 ma_313 ua_313 wa_313 => ?_)
              have ka_313 : kd a_313 = 6 := by omega
              refine g_geti (C := RX6) (T := TX6) (N := 13) hx hb hts (mc_ inX6) hown hK g ma_313 ka_313 (by decide) rfl 3 (by decide) rfl (hts _ (List.mem_cons_of_mem _ t_568)) (fun _ h9 => h9) rfl dX2_readMemberHead_285 (fun x_314 bx_314 g => ?_)
              refine lv_aload_n hx hb dX2_readMemberHead_288 rfl (lv_at hl 6 rfl) ?_
              refine g_getk (C := RX2) (T := TX2) (N := 16) hx hb hts (mc_ inX2) hown hK g rfl 5 (by decide) rfl (hts _ (List.mem_cons_of_mem _ t_421)) (fun _ h9 => h9) 9 rfl dX2_readMemberHead_289 ?_
              refine g_geti (C := RX6) (T := TX6) (N := 13) hx hb hts (mc_ inX6) hown hK g mq4_ kq4_ (by decide) rfl 3 (by decide) rfl (hts _ (List.mem_cons_of_mem _ t_568)) (fun _ h9 => h9) rfl dX2_readMemberHead_292 (fun x_315 bx_315 g => ?_)
              refine lv_icmp_eq (tgt := 308) hx hb dX2_readMemberHead_295 (by decide) (fun c_316 => ?_) (fun c_316 => ?_)
              · have fc_316 := eq_f c_316
                subst hQ
                exact W.vret hx hb hr (fun t ht hW => ⟨⟨_, rfl, Or.inr (⟨x_307, h_308, x_292, h_293, q4_, ⟨mq4_, kq4_⟩, (g.fcts [3, 4, 10] rfl)⟩), q3_of g hK ht hW⟩, g.2.2.1.F ht⟩) g.2.2.1.2.2 dX2_readMemberHead_308
              · have fc_316 := neq_f c_316
                refine lv_aload_n hx hb dX2_readMemberHead_298 rfl (lv_at hl 6 rfl) ?_
                refine g_getk (C := RX2) (T := TX2) (N := 16) hx hb hts (mc_ inX2) hown hK g rfl 0 (by decide) rfl (hts _ (List.mem_cons_of_mem _ t_416)) (fun _ h9 => h9) 6 rfl dX2_readMemberHead_299 ?_
                refine lv_iconst (v := 5) hx hb dX2_readMemberHead_302 (by decide) ?_
                refine lv_iload hx hb dX2_readMemberHead_303 (lv_at hl 0 rfl) ?_
                have kb_5 : bd 5 5 (5 : Int32) := ⟨by decide, by decide⟩
                refine g_callv (va_runV (As := [.int 5, .int r_305]) (rest := []) ⟨hx, hb, hml, hown, hts⟩ (r_X8_fail_2 l dC dI L kd tys fr_306 H.size g.2.2.2.1 q0_ mq0_ kq0_ 5 (bd_sub kb_5 (by decide)) r_305 x_292 h_293 (g.fcts [4] rfl)) (cwV 2 hts (gV_ t_1122 t_1107 t_1108 t_184 t_1109) rfl rfl rfl (by decide +kernel) ⟨(Nat.le_of_ble_eq_true rfl), (Nat.le_of_ble_eq_true rfl)⟩) (pre3V g hK mq0_ kq0_ (by decide) (q := (RX8, TX8, 10)) rfl) rfl rfl hl.1 rfl (lv_room (Nat.le_of_ble_eq_true rfl)) dX2_readMemberHead_305 ⟨(Nat.le_of_ble_eq_true rfl), (Nat.le_of_ble_eq_true rfl)⟩) g hK (by decide) (by decide) (fx' := [(6, 3, q4_, .int x_315), (6, 3, a_313, .int x_314), (7, 2, q2_, .ref a_312), (8, 8, q0_, .int x_292), (9, 9, q3_, .ref a_11), (2, 0, a0_, .ref q0_), (2, 1, a0_, .ref q1_), (2, 3, a0_, .ref q2_), (2, 4, a0_, .ref q3_), (2, 5, a0_, .ref q4_), (5, 1, q1_, .ref q5_)]) rfl (fun fr_317 H locs hp hMr_317 g => ?_)
                have hF_318 := hp
                have g := g.more hF_318
                subst hQ
                exact W.vret hx hb hr (fun t ht hW => ⟨⟨_, rfl, Or.inr (⟨1201, kb_1201, x_292, h_293, q4_, ⟨mq4_, kq4_⟩, (g.fcts [0, 4, 10] rfl)⟩), q3_of g hK ht hW⟩, g.2.2.1.F ht⟩) g.2.2.1.2.2 dX2_readMemberHead_308
          · have fc_303 := nlt_f c_303
            have b_319 : bd 0 3 v199_7 := leL fc_303 bv199_7 kb_3 (by decide)
            refine lv_iload hx hb dX2_readMemberHead_205 (lv_at hl 1 rfl) ?_
            have kb_0 : bd 0 0 (0 : Int32) := ⟨by decide, by decide⟩
            refine lv_if_eq (tgt := 251) hx hb dX2_readMemberHead_207 (by decide) (fun c_320 => ?_) (fun c_320 => ?_)
            · have fc_320 := eq_f c_320
              have b_321 : bd 0 0 v199_6 := eqX fc_320 bv199_6 kb_0 (by decide)
              refine lv_aload_n hx hb dX2_readMemberHead_251 rfl (lv_at hl 6 rfl) ?_
              refine g_getk (C := RX2) (T := TX2) (N := 16) hx hb hts (mc_ inX2) hown hK g rfl 0 (by decide) rfl (hts _ (List.mem_cons_of_mem _ t_416)) (fun _ h9 => h9) 3 rfl dX2_readMemberHead_252 ?_
              refine g_calli (va_runV (As := []) (rest := []) ⟨hx, hb, hml, hown, hts⟩ (r_X8_place l dC dI L kd tys f H.size g.2.2.2.1 q0_ mq0_ kq0_) (cwV 0 hts (gV_ t_1110 t_1111 t_1112 t_184 t_1113) rfl rfl rfl (by decide +kernel) ⟨(Nat.le_of_ble_eq_true rfl), (Nat.le_of_ble_eq_true rfl)⟩) (pre3V g hK mq0_ kq0_ (by decide) (q := (RX8, TX8, 10)) rfl) rfl rfl hl.1 rfl (lv_room (Nat.le_of_ble_eq_true rfl)) dX2_readMemberHead_255 ⟨(Nat.le_of_ble_eq_true rfl), (Nat.le_of_ble_eq_true rfl)⟩) g hK (by decide) (by decide) (fx' := [(8, 6, q0_, .int w199_8_6_q0_), (8, 8, q0_, .int x_292), (9, 9, q3_, .ref a_11), (2, 0, a0_, .ref q0_), (2, 1, a0_, .ref q1_), (2, 3, a0_, .ref q2_), (2, 4, a0_, .ref q3_), (2, 5, a0_, .ref q4_), (5, 1, q1_, .ref q5_)]) rfl (fun r_322 fr_322 H locs hp hMr_322 g => ?_)
              refine lv_istore (lv' := [(7, .int r_322), (6, .int v199_6), (5, .int x_12), (4, .int r_7), (2, .long r_6), (1, .int r_5), (0, .ref a0_)]) hx hb dX2_readMemberHead_258 hl (by decide) rfl (fun ls hl => ?_)
              refine lv_aload_n hx hb dX2_readMemberHead_260 rfl (lv_at hl 6 rfl) ?_
              refine g_getk (C := RX2) (T := TX2) (N := 16) hx hb hts (mc_ inX2) hown hK g rfl 0 (by decide) rfl (hts _ (List.mem_cons_of_mem _ t_416)) (fun _ h9 => h9) 3 rfl dX2_readMemberHead_261 ?_
              refine lv_bipush (v := 41) hx hb dX2_readMemberHead_264 (by decide) ?_
              refine g_callv (va_runV (As := [.int 41]) (rest := []) ⟨hx, hb, hml, hown, hts⟩ (r_X8_take_2 l dC dI L kd tys fr_322 H.size g.2.2.2.1 q0_ mq0_ kq0_ 41 w199_8_6_q0_ bw199_8_6_q0_ x_292 h_293 (g.fcts [0, 1] rfl)) (cwV 1 hts (gV_ t_1098 t_1099 t_1100 t_184 t_1101) rfl rfl rfl (by decide +kernel) ⟨(Nat.le_of_ble_eq_true rfl), (Nat.le_of_ble_eq_true rfl)⟩) (pre3V g hK mq0_ kq0_ (by decide) (q := (RX8, TX8, 10)) rfl) rfl rfl hl.1 rfl (lv_room (Nat.le_of_ble_eq_true rfl)) dX2_readMemberHead_266 ⟨(Nat.le_of_ble_eq_true rfl), (Nat.le_of_ble_eq_true rfl)⟩) g hK (by decide) (by decide) (fx' := [(8, 8, q0_, .int x_292), (9, 9, q3_, .ref a_11), (2, 0, a0_, .ref q0_), (2, 1, a0_, .ref q1_), (2, 3, a0_, .ref q2_), (2, 4, a0_, .ref q3_), (2, 5, a0_, .ref q4_), (5, 1, q1_, .ref q5_)]) rfl (fun fr_323 H locs hp hMr_323 g => ?_)
              obtain ⟨x_324, h_325, hF_326⟩ := hp
              have g := g.more hF_326
              refine lv_iload hx hb dX2_readMemberHead_269 (lv_at hl 2 rfl) ?_
              refine lv_iconst (v := (-1)) hx hb dX2_readMemberHead_271 (by decide) ?_
              refine lv_icmp_eq (tgt := 308) hx hb dX2_readMemberHead_272 (by decide) (fun c_327 => ?_) (fun c_327 => ?_)
              · have fc_327 := eq_f c_327
                have b_328 : bd 0 (-1) x_12 := eqX fc_327 bx_12 kb_m1 (by decide)
                exact bd_no b_328 (by decide)
              · have fc_327 := neq_f c_327
                refine lv_aload_n hx hb dX2_readMemberHead_275 rfl (lv_at hl 6 rfl) ?_
                refine g_getk (C := RX2) (T := TX2) (N := 16) hx hb hts (mc_ inX2) hown hK g rfl 3 (by decide) rfl (hts _ (List.mem_cons_of_mem _ t_419)) (fun _ h9 => h9) 5 rfl dX2_readMemberHead_276 ?_
                refine g_getr (K := 137) (C := RX7) (T := TX7) (N := 19) hx hb hts (mc_ inX7) hown hK g mq2_ kq2_ (by decide) rfl 2 (by decide) rfl (hts _ (List.mem_cons_of_mem _ t_630)) (fun _ h9 => h9) rfl dX2_readMemberHead_279 (fun a_329 ma_329 ka_329 g => ?_)
                refine lv_iload hx hb dX2_readMemberHead_282 (lv_at hl 2 rfl) ?_
                refine g_aald hx hb hK g ma_329 ka_329 (by decide) rfl (by decide) (in_bd bx_12 (by decide)) dX2_readMemberHead_284 (fun a_330 ma_330 ua_330 wa_330 => ?_)
                have ka_330 : kd a_330 = 6 := by omega
                refine g_geti (C := RX6) (T := TX6) (N := 13) hx hb hts (mc_ inX6) hown hK g ma_330 ka_330 (by decide) rfl 3 (by decide) rfl (hts _ (List.mem_cons_of_mem _ t_568)) (fun _ h9 => h9) rfl dX2_readMemberHead_285 (fun x_331 bx_331 g => ?_)
                refine lv_aload_n hx hb dX2_readMemberHead_288 rfl (lv_at hl 6 rfl) ?_
                refine g_getk (C := RX2) (T := TX2) (N := 16) hx hb hts (mc_ inX2) hown hK g rfl 5 (by decide) rfl (hts _ (List.mem_cons_of_mem _ t_421)) (fun _ h9 => h9) 9 rfl dX2_readMemberHead_289 ?_
                refine g_geti (C := RX6) (T := TX6) (N := 13) hx hb hts (mc_ inX6) hown hK g mq4_ kq4_ (by decide) rfl 3 (by decide) rfl (hts _ (List.mem_cons_of_mem _ t_568)) (fun _ h9 => h9) rfl dX2_readMemberHead_292 (fun x_332 bx_332 g => ?_)
                refine lv_icmp_eq (tgt := 308) hx hb dX2_readMemberHead_295 (by decide) (fun c_333 => ?_) (fun c_333 => ?_)
                · have fc_333 := eq_f c_333
                  subst hQ
                  exact W.vret hx hb hr (fun t ht hW => ⟨⟨_, rfl, Or.inr (⟨x_324, h_325, x_292, h_293, q4_, ⟨mq4_, kq4_⟩, (g.fcts [3, 4, 10] rfl)⟩), q3_of g hK ht hW⟩, g.2.2.1.F ht⟩) g.2.2.1.2.2 dX2_readMemberHead_308
                · have fc_333 := neq_f c_333
                  refine lv_aload_n hx hb dX2_readMemberHead_298 rfl (lv_at hl 6 rfl) ?_
                  refine g_getk (C := RX2) (T := TX2) (N := 16) hx hb hts (mc_ inX2) hown hK g rfl 0 (by decide) rfl (hts _ (List.mem_cons_of_mem _ t_416)) (fun _ h9 => h9) 6 rfl dX2_readMemberHead_299 ?_
                  refine lv_iconst (v := 5) hx hb dX2_readMemberHead_302 (by decide) ?_
                  refine lv_iload hx hb dX2_readMemberHead_303 (lv_at hl 0 rfl) ?_
                  have kb_5 : bd 5 5 (5 : Int32) := ⟨by decide, by decide⟩
                  refine g_callv (va_runV (As := [.int 5, .int r_322]) (rest := []) ⟨hx, hb, hml, hown, hts⟩ (r_X8_fail_2 l dC dI L kd tys fr_323 H.size g.2.2.2.1 q0_ mq0_ kq0_ 5 (bd_sub kb_5 (by decide)) r_322 x_292 h_293 (g.fcts [4] rfl)) (cwV 2 hts (gV_ t_1122 t_1107 t_1108 t_184 t_1109) rfl rfl rfl (by decide +kernel) ⟨(Nat.le_of_ble_eq_true rfl), (Nat.le_of_ble_eq_true rfl)⟩) (pre3V g hK mq0_ kq0_ (by decide) (q := (RX8, TX8, 10)) rfl) rfl rfl hl.1 rfl (lv_room (Nat.le_of_ble_eq_true rfl)) dX2_readMemberHead_305 ⟨(Nat.le_of_ble_eq_true rfl), (Nat.le_of_ble_eq_true rfl)⟩) g hK (by decide) (by decide) (fx' := [(6, 3, q4_, .int x_332), (6, 3, a_330, .int x_331), (7, 2, q2_, .ref a_329), (8, 8, q0_, .int x_292), (9, 9, q3_, .ref a_11), (2, 0, a0_, .ref q0_), (2, 1, a0_, .ref q1_), (2, 3, a0_, .ref q2_), (2, 4, a0_, .ref q3_), (2, 5, a0_, .ref q4_), (5, 1, q1_, .ref q5_)]) rfl (fun fr_334 H locs hp hMr_334 g => ?_)
                  have hF_335 := hp
                  have g := g.more hF_335
                  subst hQ
                  exact W.vret hx hb hr (fun t ht hW => ⟨⟨_, rfl, Or.inr (⟨1201, kb_1201, x_292, h_293, q4_, ⟨mq4_, kq4_⟩, (g.fcts [0, 4, 10] rfl)⟩), q3_of g hK ht hW⟩, g.2.2.1.F ht⟩) g.2.2.1.2.2 dX2_readMemberHead_308
            · have fc_320 := neq_f c_320
              have b_336 : bd 1 1 v199_6 := neX fc_320 bv199_6 kb_0 (by decide)
              refine lv_aload_n hx hb dX2_readMemberHead_210 rfl (lv_at hl 6 rfl) ?_
              refine g_callv (va_runV (As := []) (rest := []) ⟨hx, hb, hml, hown, hts⟩ (r_X2_readParam_2 l dC dI L kd tys f H.size g.2.2.2.1 a0_ ma0_ ka0_ q0_ mq0_ kq0_ q1_ mq1_ kq1_ q4_ mq4_ kq4_ q5_ mq5_ kq5_ w199_8_6_q0_ bw199_8_6_q0_ x_292 h_293 (g.fcts [3, 4, 7, 8, 0, 1] rfl)) (cwV 0 hts (gV_ t_1313 t_1315 t_34 t_183 t_1316) rfl rfl rfl (by decide +kernel) ⟨(Nat.le_of_ble_eq_true rfl), (Nat.le_of_ble_eq_true rfl)⟩) (pre3V g hK ma0_ ka0_ (by decide) (q := (RX2, TX2, 16)) rfl) rfl rfl hl.1 rfl (lv_room (Nat.le_of_ble_eq_true rfl)) dX2_readMemberHead_211 ⟨(Nat.le_of_ble_eq_true rfl), (Nat.le_of_ble_eq_true rfl)⟩) g hK (by decide) (by decide) (fx' := [(8, 8, q0_, .int x_292), (9, 9, q3_, .ref a_11), (2, 0, a0_, .ref q0_), (2, 1, a0_, .ref q1_), (2, 3, a0_, .ref q2_), (2, 4, a0_, .ref q3_), (2, 5, a0_, .ref q4_), (5, 1, q1_, .ref q5_)]) rfl (fun fr_337 H locs hp hMr_337 g => ?_)
              have hF_338 := hp
              have g := g.more hF_338
              refine lv_aload_n hx hb dX2_readMemberHead_214 rfl (lv_at hl 6 rfl) ?_
              refine g_getk (C := RX2) (T := TX2) (N := 16) hx hb hts (mc_ inX2) hown hK g rfl 0 (by decide) rfl (hts _ (List.mem_cons_of_mem _ t_416)) (fun _ h9 => h9) 3 rfl dX2_readMemberHead_215 ?_
              refine g_calli (va_runV (As := []) (rest := []) ⟨hx, hb, hml, hown, hts⟩ (r_X8_kind_2 l dC dI L kd tys fr_337 H.size g.2.2.2.1 q0_ mq0_ kq0_ 1201 kb_1201 (g.fcts [0] rfl)) (cwV 0 hts (gV_ t_1118 t_1119 t_1120 t_184 t_1121) rfl rfl rfl (by decide +kernel) ⟨(Nat.le_of_ble_eq_true rfl), (Nat.le_of_ble_eq_true rfl)⟩) (pre3V g hK mq0_ kq0_ (by decide) (q := (RX8, TX8, 10)) rfl) rfl rfl hl.1 rfl (lv_room (Nat.le_of_ble_eq_true rfl)) dX2_readMemberHead_218 ⟨(Nat.le_of_ble_eq_true rfl), (Nat.le_of_ble_eq_true rfl)⟩) g hK (by decide) (by decide) (fx' := [(8, 6, q0_, .int 1201), (8, 8, q0_, .int x_292), (9, 9, q3_, .ref a_11), (2, 0, a0_, .ref q0_), (2, 1, a0_, .ref q1_), (2, 3, a0_, .ref q2_), (2, 4, a0_, .ref q3_), (2, 5, a0_, .ref q4_), (5, 1, q1_, .ref q5_)]) rfl (fun r_339 fr_339 H locs hp hMr_339 g => ?_)
              obtain ⟨h_340, -⟩ := hp
              obtain rfl : r_339 = 0 := h_340
              refine lv_bipush (v := 44) hx hb dX2_readMemberHead_221 (by decide) ?_
              refine lv_icmp_ne (tgt := 230) hx hb dX2_readMemberHead_223 (by decide) (fun c_ => ?_) (fun c_ => absurd c_ (by decide))
              refine lv_iconst (v := 0) hx hb dX2_readMemberHead_230 (by decide) ?_
              refine lv_istore (lv' := [(6, .int 0), (7, .int v199_7), (5, .int x_12), (4, .int r_7), (2, .long r_6), (1, .int r_5), (0, .ref a0_)]) hx hb dX2_readMemberHead_231 hl (by decide) rfl (fun ls hl => ?_)
              refine lv_iload hx hb dX2_readMemberHead_233 (lv_at hl 0 rfl) ?_
              refine lv_if_eq (tgt := 245) hx hb dX2_readMemberHead_235 (by decide) (fun c_ => ?_) (fun c_ => absurd (by decide) c_)
              obtain ⟨y_341, ey_341⟩ : ∃ z : Int32, z = v199_7 + 1 := ⟨_, rfl⟩
              refine lv_iinc (v := y_341) (lv' := [(7, .int y_341), (6, .int 0), (5, .int x_12), (4, .int r_7), (2, .long r_6), (1, .int r_5), (0, .ref a0_)]) hx hb dX2_readMemberHead_245 hl (k := 1) rfl (by rw [ey_341]; rfl) (by decide) rfl (fun ls hl => ?_)
              have ty_341 := add_bd ey_341 b_319 kb_1 (by decide)
              have b_342 : bd 1 4 y_341 := add_rg ty_341 b_319 kb_1 (by decide)
              refine lv_goto (tgt := 199) hx hb dX2_readMemberHead_248 (by decide) ?_
              have hl9 := lv_sub hl [0, 1, 2, 3, 4, 5, 6] (by rfl : lv_pick [(7, .int y_341), (6, .int 0), (5, .int x_12), (4, .int r_7), (2, .long r_6), (1, .int r_5), (0, .ref a0_)] [0, 1, 2, 3, 4, 5, 6] = [(7, .int y_341), (6, .int 0), (5, .int x_12), (4, .int r_7), (2, .long r_6), (1, .int r_5), (0, .ref a0_)])
              have g9 := g.sub (fx' := [(8, 6, q0_, .int 1201), (8, 8, q0_, .int x_292), (9, 9, q3_, .ref a_11), (2, 0, a0_, .ref q0_), (2, 1, a0_, .ref q1_), (2, 3, a0_, .ref q2_), (2, 4, a0_, .ref q3_), (2, 5, a0_, .ref q4_), (5, 1, q1_, .ref q5_)]) [0, 1, 2, 3, 4, 5, 6, 7, 8] rfl
              exact ih199  y_341 0 1201 (bd_sub b_342 (by decide)) (bd_sub kb_0 (by decide)) kb_1201 (by have h9_0 := b_342; unfold bd at h9_0; have h9_1 := bv199_6; unfold bd at h9_1; have h9_2 := bv199_7; unfold bd at h9_2; have h9_3 := bw199_8_6_q0_; unfold bd at h9_3; have h9_4 := kb_0; unfold bd at h9_4; have h9_5 := kb_1; unfold bd at h9_5; have h9_6 := kb_1201; unfold bd at h9_6; have h9_7 := kb_3; unfold bd at h9_7; have h9_8 := kb_m1; unfold bd at h9_8; omega) _ _ _ _ g9  hl9
      have kb_0 : bd 0 0 (0 : Int32) := ⟨by decide, by decide⟩
      have hl9 := lv_sub hl [0, 1, 2, 3, 4, 5, 6] (by rfl : lv_pick [(7, .int 0), (6, .int 1), (5, .int x_12), (4, .int r_7), (2, .long r_6), (1, .int r_5), (0, .ref a0_)] [0, 1, 2, 3, 4, 5, 6] = [(7, .int 0), (6, .int 1), (5, .int x_12), (4, .int r_7), (2, .long r_6), (1, .int r_5), (0, .ref a0_)])
      have g9 := g.sub (fx' := [(8, 6, q0_, .int x_297), (8, 8, q0_, .int x_292), (9, 9, q3_, .ref a_11), (2, 0, a0_, .ref q0_), (2, 1, a0_, .ref q1_), (2, 3, a0_, .ref q2_), (2, 4, a0_, .ref q3_), (2, 5, a0_, .ref q4_), (5, 1, q1_, .ref q5_)]) [0, 1, 2, 3, 4, 5, 6, 7, 8] rfl
      exact loop_302 (11) 0 1 x_297 (bd_sub kb_0 (by decide)) (bd_sub kb_1 (by decide)) h_298 (by have h9_0 := h_298; unfold bd at h9_0; have h9_1 := kb_0; unfold bd at h9_1; have h9_2 := kb_1; unfold bd at h9_2; have h9_3 := kb_1201; unfold bd at h9_3; have h9_4 := kb_3; unfold bd at h9_4; have h9_5 := kb_m1; unfold bd at h9_5; omega) _ _ _ _ g9  hl9
  · have fc_9 := eq_f c_9
    have b_343 : bd (-1) (-1) r_7 := eqX fc_9 h_8 kb_m1 (by decide)
    refine lv_iconst (v := (-1)) hx hb dX2_readMemberHead_43 (by decide) ?_
    refine lv_goto (tgt := 57) hx hb dX2_readMemberHead_44 (by decide) ?_
    refine lv_istore (lv' := [(5, .int (-1)), (4, .int r_7), (2, .long r_6), (1, .int r_5), (0, .ref a0_)]) hx hb dX2_readMemberHead_57 hl (by decide) rfl (fun ls hl => ?_)
    refine lv_aload_n hx hb dX2_readMemberHead_59 rfl (lv_at hl 4 rfl) ?_
    refine g_getk (C := RX2) (T := TX2) (N := 16) hx hb hts (mc_ inX2) hown hK g rfl 0 (by decide) rfl (hts _ (List.mem_cons_of_mem _ t_416)) (fun _ h9 => h9) 1 rfl dX2_readMemberHead_60 ?_
    refine g_calli (va_runV (As := []) (rest := []) ⟨hx, hb, hml, hown, hts⟩ (r_X8_kind l dC dI L kd tys fr_7 H.size g.2.2.2.1 q0_ mq0_ kq0_) (cwV 0 hts (gV_ t_1118 t_1119 t_1120 t_184 t_1121) rfl rfl rfl (by decide +kernel) ⟨(Nat.le_of_ble_eq_true rfl), (Nat.le_of_ble_eq_true rfl)⟩) (pre3V g hK mq0_ kq0_ (by decide) (q := (RX8, TX8, 10)) rfl) rfl rfl hl.1 rfl (lv_room (Nat.le_of_ble_eq_true rfl)) dX2_readMemberHead_63 ⟨(Nat.le_of_ble_eq_true rfl), (Nat.le_of_ble_eq_true rfl)⟩) g hK (by decide) (by decide) (fx' := [(8, 6, q0_, .int x_2), (2, 0, a0_, .ref q0_), (2, 1, a0_, .ref q1_), (2, 3, a0_, .ref q2_), (2, 4, a0_, .ref q3_), (2, 5, a0_, .ref q4_), (5, 1, q1_, .ref q5_), (8, 8, q0_, .int y0_)]) rfl (fun r_344 fr_344 H locs hp hMr_344 g => ?_)
    refine lv_iconst (v := 3) hx hb dX2_readMemberHead_66 (by decide) ?_
    have kb_3 : bd 3 3 (3 : Int32) := ⟨by decide, by decide⟩
    refine lv_icmp_eq (tgt := 82) hx hb dX2_readMemberHead_67 (by decide) (fun c_345 => ?_) (fun c_345 => ?_)
    · have fc_345 := eq_f c_345
      have b_346 : bd 3 3 r_344 := eqX fc_345 (bdT r_344) kb_3 (by decide)
      refine lv_iload hx hb dX2_readMemberHead_82 (lv_at hl 0 rfl) ?_
      refine lv_iconst (v := (-1)) hx hb dX2_readMemberHead_84 (by decide) ?_
      refine lv_icmp_eq (tgt := 123) hx hb dX2_readMemberHead_85 (by decide) (fun c_ => ?_) (fun c_ => absurd (by decide) c_)
      refine lv_iload hx hb dX2_readMemberHead_123 (lv_at hl 0 rfl) ?_
      refine lv_iconst (v := (-1)) hx hb dX2_readMemberHead_125 (by decide) ?_
      refine lv_icmp_ne (tgt := 153) hx hb dX2_readMemberHead_126 (by decide) (fun c_ => absurd c_ (by decide)) (fun c_ => ?_)
      refine lv_aload_n hx hb dX2_readMemberHead_129 rfl (lv_at hl 4 rfl) ?_
      refine g_getk (C := RX2) (T := TX2) (N := 16) hx hb hts (mc_ inX2) hown hK g rfl 4 (by decide) rfl (hts _ (List.mem_cons_of_mem _ t_420)) (fun _ h9 => h9) 4 rfl dX2_readMemberHead_130 ?_
      refine g_geti (C := RX9) (T := TX9) (N := 13) hx hb hts (mc_ inX9) hown hK g mq3_ kq3_ (by decide) rfl 8 (by decide) rfl (hts _ (List.mem_cons_of_mem _ t_502)) (fun _ h9 => h9) rfl dX2_readMemberHead_133 (fun x_347 bx_347 g => ?_)
      refine lv_bipush (v := 12) hx hb dX2_readMemberHead_136 (by decide) ?_
      have kb_12 : bd 12 12 (12 : Int32) := ⟨by decide, by decide⟩
      refine lv_icmp_lt (tgt := 153) hx hb dX2_readMemberHead_138 (by decide) (fun c_348 => ?_) (fun c_348 => ?_)
      · have fc_348 := lt_f c_348
        have b_349 : bd 0 11 x_347 := ltL fc_348 bx_347 kb_12 (by decide)
        refine lv_aload_n hx hb dX2_readMemberHead_153 rfl (lv_at hl 4 rfl) ?_
        refine lv_lload_n hx hb dX2_readMemberHead_154 rfl (lv_at hl 2 rfl) ?_
        refine lv_iload_n hx hb dX2_readMemberHead_155 rfl (lv_at hl 3 rfl) ?_
        refine lv_iload hx hb dX2_readMemberHead_156 (lv_at hl 1 rfl) ?_
        refine g_callv (va_runV (As := [.long r_6, .int r_5, .int r_7]) (rest := []) ⟨hx, hb, hml, hown, hts⟩ (r_X2_beginTelling_2 l dC dI L kd tys fr_344 H.size g.2.2.2.1 a0_ ma0_ ka0_ r_6 r_5 r_7 b_343 q0_ mq0_ kq0_ q2_ mq2_ kq2_ q3_ mq3_ kq3_ x_347 b_349 y0_ by0_ (g.fcts [2, 4, 5, 0, 8] rfl)) (cwV 3 hts (gV_ t_1307 t_1309 t_33 t_183 t_1310) rfl rfl rfl (by decide +kernel) ⟨(Nat.le_of_ble_eq_true rfl), (Nat.le_of_ble_eq_true rfl)⟩) (pre3V g hK ma0_ ka0_ (by decide) (q := (RX2, TX2, 16)) rfl) rfl rfl hl.1 rfl (lv_room (Nat.le_of_ble_eq_true rfl)) dX2_readMemberHead_158 ⟨(Nat.le_of_ble_eq_true rfl), (Nat.le_of_ble_eq_true rfl)⟩) g hK (by decide) (by decide) (fx' := [(8, 6, q0_, .int x_2), (2, 0, a0_, .ref q0_), (2, 1, a0_, .ref q1_), (2, 3, a0_, .ref q2_), (2, 4, a0_, .ref q3_), (5, 1, q1_, .ref q5_), (8, 8, q0_, .int y0_)]) rfl (fun fr_350 H locs hp hMr_350 g => ?_)
        obtain ⟨x_351, h_352, a_353, ⟨ma_353, ka_353⟩, x_354, h_355, x_356, h_357, hF_358⟩ := hp
        have g := g.more hF_358
        refine lv_aload_n hx hb dX2_readMemberHead_161 rfl (lv_at hl 4 rfl) ?_
        refine g_getk (C := RX2) (T := TX2) (N := 16) hx hb hts (mc_ inX2) hown hK g rfl 0 (by decide) rfl (hts _ (List.mem_cons_of_mem _ t_416)) (fun _ h9 => h9) 6 rfl dX2_readMemberHead_162 ?_
        refine g_callv (va_runV (As := []) (rest := []) ⟨hx, hb, hml, hown, hts⟩ (r_X8_next l dC dI L kd tys fr_350 H.size g.2.2.2.1 q0_ mq0_ kq0_) (cwV 0 hts (gV_ t_1131 t_1103 t_1104 t_184 t_1105) rfl rfl rfl (by decide +kernel) ⟨(Nat.le_of_ble_eq_true rfl), (Nat.le_of_ble_eq_true rfl)⟩) (pre3V g hK mq0_ kq0_ (by decide) (q := (RX8, TX8, 10)) rfl) rfl rfl hl.1 rfl (lv_room (Nat.le_of_ble_eq_true rfl)) dX2_readMemberHead_165 ⟨(Nat.le_of_ble_eq_true rfl), (Nat.le_of_ble_eq_true rfl)⟩) g hK (by decide) (by decide) (fx' := [(2, 6, a0_, .int 0), (9, 8, q3_, .int x_351), (2, 5, a0_, .ref a_353), (7, 3, q2_, .int x_354), (6, 12, a_353, .int x_356), (2, 0, a0_, .ref q0_), (2, 1, a0_, .ref q1_), (2, 3, a0_, .ref q2_), (2, 4, a0_, .ref q3_), (5, 1, q1_, .ref q5_), (8, 8, q0_, .int y0_)]) rfl (fun fr_359 H locs hp hMr_359 g => ?_)
        obtain ⟨x_360, h_361, hF_362⟩ := hp
        have g := g.more hF_362
        refine lv_aload_n hx hb dX2_readMemberHead_168 rfl (lv_at hl 4 rfl) ?_
        refine g_getk (C := RX2) (T := TX2) (N := 16) hx hb hts (mc_ inX2) hown hK g rfl 0 (by decide) rfl (hts _ (List.mem_cons_of_mem _ t_416)) (fun _ h9 => h9) 6 rfl dX2_readMemberHead_169 ?_
        refine lv_bipush (v := 40) hx hb dX2_readMemberHead_172 (by decide) ?_
        refine g_callv (va_runV (As := [.int 40]) (rest := []) ⟨hx, hb, hml, hown, hts⟩ (r_X8_take l dC dI L kd tys fr_359 H.size g.2.2.2.1 q0_ mq0_ kq0_ 40 y0_ by0_ (g.fcts [11] rfl)) (cwV 1 hts (gV_ t_1098 t_1099 t_1100 t_184 t_1101) rfl rfl rfl (by decide +kernel) ⟨(Nat.le_of_ble_eq_true rfl), (Nat.le_of_ble_eq_true rfl)⟩) (pre3V g hK mq0_ kq0_ (by decide) (q := (RX8, TX8, 10)) rfl) rfl rfl hl.1 rfl (lv_room (Nat.le_of_ble_eq_true rfl)) dX2_readMemberHead_174 ⟨(Nat.le_of_ble_eq_true rfl), (Nat.le_of_ble_eq_true rfl)⟩) g hK (by decide) (by decide) (fx' := [(2, 6, a0_, .int 0), (9, 8, q3_, .int x_351), (2, 5, a0_, .ref a_353), (7, 3, q2_, .int x_354), (6, 12, a_353, .int x_356), (2, 0, a0_, .ref q0_), (2, 1, a0_, .ref q1_), (2, 3, a0_, .ref q2_), (2, 4, a0_, .ref q3_), (5, 1, q1_, .ref q5_)]) rfl (fun fr_363 H locs hp hMr_363 g => ?_)
        rcases hp with ⟨x_364, h_365, x_366, h_367, hF_368⟩ | ⟨x_369, h_370, hF_371⟩
        · have g := g.more hF_368
          refine lv_aload_n hx hb dX2_readMemberHead_177 rfl (lv_at hl 4 rfl) ?_
          refine g_getk (C := RX2) (T := TX2) (N := 16) hx hb hts (mc_ inX2) hown hK g rfl 0 (by decide) rfl (hts _ (List.mem_cons_of_mem _ t_416)) (fun _ h9 => h9) 7 rfl dX2_readMemberHead_178 ?_
          refine g_calli (va_runV (As := []) (rest := []) ⟨hx, hb, hml, hown, hts⟩ (r_X8_kind l dC dI L kd tys fr_363 H.size g.2.2.2.1 q0_ mq0_ kq0_) (cwV 0 hts (gV_ t_1118 t_1119 t_1120 t_184 t_1121) rfl rfl rfl (by decide +kernel) ⟨(Nat.le_of_ble_eq_true rfl), (Nat.le_of_ble_eq_true rfl)⟩) (pre3V g hK mq0_ kq0_ (by decide) (q := (RX8, TX8, 10)) rfl) rfl rfl hl.1 rfl (lv_room (Nat.le_of_ble_eq_true rfl)) dX2_readMemberHead_181 ⟨(Nat.le_of_ble_eq_true rfl), (Nat.le_of_ble_eq_true rfl)⟩) g hK (by decide) (by decide) (fx' := [(8, 6, q0_, .int x_364), (8, 8, q0_, .int x_366), (2, 6, a0_, .int 0), (9, 8, q3_, .int x_351), (2, 5, a0_, .ref a_353), (7, 3, q2_, .int x_354), (6, 12, a_353, .int x_356), (2, 0, a0_, .ref q0_), (2, 1, a0_, .ref q1_), (2, 3, a0_, .ref q2_), (2, 4, a0_, .ref q3_), (5, 1, q1_, .ref q5_)]) rfl (fun r_372 fr_372 H locs hp hMr_372 g => ?_)
          refine lv_bipush (v := 41) hx hb dX2_readMemberHead_184 (by decide) ?_
          have kb_41 : bd 41 41 (41 : Int32) := ⟨by decide, by decide⟩
          refine lv_icmp_eq (tgt := 193) hx hb dX2_readMemberHead_186 (by decide) (fun c_373 => ?_) (fun c_373 => ?_)
          · have fc_373 := eq_f c_373
            have b_374 : bd 41 41 r_372 := eqX fc_373 (bdT r_372) kb_41 (by decide)
            refine lv_iconst (v := 0) hx hb dX2_readMemberHead_193 (by decide) ?_
            refine lv_istore (lv' := [(6, .int 0), (5, .int (-1)), (4, .int r_7), (2, .long r_6), (1, .int r_5), (0, .ref a0_)]) hx hb dX2_readMemberHead_194 hl (by decide) rfl (fun ls hl => ?_)
            refine lv_iconst (v := 0) hx hb dX2_readMemberHead_196 (by decide) ?_
            refine lv_istore (lv' := [(7, .int 0), (6, .int 0), (5, .int (-1)), (4, .int r_7), (2, .long r_6), (1, .int r_5), (0, .ref a0_)]) hx hb dX2_readMemberHead_197 hl (by decide) rfl (fun ls hl => ?_)
            refine lv_iload hx hb dX2_readMemberHead_199 (lv_at hl 0 rfl) ?_
            refine lv_iconst (v := 3) hx hb dX2_readMemberHead_201 (by decide) ?_
            refine lv_icmp_gt (tgt := 251) hx hb dX2_readMemberHead_202 (by decide) (fun c_ => absurd c_ (by decide)) (fun c_ => ?_)
            refine lv_iload hx hb dX2_readMemberHead_205 (lv_at hl 1 rfl) ?_
            refine lv_if_eq (tgt := 251) hx hb dX2_readMemberHead_207 (by decide) (fun c_ => ?_) (fun c_ => absurd (by decide) c_)
            refine lv_aload_n hx hb dX2_readMemberHead_251 rfl (lv_at hl 6 rfl) ?_
            refine g_getk (C := RX2) (T := TX2) (N := 16) hx hb hts (mc_ inX2) hown hK g rfl 0 (by decide) rfl (hts _ (List.mem_cons_of_mem _ t_416)) (fun _ h9 => h9) 7 rfl dX2_readMemberHead_252 ?_
            refine g_calli (va_runV (As := []) (rest := []) ⟨hx, hb, hml, hown, hts⟩ (r_X8_place l dC dI L kd tys fr_372 H.size g.2.2.2.1 q0_ mq0_ kq0_) (cwV 0 hts (gV_ t_1110 t_1111 t_1112 t_184 t_1113) rfl rfl rfl (by decide +kernel) ⟨(Nat.le_of_ble_eq_true rfl), (Nat.le_of_ble_eq_true rfl)⟩) (pre3V g hK mq0_ kq0_ (by decide) (q := (RX8, TX8, 10)) rfl) rfl rfl hl.1 rfl (lv_room (Nat.le_of_ble_eq_true rfl)) dX2_readMemberHead_255 ⟨(Nat.le_of_ble_eq_true rfl), (Nat.le_of_ble_eq_true rfl)⟩) g hK (by decide) (by decide) (fx' := [(8, 6, q0_, .int x_364), (8, 8, q0_, .int x_366), (2, 6, a0_, .int 0), (9, 8, q3_, .int x_351), (2, 5, a0_, .ref a_353), (7, 3, q2_, .int x_354), (6, 12, a_353, .int x_356), (2, 0, a0_, .ref q0_), (2, 1, a0_, .ref q1_), (2, 3, a0_, .ref q2_), (2, 4, a0_, .ref q3_), (5, 1, q1_, .ref q5_)]) rfl (fun r_375 fr_375 H locs hp hMr_375 g => ?_)
            refine lv_istore (lv' := [(7, .int r_375), (6, .int 0), (5, .int (-1)), (4, .int r_7), (2, .long r_6), (1, .int r_5), (0, .ref a0_)]) hx hb dX2_readMemberHead_258 hl (by decide) rfl (fun ls hl => ?_)
            refine lv_aload_n hx hb dX2_readMemberHead_260 rfl (lv_at hl 6 rfl) ?_
            refine g_getk (C := RX2) (T := TX2) (N := 16) hx hb hts (mc_ inX2) hown hK g rfl 0 (by decide) rfl (hts _ (List.mem_cons_of_mem _ t_416)) (fun _ h9 => h9) 7 rfl dX2_readMemberHead_261 ?_
            refine lv_bipush (v := 41) hx hb dX2_readMemberHead_264 (by decide) ?_
            refine g_callv (va_runV (As := [.int 41]) (rest := []) ⟨hx, hb, hml, hown, hts⟩ (r_X8_take l dC dI L kd tys fr_375 H.size g.2.2.2.1 q0_ mq0_ kq0_ 41 x_366 h_367 (g.fcts [1] rfl)) (cwV 1 hts (gV_ t_1098 t_1099 t_1100 t_184 t_1101) rfl rfl rfl (by decide +kernel) ⟨(Nat.le_of_ble_eq_true rfl), (Nat.le_of_ble_eq_true rfl)⟩) (pre3V g hK mq0_ kq0_ (by decide) (q := (RX8, TX8, 10)) rfl) rfl rfl hl.1 rfl (lv_room (Nat.le_of_ble_eq_true rfl)) dX2_readMemberHead_266 ⟨(Nat.le_of_ble_eq_true rfl), (Nat.le_of_ble_eq_true rfl)⟩) g hK (by decide) (by decide) (fx' := [(2, 6, a0_, .int 0), (9, 8, q3_, .int x_351), (2, 5, a0_, .ref a_353), (7, 3, q2_, .int x_354), (6, 12, a_353, .int x_356), (2, 0, a0_, .ref q0_), (2, 1, a0_, .ref q1_), (2, 3, a0_, .ref q2_), (2, 4, a0_, .ref q3_), (5, 1, q1_, .ref q5_)]) rfl (fun fr_376 H locs hp hMr_376 g => ?_)
            rcases hp with ⟨x_377, h_378, x_379, h_380, hF_381⟩ | ⟨x_382, h_383, hF_384⟩
            · have g := g.more hF_381
              refine lv_iload hx hb dX2_readMemberHead_269 (lv_at hl 2 rfl) ?_
              refine lv_iconst (v := (-1)) hx hb dX2_readMemberHead_271 (by decide) ?_
              refine lv_icmp_eq (tgt := 308) hx hb dX2_readMemberHead_272 (by decide) (fun c_ => ?_) (fun c_ => absurd (by decide) c_)
              subst hQ
              exact W.vret hx hb hr (fun t ht hW => ⟨⟨_, rfl, Or.inl ⟨x_377, h_378, x_379, h_380, x_351, h_352, a_353, ⟨ma_353, ka_353⟩, x_354, h_355, x_356, h_357, (g.fcts [0, 1, 2, 3, 4, 5, 6] rfl)⟩, q3_of g hK ht hW⟩, g.2.2.1.F ht⟩) g.2.2.1.2.2 dX2_readMemberHead_308
            · have g := g.more hF_384
              refine lv_iload hx hb dX2_readMemberHead_269 (lv_at hl 2 rfl) ?_
              refine lv_iconst (v := (-1)) hx hb dX2_readMemberHead_271 (by decide) ?_
              refine lv_icmp_eq (tgt := 308) hx hb dX2_readMemberHead_272 (by decide) (fun c_ => ?_) (fun c_ => absurd (by decide) c_)
              have kb_1201 : bd 1201 1201 (1201 : Int32) := ⟨by decide, by decide⟩
              subst hQ
              exact W.vret hx hb hr (fun t ht hW => ⟨⟨_, rfl, Or.inr (⟨1201, kb_1201, x_382, h_383, a_353, ⟨ma_353, ka_353⟩, (g.fcts [0, 1, 4] rfl)⟩), q3_of g hK ht hW⟩, g.2.2.1.F ht⟩) g.2.2.1.2.2 dX2_readMemberHead_308
          · have fc_373 := neq_f c_373
            refine lv_iconst (v := 1) hx hb dX2_readMemberHead_189 (by decide) ?_
            refine lv_goto (tgt := 194) hx hb dX2_readMemberHead_190 (by decide) ?_
            refine lv_istore (lv' := [(6, .int 1), (5, .int (-1)), (4, .int r_7), (2, .long r_6), (1, .int r_5), (0, .ref a0_)]) hx hb dX2_readMemberHead_194 hl (by decide) rfl (fun ls hl => ?_)
            refine lv_iconst (v := 0) hx hb dX2_readMemberHead_196 (by decide) ?_
            refine lv_istore (lv' := [(7, .int 0), (6, .int 1), (5, .int (-1)), (4, .int r_7), (2, .long r_6), (1, .int r_5), (0, .ref a0_)]) hx hb dX2_readMemberHead_197 hl (by decide) rfl (fun ls hl => ?_)
            have loop_385 : ∀ (n : Nat) (v199_7 : Int32) (v199_6 : Int32) (w199_8_6_q0_ : Int32) (w199_8_8_q0_ : Int32), bd 0 4 v199_7 → bd 0 1 v199_6 → bd 1 1201 w199_8_6_q0_ → bd 0 0 w199_8_8_q0_ → (4 - v199_7.toInt < (n : Int)) → ∀ (f : Nat → va_E) (H : Heap) (locs : List Loc) (ls : Array Slot), G3 (dC, dI) L kd tys s f0 [(2, 5), (2, 6), (5, 4), (6, 0), (6, 1), (6, 2), (6, 3), (6, 6), (6, 7), (6, 8), (6, 9), (6, 10), (6, 11), (6, 12), (7, 3), (8, 6), (8, 8), (8, 9), (9, 8)] [132, 134, 135, 156] f H locs [(8, 6, q0_, .int w199_8_6_q0_), (8, 8, q0_, .int w199_8_8_q0_), (2, 6, a0_, .int 0), (9, 8, q3_, .int x_351), (2, 5, a0_, .ref a_353), (7, 3, q2_, .int x_354), (6, 12, a_353, .int x_356), (2, 0, a0_, .ref q0_), (2, 1, a0_, .ref q1_), (2, 3, a0_, .ref q2_), (2, 4, a0_, .ref q3_), (5, 1, q1_, .ref q5_)] → lv_has ls 8 [(7, .int v199_7), (6, .int v199_6), (5, .int (-1)), (4, .int r_7), (2, .long r_6), (1, .int r_5), (0, .ref a0_)] → W p l e ({ frames := 3, cells := 0, slots := 0, locals := 72 } : Room) s m [.ref a0_].toArray below meth c H locs 0 0 Q (F0 m 199 ls []) := by
              intro n199
              induction n199 with
              | zero =>
                intro v199_7 v199_6 w199_8_6_q0_ w199_8_8_q0_ bv199_7 bv199_6 bw199_8_6_q0_ bw199_8_8_q0_ hm199 f H locs ls g  hl
                exact absurd hm199 (by have h9_v199_7 := bv199_7; unfold bd at h9_v199_7; have h9_v199_6 := bv199_6; unfold bd at h9_v199_6; have h9_w199_8_6_q0_ := bw199_8_6_q0_; unfold bd at h9_w199_8_6_q0_; have h9_w199_8_8_q0_ := bw199_8_8_q0_; unfold bd at h9_w199_8_8_q0_; omega)
              | succ n199 ih199 =>
                intro v199_7 v199_6 w199_8_6_q0_ w199_8_8_q0_ bv199_7 bv199_6 bw199_8_6_q0_ bw199_8_8_q0_ hm199 f H locs ls g  hl
                refine lv_iload hx hb dX2_readMemberHead_199 (lv_at hl 0 rfl) ?_
                refine lv_iconst (v := 3) hx hb dX2_readMemberHead_201 (by decide) ?_
                refine lv_icmp_gt (tgt := 251) hx hb dX2_readMemberHead_202 (by decide) (fun c_386 => ?_) (fun c_386 => ?_)
                · have fc_386 := lt_f c_386
                  have b_387 : bd 4 4 v199_7 := ltR fc_386 kb_3 bv199_7 (by decide)
                  refine lv_aload_n hx hb dX2_readMemberHead_251 rfl (lv_at hl 6 rfl) ?_
                  refine g_getk (C := RX2) (T := TX2) (N := 16) hx hb hts (mc_ inX2) hown hK g rfl 0 (by decide) rfl (hts _ (List.mem_cons_of_mem _ t_416)) (fun _ h9 => h9) 7 rfl dX2_readMemberHead_252 ?_
                  refine g_calli (va_runV (As := []) (rest := []) ⟨hx, hb, hml, hown, hts⟩ (r_X8_place l dC dI L kd tys f H.size g.2.2.2.1 q0_ mq0_ kq0_) (cwV 0 hts (gV_ t_1110 t_1111 t_1112 t_184 t_1113) rfl rfl rfl (by decide +kernel) ⟨(Nat.le_of_ble_eq_true rfl), (Nat.le_of_ble_eq_true rfl)⟩) (pre3V g hK mq0_ kq0_ (by decide) (q := (RX8, TX8, 10)) rfl) rfl rfl hl.1 rfl (lv_room (Nat.le_of_ble_eq_true rfl)) dX2_readMemberHead_255 ⟨(Nat.le_of_ble_eq_true rfl), (Nat.le_of_ble_eq_true rfl)⟩) g hK (by decide) (by decide) (fx' := [(8, 6, q0_, .int w199_8_6_q0_), (8, 8, q0_, .int w199_8_8_q0_), (2, 6, a0_, .int 0), (9, 8, q3_, .int x_351), (2, 5, a0_, .ref a_353), (7, 3, q2_, .int x_354), (6, 12, a_353, .int x_356), (2, 0, a0_, .ref q0_), (2, 1, a0_, .ref q1_), (2, 3, a0_, .ref q2_), (2, 4, a0_, .ref q3_), (5, 1, q1_, .ref q5_)]) rfl (fun r_388 fr_388 H locs hp hMr_388 g => ?_)
                  refine lv_istore (lv' := [(7, .int r_388), (6, .int v199_6), (5, .int (-1)), (4, .int r_7), (2, .long r_6), (1, .int r_5), (0, .ref a0_)]) hx hb dX2_readMemberHead_258 hl (by decide) rfl (fun ls hl => ?_)
                  refine lv_aload_n hx hb dX2_readMemberHead_260 rfl (lv_at hl 6 rfl) ?_
                  refine g_getk (C := RX2) (T := TX2) (N := 16) hx hb hts (mc_ inX2) hown hK g rfl 0 (by decide) rfl (hts _ (List.mem_cons_of_mem _ t_416)) (fun _ h9 => h9) 7 rfl dX2_readMemberHead_261 ?_
                  refine lv_bipush (v := 41) hx hb dX2_readMemberHead_264 (by decide) ?_
                  refine g_callv (va_runV (As := [.int 41]) (rest := []) ⟨hx, hb, hml, hown, hts⟩ (r_X8_take l dC dI L kd tys fr_388 H.size g.2.2.2.1 q0_ mq0_ kq0_ 41 w199_8_8_q0_ bw199_8_8_q0_ (g.fcts [1] rfl)) (cwV 1 hts (gV_ t_1098 t_1099 t_1100 t_184 t_1101) rfl rfl rfl (by decide +kernel) ⟨(Nat.le_of_ble_eq_true rfl), (Nat.le_of_ble_eq_true rfl)⟩) (pre3V g hK mq0_ kq0_ (by decide) (q := (RX8, TX8, 10)) rfl) rfl rfl hl.1 rfl (lv_room (Nat.le_of_ble_eq_true rfl)) dX2_readMemberHead_266 ⟨(Nat.le_of_ble_eq_true rfl), (Nat.le_of_ble_eq_true rfl)⟩) g hK (by decide) (by decide) (fx' := [(2, 6, a0_, .int 0), (9, 8, q3_, .int x_351), (2, 5, a0_, .ref a_353), (7, 3, q2_, .int x_354), (6, 12, a_353, .int x_356), (2, 0, a0_, .ref q0_), (2, 1, a0_, .ref q1_), (2, 3, a0_, .ref q2_), (2, 4, a0_, .ref q3_), (5, 1, q1_, .ref q5_)]) rfl (fun fr_389 H locs hp hMr_389 g => ?_)
                  rcases hp with ⟨x_390, h_391, x_392, h_393, hF_394⟩ | ⟨x_395, h_396, hF_397⟩
                  · have g := g.more hF_394
                    refine lv_iload hx hb dX2_readMemberHead_269 (lv_at hl 2 rfl) ?_
                    refine lv_iconst (v := (-1)) hx hb dX2_readMemberHead_271 (by decide) ?_
                    refine lv_icmp_eq (tgt := 308) hx hb dX2_readMemberHead_272 (by decide) (fun c_ => ?_) (fun c_ => absurd (by decide) c_)
                    subst hQ
                    exact W.vret hx hb hr (fun t ht hW => ⟨⟨_, rfl, Or.inl ⟨x_390, h_391, x_392, h_393, x_351, h_352, a_353, ⟨ma_353, ka_353⟩, x_354, h_355, x_356, h_357, (g.fcts [0, 1, 2, 3, 4, 5, 6] rfl)⟩, q3_of g hK ht hW⟩, g.2.2.1.F ht⟩) g.2.2.1.2.2 dX2_readMemberHead_308
                  · have g := g.more hF_397
                    refine lv_iload hx hb dX2_readMemberHead_269 (lv_at hl 2 rfl) ?_
                    refine lv_iconst (v := (-1)) hx hb dX2_readMemberHead_271 (by decide) ?_
                    refine lv_icmp_eq (tgt := 308) hx hb dX2_readMemberHead_272 (by decide) (fun c_ => ?_) (fun c_ => absurd (by decide) c_)
                    have kb_1201 : bd 1201 1201 (1201 : Int32) := ⟨by decide, by decide⟩
                    subst hQ
                    exact W.vret hx hb hr (fun t ht hW => ⟨⟨_, rfl, Or.inr (⟨1201, kb_1201, x_395, h_396, a_353, ⟨ma_353, ka_353⟩, (g.fcts [0, 1, 4] rfl)⟩), q3_of g hK ht hW⟩, g.2.2.1.F ht⟩) g.2.2.1.2.2 dX2_readMemberHead_308
                · have fc_386 := nlt_f c_386
                  have b_398 : bd 0 3 v199_7 := leL fc_386 bv199_7 kb_3 (by decide)
                  refine lv_iload hx hb dX2_readMemberHead_205 (lv_at hl 1 rfl) ?_
                  have kb_0 : bd 0 0 (0 : Int32) := ⟨by decide, by decide⟩
                  refine lv_if_eq (tgt := 251) hx hb dX2_readMemberHead_207 (by decide) (fun c_399 => ?_) (fun c_399 => ?_)
                  · have fc_399 := eq_f c_399
                    have b_400 : bd 0 0 v199_6 := eqX fc_399 bv199_6 kb_0 (by decide)
                    refine lv_aload_n hx hb dX2_readMemberHead_251 rfl (lv_at hl 6 rfl) ?_
                    refine g_getk (C := RX2) (T := TX2) (N := 16) hx hb hts (mc_ inX2) hown hK g rfl 0 (by decide) rfl (hts _ (List.mem_cons_of_mem _ t_416)) (fun _ h9 => h9) 7 rfl dX2_readMemberHead_252 ?_
                    refine g_calli (va_runV (As := []) (rest := []) ⟨hx, hb, hml, hown, hts⟩ (r_X8_place l dC dI L kd tys f H.size g.2.2.2.1 q0_ mq0_ kq0_) (cwV 0 hts (gV_ t_1110 t_1111 t_1112 t_184 t_1113) rfl rfl rfl (by decide +kernel) ⟨(Nat.le_of_ble_eq_true rfl), (Nat.le_of_ble_eq_true rfl)⟩) (pre3V g hK mq0_ kq0_ (by decide) (q := (RX8, TX8, 10)) rfl) rfl rfl hl.1 rfl (lv_room (Nat.le_of_ble_eq_true rfl)) dX2_readMemberHead_255 ⟨(Nat.le_of_ble_eq_true rfl), (Nat.le_of_ble_eq_true rfl)⟩) g hK (by decide) (by decide) (fx' := [(8, 6, q0_, .int w199_8_6_q0_), (8, 8, q0_, .int w199_8_8_q0_), (2, 6, a0_, .int 0), (9, 8, q3_, .int x_351), (2, 5, a0_, .ref a_353), (7, 3, q2_, .int x_354), (6, 12, a_353, .int x_356), (2, 0, a0_, .ref q0_), (2, 1, a0_, .ref q1_), (2, 3, a0_, .ref q2_), (2, 4, a0_, .ref q3_), (5, 1, q1_, .ref q5_)]) rfl (fun r_401 fr_401 H locs hp hMr_401 g => ?_)
                    refine lv_istore (lv' := [(7, .int r_401), (6, .int v199_6), (5, .int (-1)), (4, .int r_7), (2, .long r_6), (1, .int r_5), (0, .ref a0_)]) hx hb dX2_readMemberHead_258 hl (by decide) rfl (fun ls hl => ?_)
                    refine lv_aload_n hx hb dX2_readMemberHead_260 rfl (lv_at hl 6 rfl) ?_
                    refine g_getk (C := RX2) (T := TX2) (N := 16) hx hb hts (mc_ inX2) hown hK g rfl 0 (by decide) rfl (hts _ (List.mem_cons_of_mem _ t_416)) (fun _ h9 => h9) 7 rfl dX2_readMemberHead_261 ?_
                    refine lv_bipush (v := 41) hx hb dX2_readMemberHead_264 (by decide) ?_
                    refine g_callv (va_runV (As := [.int 41]) (rest := []) ⟨hx, hb, hml, hown, hts⟩ (r_X8_take l dC dI L kd tys fr_401 H.size g.2.2.2.1 q0_ mq0_ kq0_ 41 w199_8_8_q0_ bw199_8_8_q0_ (g.fcts [1] rfl)) (cwV 1 hts (gV_ t_1098 t_1099 t_1100 t_184 t_1101) rfl rfl rfl (by decide +kernel) ⟨(Nat.le_of_ble_eq_true rfl), (Nat.le_of_ble_eq_true rfl)⟩) (pre3V g hK mq0_ kq0_ (by decide) (q := (RX8, TX8, 10)) rfl) rfl rfl hl.1 rfl (lv_room (Nat.le_of_ble_eq_true rfl)) dX2_readMemberHead_266 ⟨(Nat.le_of_ble_eq_true rfl), (Nat.le_of_ble_eq_true rfl)⟩) g hK (by decide) (by decide) (fx' := [(2, 6, a0_, .int 0), (9, 8, q3_, .int x_351), (2, 5, a0_, .ref a_353), (7, 3, q2_, .int x_354), (6, 12, a_353, .int x_356), (2, 0, a0_, .ref q0_), (2, 1, a0_, .ref q1_), (2, 3, a0_, .ref q2_), (2, 4, a0_, .ref q3_), (5, 1, q1_, .ref q5_)]) rfl (fun fr_402 H locs hp hMr_402 g => ?_)
                    rcases hp with ⟨x_403, h_404, x_405, h_406, hF_407⟩ | ⟨x_408, h_409, hF_410⟩
                    · have g := g.more hF_407
                      refine lv_iload hx hb dX2_readMemberHead_269 (lv_at hl 2 rfl) ?_
                      refine lv_iconst (v := (-1)) hx hb dX2_readMemberHead_271 (by decide) ?_
                      refine lv_icmp_eq (tgt := 308) hx hb dX2_readMemberHead_272 (by decide) (fun c_ => ?_) (fun c_ => absurd (by decide) c_)
                      subst hQ
                      exact W.vret hx hb hr (fun t ht hW => ⟨⟨_, rfl, Or.inl ⟨x_403, h_404, x_405, h_406, x_351, h_352, a_353, ⟨ma_353, ka_353⟩, x_354, h_355, x_356, h_357, (g.fcts [0, 1, 2, 3, 4, 5, 6] rfl)⟩, q3_of g hK ht hW⟩, g.2.2.1.F ht⟩) g.2.2.1.2.2 dX2_readMemberHead_308
                    · have g := g.more hF_410
                      refine lv_iload hx hb dX2_readMemberHead_269 (lv_at hl 2 rfl) ?_
                      refine lv_iconst (v := (-1)) hx hb dX2_readMemberHead_271 (by decide) ?_
                      refine lv_icmp_eq (tgt := 308) hx hb dX2_readMemberHead_272 (by decide) (fun c_ => ?_) (fun c_ => absurd (by decide) c_)
                      have kb_1201 : bd 1201 1201 (1201 : Int32) := ⟨by decide, by decide⟩
                      subst hQ
                      exact W.vret hx hb hr (fun t ht hW => ⟨⟨_, rfl, Or.inr (⟨1201, kb_1201, x_408, h_409, a_353, ⟨ma_353, ka_353⟩, (g.fcts [0, 1, 4] rfl)⟩), q3_of g hK ht hW⟩, g.2.2.1.F ht⟩) g.2.2.1.2.2 dX2_readMemberHead_308
                  · have fc_399 := neq_f c_399
                    have b_411 : bd 1 1 v199_6 := neX fc_399 bv199_6 kb_0 (by decide)
                    refine lv_aload_n hx hb dX2_readMemberHead_210 rfl (lv_at hl 6 rfl) ?_
                    refine g_callv (va_runV (As := []) (rest := []) ⟨hx, hb, hml, hown, hts⟩ (r_X2_readParam l dC dI L kd tys f H.size g.2.2.2.1 a0_ ma0_ ka0_ q0_ mq0_ kq0_ q1_ mq1_ kq1_ a_353 ma_353 ka_353 q5_ mq5_ kq5_ w199_8_8_q0_ bw199_8_8_q0_ (g.fcts [7, 8, 4, 11, 1] rfl)) (cwV 0 hts (gV_ t_1313 t_1315 t_34 t_183 t_1316) rfl rfl rfl (by decide +kernel) ⟨(Nat.le_of_ble_eq_true rfl), (Nat.le_of_ble_eq_true rfl)⟩) (pre3V g hK ma0_ ka0_ (by decide) (q := (RX2, TX2, 16)) rfl) rfl rfl hl.1 rfl (lv_room (Nat.le_of_ble_eq_true rfl)) dX2_readMemberHead_211 ⟨(Nat.le_of_ble_eq_true rfl), (Nat.le_of_ble_eq_true rfl)⟩) g hK (by decide) (by decide) (fx' := [(2, 6, a0_, .int 0), (9, 8, q3_, .int x_351), (2, 5, a0_, .ref a_353), (7, 3, q2_, .int x_354), (6, 12, a_353, .int x_356), (2, 0, a0_, .ref q0_), (2, 1, a0_, .ref q1_), (2, 3, a0_, .ref q2_), (2, 4, a0_, .ref q3_), (5, 1, q1_, .ref q5_)]) rfl (fun fr_412 H locs hp hMr_412 g => ?_)
                    rcases hp with ⟨x_413, h_414, x_415, h_416, x_417, h_418, x_419, h_420, hF_421⟩ | ⟨x_422, h_423, hF_424⟩
                    · have g := g.more hF_421
                      refine lv_aload_n hx hb dX2_readMemberHead_214 rfl (lv_at hl 6 rfl) ?_
                      refine g_getk (C := RX2) (T := TX2) (N := 16) hx hb hts (mc_ inX2) hown hK g rfl 0 (by decide) rfl (hts _ (List.mem_cons_of_mem _ t_416)) (fun _ h9 => h9) 9 rfl dX2_readMemberHead_215 ?_
                      refine g_calli (va_runV (As := []) (rest := []) ⟨hx, hb, hml, hown, hts⟩ (r_X8_kind l dC dI L kd tys fr_412 H.size g.2.2.2.1 q0_ mq0_ kq0_) (cwV 0 hts (gV_ t_1118 t_1119 t_1120 t_184 t_1121) rfl rfl rfl (by decide +kernel) ⟨(Nat.le_of_ble_eq_true rfl), (Nat.le_of_ble_eq_true rfl)⟩) (pre3V g hK mq0_ kq0_ (by decide) (q := (RX8, TX8, 10)) rfl) rfl rfl hl.1 rfl (lv_room (Nat.le_of_ble_eq_true rfl)) dX2_readMemberHead_218 ⟨(Nat.le_of_ble_eq_true rfl), (Nat.le_of_ble_eq_true rfl)⟩) g hK (by decide) (by decide) (fx' := [(6, 3, a_353, .int x_413), (5, 4, q1_, .int x_415), (8, 6, q0_, .int x_417), (8, 8, q0_, .int x_419), (2, 6, a0_, .int 0), (9, 8, q3_, .int x_351), (2, 5, a0_, .ref a_353), (7, 3, q2_, .int x_354), (6, 12, a_353, .int x_356), (2, 0, a0_, .ref q0_), (2, 1, a0_, .ref q1_), (2, 3, a0_, .ref q2_), (2, 4, a0_, .ref q3_), (5, 1, q1_, .ref q5_)]) rfl (fun r_425 fr_425 H locs hp hMr_425 g => ?_)
                      refine lv_bipush (v := 44) hx hb dX2_readMemberHead_221 (by decide) ?_
                      have kb_44 : bd 44 44 (44 : Int32) := ⟨by decide, by decide⟩
                      refine lv_icmp_ne (tgt := 230) hx hb dX2_readMemberHead_223 (by decide) (fun c_426 => ?_) (fun c_426 => ?_)
                      · have fc_426 := neq_f c_426
                        refine lv_iconst (v := 0) hx hb dX2_readMemberHead_230 (by decide) ?_
                        refine lv_istore (lv' := [(6, .int 0), (7, .int v199_7), (5, .int (-1)), (4, .int r_7), (2, .long r_6), (1, .int r_5), (0, .ref a0_)]) hx hb dX2_readMemberHead_231 hl (by decide) rfl (fun ls hl => ?_)
                        refine lv_iload hx hb dX2_readMemberHead_233 (lv_at hl 0 rfl) ?_
                        refine lv_if_eq (tgt := 245) hx hb dX2_readMemberHead_235 (by decide) (fun c_ => ?_) (fun c_ => absurd (by decide) c_)
                        have kb_1 : bd 1 1 (1 : Int32) := ⟨by decide, by decide⟩
                        obtain ⟨y_427, ey_427⟩ : ∃ z : Int32, z = v199_7 + 1 := ⟨_, rfl⟩
                        refine lv_iinc (v := y_427) (lv' := [(7, .int y_427), (6, .int 0), (5, .int (-1)), (4, .int r_7), (2, .long r_6), (1, .int r_5), (0, .ref a0_)]) hx hb dX2_readMemberHead_245 hl (k := 1) rfl (by rw [ey_427]; rfl) (by decide) rfl (fun ls hl => ?_)
                        have ty_427 := add_bd ey_427 b_398 kb_1 (by decide)
                        have b_428 : bd 1 4 y_427 := add_rg ty_427 b_398 kb_1 (by decide)
                        refine lv_goto (tgt := 199) hx hb dX2_readMemberHead_248 (by decide) ?_
                        have hl9 := lv_sub hl [0, 1, 2, 3, 4, 5, 6] (by rfl : lv_pick [(7, .int y_427), (6, .int 0), (5, .int (-1)), (4, .int r_7), (2, .long r_6), (1, .int r_5), (0, .ref a0_)] [0, 1, 2, 3, 4, 5, 6] = [(7, .int y_427), (6, .int 0), (5, .int (-1)), (4, .int r_7), (2, .long r_6), (1, .int r_5), (0, .ref a0_)])
                        have g9 := g.sub (fx' := [(8, 6, q0_, .int x_417), (8, 8, q0_, .int x_419), (2, 6, a0_, .int 0), (9, 8, q3_, .int x_351), (2, 5, a0_, .ref a_353), (7, 3, q2_, .int x_354), (6, 12, a_353, .int x_356), (2, 0, a0_, .ref q0_), (2, 1, a0_, .ref q1_), (2, 3, a0_, .ref q2_), (2, 4, a0_, .ref q3_), (5, 1, q1_, .ref q5_)]) [2, 3, 4, 5, 6, 7, 8, 9, 10, 11, 12, 13] rfl
                        exact ih199  y_427 0 x_417 x_419 (bd_sub b_428 (by decide)) (bd_sub kb_0 (by decide)) h_418 h_420 (by have h9_0 := b_428; unfold bd at h9_0; have h9_1 := bv199_6; unfold bd at h9_1; have h9_2 := bv199_7; unfold bd at h9_2; have h9_3 := bw199_8_6_q0_; unfold bd at h9_3; have h9_4 := bw199_8_8_q0_; unfold bd at h9_4; have h9_5 := h_418; unfold bd at h9_5; have h9_6 := h_420; unfold bd at h9_6; have h9_7 := kb_0; unfold bd at h9_7; have h9_8 := kb_1; unfold bd at h9_8; have h9_9 := kb_12; unfold bd at h9_9; have h9_10 := kb_3; unfold bd at h9_10; have h9_11 := kb_41; unfold bd at h9_11; have h9_12 := kb_44; unfold bd at h9_12; have h9_13 := kb_m1; unfold bd at h9_13; omega) _ _ _ _ g9  hl9
                      · have fc_426 := eq_f c_426
                        have b_429 : bd 44 44 r_425 := eqX fc_426 (bdT r_425) kb_44 (by decide)
                        refine lv_iconst (v := 1) hx hb dX2_readMemberHead_226 (by decide) ?_
                        refine lv_goto (tgt := 231) hx hb dX2_readMemberHead_227 (by decide) ?_
                        refine lv_istore (lv' := [(6, .int 1), (7, .int v199_7), (5, .int (-1)), (4, .int r_7), (2, .long r_6), (1, .int r_5), (0, .ref a0_)]) hx hb dX2_readMemberHead_231 hl (by decide) rfl (fun ls hl => ?_)
                        refine lv_iload hx hb dX2_readMemberHead_233 (lv_at hl 0 rfl) ?_
                        refine lv_if_eq (tgt := 245) hx hb dX2_readMemberHead_235 (by decide) (fun c_ => absurd c_ (by decide)) (fun c_ => ?_)
                        refine lv_aload_n hx hb dX2_readMemberHead_238 rfl (lv_at hl 6 rfl) ?_
                        refine g_getk (C := RX2) (T := TX2) (N := 16) hx hb hts (mc_ inX2) hown hK g rfl 0 (by decide) rfl (hts _ (List.mem_cons_of_mem _ t_416)) (fun _ h9 => h9) 9 rfl dX2_readMemberHead_239 ?_
                        refine g_callv (va_runV (As := []) (rest := []) ⟨hx, hb, hml, hown, hts⟩ (r_X8_next l dC dI L kd tys fr_425 H.size g.2.2.2.1 q0_ mq0_ kq0_) (cwV 0 hts (gV_ t_1131 t_1103 t_1104 t_184 t_1105) rfl rfl rfl (by decide +kernel) ⟨(Nat.le_of_ble_eq_true rfl), (Nat.le_of_ble_eq_true rfl)⟩) (pre3V g hK mq0_ kq0_ (by decide) (q := (RX8, TX8, 10)) rfl) rfl rfl hl.1 rfl (lv_room (Nat.le_of_ble_eq_true rfl)) dX2_readMemberHead_242 ⟨(Nat.le_of_ble_eq_true rfl), (Nat.le_of_ble_eq_true rfl)⟩) g hK (by decide) (by decide) (fx' := [(6, 3, a_353, .int x_413), (5, 4, q1_, .int x_415), (8, 8, q0_, .int x_419), (2, 6, a0_, .int 0), (9, 8, q3_, .int x_351), (2, 5, a0_, .ref a_353), (7, 3, q2_, .int x_354), (6, 12, a_353, .int x_356), (2, 0, a0_, .ref q0_), (2, 1, a0_, .ref q1_), (2, 3, a0_, .ref q2_), (2, 4, a0_, .ref q3_), (5, 1, q1_, .ref q5_)]) rfl (fun fr_430 H locs hp hMr_430 g => ?_)
                        obtain ⟨x_431, h_432, hF_433⟩ := hp
                        have g := g.more hF_433
                        have kb_1 : bd 1 1 (1 : Int32) := ⟨by decide, by decide⟩
                        obtain ⟨y_434, ey_434⟩ : ∃ z : Int32, z = v199_7 + 1 := ⟨_, rfl⟩
                        refine lv_iinc (v := y_434) (lv' := [(7, .int y_434), (6, .int 1), (5, .int (-1)), (4, .int r_7), (2, .long r_6), (1, .int r_5), (0, .ref a0_)]) hx hb dX2_readMemberHead_245 hl (k := 1) rfl (by rw [ey_434]; rfl) (by decide) rfl (fun ls hl => ?_)
                        have ty_434 := add_bd ey_434 b_398 kb_1 (by decide)
                        have b_435 : bd 1 4 y_434 := add_rg ty_434 b_398 kb_1 (by decide)
                        refine lv_goto (tgt := 199) hx hb dX2_readMemberHead_248 (by decide) ?_
                        have hl9 := lv_sub hl [0, 1, 2, 3, 4, 5, 6] (by rfl : lv_pick [(7, .int y_434), (6, .int 1), (5, .int (-1)), (4, .int r_7), (2, .long r_6), (1, .int r_5), (0, .ref a0_)] [0, 1, 2, 3, 4, 5, 6] = [(7, .int y_434), (6, .int 1), (5, .int (-1)), (4, .int r_7), (2, .long r_6), (1, .int r_5), (0, .ref a0_)])
                        have g9 := g.sub (fx' := [(8, 6, q0_, .int x_431), (8, 8, q0_, .int x_419), (2, 6, a0_, .int 0), (9, 8, q3_, .int x_351), (2, 5, a0_, .ref a_353), (7, 3, q2_, .int x_354), (6, 12, a_353, .int x_356), (2, 0, a0_, .ref q0_), (2, 1, a0_, .ref q1_), (2, 3, a0_, .ref q2_), (2, 4, a0_, .ref q3_), (5, 1, q1_, .ref q5_)]) [0, 3, 4, 5, 6, 7, 8, 9, 10, 11, 12, 13] rfl
                        exact ih199  y_434 1 x_431 x_419 (bd_sub b_435 (by decide)) (bd_sub kb_1 (by decide)) h_432 h_420 (by have h9_0 := b_435; unfold bd at h9_0; have h9_1 := bv199_6; unfold bd at h9_1; have h9_2 := bv199_7; unfold bd at h9_2; have h9_3 := bw199_8_6_q0_; unfold bd at h9_3; have h9_4 := bw199_8_8_q0_; unfold bd at h9_4; have h9_5 := h_420; unfold bd at h9_5; have h9_6 := h_432; unfold bd at h9_6; have h9_7 := kb_0; unfold bd at h9_7; have h9_8 := kb_1; unfold bd at h9_8; have h9_9 := kb_12; unfold bd at h9_9; have h9_10 := kb_3; unfold bd at h9_10; have h9_11 := kb_41; unfold bd at h9_11; have h9_12 := kb_44; unfold bd at h9_12; have h9_13 := kb_m1; unfold bd at h9_13; omega) _ _ _ _ g9  hl9
                    · have g := g.more hF_424
                      refine lv_aload_n hx hb dX2_readMemberHead_214 rfl (lv_at hl 6 rfl) ?_
                      refine g_getk (C := RX2) (T := TX2) (N := 16) hx hb hts (mc_ inX2) hown hK g rfl 0 (by decide) rfl (hts _ (List.mem_cons_of_mem _ t_416)) (fun _ h9 => h9) 7 rfl dX2_readMemberHead_215 ?_
                      have kb_1201 : bd 1201 1201 (1201 : Int32) := ⟨by decide, by decide⟩
                      refine g_calli (va_runV (As := []) (rest := []) ⟨hx, hb, hml, hown, hts⟩ (r_X8_kind_2 l dC dI L kd tys fr_412 H.size g.2.2.2.1 q0_ mq0_ kq0_ 1201 kb_1201 (g.fcts [0] rfl)) (cwV 0 hts (gV_ t_1118 t_1119 t_1120 t_184 t_1121) rfl rfl rfl (by decide +kernel) ⟨(Nat.le_of_ble_eq_true rfl), (Nat.le_of_ble_eq_true rfl)⟩) (pre3V g hK mq0_ kq0_ (by decide) (q := (RX8, TX8, 10)) rfl) rfl rfl hl.1 rfl (lv_room (Nat.le_of_ble_eq_true rfl)) dX2_readMemberHead_218 ⟨(Nat.le_of_ble_eq_true rfl), (Nat.le_of_ble_eq_true rfl)⟩) g hK (by decide) (by decide) (fx' := [(8, 6, q0_, .int 1201), (8, 8, q0_, .int x_422), (2, 6, a0_, .int 0), (9, 8, q3_, .int x_351), (2, 5, a0_, .ref a_353), (7, 3, q2_, .int x_354), (6, 12, a_353, .int x_356), (2, 0, a0_, .ref q0_), (2, 1, a0_, .ref q1_), (2, 3, a0_, .ref q2_), (2, 4, a0_, .ref q3_), (5, 1, q1_, .ref q5_)]) rfl (fun r_436 fr_436 H locs hp hMr_436 g => ?_)
                      obtain ⟨h_437, -⟩ := hp
                      obtain rfl : r_436 = 0 := h_437
                      refine lv_bipush (v := 44) hx hb dX2_readMemberHead_221 (by decide) ?_
                      refine lv_icmp_ne (tgt := 230) hx hb dX2_readMemberHead_223 (by decide) (fun c_ => ?_) (fun c_ => absurd c_ (by decide))
                      refine lv_iconst (v := 0) hx hb dX2_readMemberHead_230 (by decide) ?_
                      refine lv_istore (lv' := [(6, .int 0), (7, .int v199_7), (5, .int (-1)), (4, .int r_7), (2, .long r_6), (1, .int r_5), (0, .ref a0_)]) hx hb dX2_readMemberHead_231 hl (by decide) rfl (fun ls hl => ?_)
                      refine lv_iload hx hb dX2_readMemberHead_233 (lv_at hl 0 rfl) ?_
                      refine lv_if_eq (tgt := 245) hx hb dX2_readMemberHead_235 (by decide) (fun c_ => ?_) (fun c_ => absurd (by decide) c_)
                      have kb_1 : bd 1 1 (1 : Int32) := ⟨by decide, by decide⟩
                      obtain ⟨y_438, ey_438⟩ : ∃ z : Int32, z = v199_7 + 1 := ⟨_, rfl⟩
                      refine lv_iinc (v := y_438) (lv' := [(7, .int y_438), (6, .int 0), (5, .int (-1)), (4, .int r_7), (2, .long r_6), (1, .int r_5), (0, .ref a0_)]) hx hb dX2_readMemberHead_245 hl (k := 1) rfl (by rw [ey_438]; rfl) (by decide) rfl (fun ls hl => ?_)
                      have ty_438 := add_bd ey_438 b_398 kb_1 (by decide)
                      have b_439 : bd 1 4 y_438 := add_rg ty_438 b_398 kb_1 (by decide)
                      refine lv_goto (tgt := 199) hx hb dX2_readMemberHead_248 (by decide) ?_
                      refine lv_iload hx hb dX2_readMemberHead_199 (lv_at hl 0 rfl) ?_
                      refine lv_iconst (v := 3) hx hb dX2_readMemberHead_201 (by decide) ?_
                      refine lv_icmp_gt (tgt := 251) hx hb dX2_readMemberHead_202 (by decide) (fun c_440 => ?_) (fun c_440 => ?_)
                      · have fc_440 := lt_f c_440
                        have b_441 : bd 4 4 y_438 := ltR fc_440 kb_3 b_439 (by decide)
                        have b_442 : bd 3 3 v199_7 := add_inv ty_438 b_441 b_398 kb_1 (by decide)
                        refine lv_aload_n hx hb dX2_readMemberHead_251 rfl (lv_at hl 6 rfl) ?_
                        refine g_getk (C := RX2) (T := TX2) (N := 16) hx hb hts (mc_ inX2) hown hK g rfl 0 (by decide) rfl (hts _ (List.mem_cons_of_mem _ t_416)) (fun _ h9 => h9) 7 rfl dX2_readMemberHead_252 ?_
                        refine g_calli (va_runV (As := []) (rest := []) ⟨hx, hb, hml, hown, hts⟩ (r_X8_place l dC dI L kd tys fr_436 H.size g.2.2.2.1 q0_ mq0_ kq0_) (cwV 0 hts (gV_ t_1110 t_1111 t_1112 t_184 t_1113) rfl rfl rfl (by decide +kernel) ⟨(Nat.le_of_ble_eq_true rfl), (Nat.le_of_ble_eq_true rfl)⟩) (pre3V g hK mq0_ kq0_ (by decide) (q := (RX8, TX8, 10)) rfl) rfl rfl hl.1 rfl (lv_room (Nat.le_of_ble_eq_true rfl)) dX2_readMemberHead_255 ⟨(Nat.le_of_ble_eq_true rfl), (Nat.le_of_ble_eq_true rfl)⟩) g hK (by decide) (by decide) (fx' := [(8, 6, q0_, .int 1201), (8, 8, q0_, .int x_422), (2, 6, a0_, .int 0), (9, 8, q3_, .int x_351), (2, 5, a0_, .ref a_353), (7, 3, q2_, .int x_354), (6, 12, a_353, .int x_356), (2, 0, a0_, .ref q0_), (2, 1, a0_, .ref q1_), (2, 3, a0_, .ref q2_), (2, 4, a0_, .ref q3_), (5, 1, q1_, .ref q5_)]) rfl (fun r_443 fr_443 H locs hp hMr_443 g => ?_)
                        refine lv_istore (lv' := [(7, .int r_443), (6, .int 0), (5, .int (-1)), (4, .int r_7), (2, .long r_6), (1, .int r_5), (0, .ref a0_)]) hx hb dX2_readMemberHead_258 hl (by decide) rfl (fun ls hl => ?_)
                        refine lv_aload_n hx hb dX2_readMemberHead_260 rfl (lv_at hl 6 rfl) ?_
                        refine g_getk (C := RX2) (T := TX2) (N := 16) hx hb hts (mc_ inX2) hown hK g rfl 0 (by decide) rfl (hts _ (List.mem_cons_of_mem _ t_416)) (fun _ h9 => h9) 7 rfl dX2_readMemberHead_261 ?_
                        refine lv_bipush (v := 41) hx hb dX2_readMemberHead_264 (by decide) ?_
                        refine g_callv (va_runV (As := [.int 41]) (rest := []) ⟨hx, hb, hml, hown, hts⟩ (r_X8_take_2 l dC dI L kd tys fr_443 H.size g.2.2.2.1 q0_ mq0_ kq0_ 41 1201 kb_1201 x_422 h_423 (g.fcts [0, 1] rfl)) (cwV 1 hts (gV_ t_1098 t_1099 t_1100 t_184 t_1101) rfl rfl rfl (by decide +kernel) ⟨(Nat.le_of_ble_eq_true rfl), (Nat.le_of_ble_eq_true rfl)⟩) (pre3V g hK mq0_ kq0_ (by decide) (q := (RX8, TX8, 10)) rfl) rfl rfl hl.1 rfl (lv_room (Nat.le_of_ble_eq_true rfl)) dX2_readMemberHead_266 ⟨(Nat.le_of_ble_eq_true rfl), (Nat.le_of_ble_eq_true rfl)⟩) g hK (by decide) (by decide) (fx' := [(8, 8, q0_, .int x_422), (2, 6, a0_, .int 0), (9, 8, q3_, .int x_351), (2, 5, a0_, .ref a_353), (7, 3, q2_, .int x_354), (6, 12, a_353, .int x_356), (2, 0, a0_, .ref q0_), (2, 1, a0_, .ref q1_), (2, 3, a0_, .ref q2_), (2, 4, a0_, .ref q3_), (5, 1, q1_, .ref q5_)]) rfl (fun fr_444 H locs hp hMr_444 g => ?_)
                        obtain ⟨x_445, h_446, hF_447⟩ := hp
                        have g := g.more hF_447
                        refine lv_iload hx hb dX2_readMemberHead_269 (lv_at hl 2 rfl) ?_
                        refine lv_iconst (v := (-1)) hx hb dX2_readMemberHead_271 (by decide) ?_
                        refine lv_icmp_eq (tgt := 308) hx hb dX2_readMemberHead_272 (by decide) (fun c_ => ?_) (fun c_ => absurd (by decide) c_)
                        subst hQ
                        exact W.vret hx hb hr (fun t ht hW => ⟨⟨_, rfl, Or.inr (⟨x_445, h_446, x_422, h_423, a_353, ⟨ma_353, ka_353⟩, (g.fcts [0, 1, 4] rfl)⟩), q3_of g hK ht hW⟩, g.2.2.1.F ht⟩) g.2.2.1.2.2 dX2_readMemberHead_308
                      · have fc_440 := nlt_f c_440
                        have b_448 : bd 1 3 y_438 := leL fc_440 b_439 kb_3 (by decide)
                        have b_449 : bd 0 2 v199_7 := add_inv ty_438 b_448 b_398 kb_1 (by decide)
                        refine lv_iload hx hb dX2_readMemberHead_205 (lv_at hl 1 rfl) ?_
                        refine lv_if_eq (tgt := 251) hx hb dX2_readMemberHead_207 (by decide) (fun c_ => ?_) (fun c_ => absurd (by decide) c_)
                        refine lv_aload_n hx hb dX2_readMemberHead_251 rfl (lv_at hl 6 rfl) ?_
                        refine g_getk (C := RX2) (T := TX2) (N := 16) hx hb hts (mc_ inX2) hown hK g rfl 0 (by decide) rfl (hts _ (List.mem_cons_of_mem _ t_416)) (fun _ h9 => h9) 7 rfl dX2_readMemberHead_252 ?_
                        refine g_calli (va_runV (As := []) (rest := []) ⟨hx, hb, hml, hown, hts⟩ (r_X8_place l dC dI L kd tys fr_436 H.size g.2.2.2.1 q0_ mq0_ kq0_) (cwV 0 hts (gV_ t_1110 t_1111 t_1112 t_184 t_1113) rfl rfl rfl (by decide +kernel) ⟨(Nat.le_of_ble_eq_true rfl), (Nat.le_of_ble_eq_true rfl)⟩) (pre3V g hK mq0_ kq0_ (by decide) (q := (RX8, TX8, 10)) rfl) rfl rfl hl.1 rfl (lv_room (Nat.le_of_ble_eq_true rfl)) dX2_readMemberHead_255 ⟨(Nat.le_of_ble_eq_true rfl), (Nat.le_of_ble_eq_true rfl)⟩) g hK (by decide) (by decide) (fx' := [(8, 6, q0_, .int 1201), (8, 8, q0_, .int x_422), (2, 6, a0_, .int 0), (9, 8, q3_, .int x_351), (2, 5, a0_, .ref a_353), (7, 3, q2_, .int x_354), (6, 12, a_353, .int x_356), (2, 0, a0_, .ref q0_), (2, 1, a0_, .ref q1_), (2, 3, a0_, .ref q2_), (2, 4, a0_, .ref q3_), (5, 1, q1_, .ref q5_)]) rfl (fun r_450 fr_450 H locs hp hMr_450 g => ?_)
                        refine lv_istore (lv' := [(7, .int r_450), (6, .int 0), (5, .int (-1)), (4, .int r_7), (2, .long r_6), (1, .int r_5), (0, .ref a0_)]) hx hb dX2_readMemberHead_258 hl (by decide) rfl (fun ls hl => ?_)
                        refine lv_aload_n hx hb dX2_readMemberHead_260 rfl (lv_at hl 6 rfl) ?_
                        refine g_getk (C := RX2) (T := TX2) (N := 16) hx hb hts (mc_ inX2) hown hK g rfl 0 (by decide) rfl (hts _ (List.mem_cons_of_mem _ t_416)) (fun _ h9 => h9) 7 rfl dX2_readMemberHead_261 ?_
                        refine lv_bipush (v := 41) hx hb dX2_readMemberHead_264 (by decide) ?_
                        refine g_callv (va_runV (As := [.int 41]) (rest := []) ⟨hx, hb, hml, hown, hts⟩ (r_X8_take_2 l dC dI L kd tys fr_450 H.size g.2.2.2.1 q0_ mq0_ kq0_ 41 1201 kb_1201 x_422 h_423 (g.fcts [0, 1] rfl)) (cwV 1 hts (gV_ t_1098 t_1099 t_1100 t_184 t_1101) rfl rfl rfl (by decide +kernel) ⟨(Nat.le_of_ble_eq_true rfl), (Nat.le_of_ble_eq_true rfl)⟩) (pre3V g hK mq0_ kq0_ (by decide) (q := (RX8, TX8, 10)) rfl) rfl rfl hl.1 rfl (lv_room (Nat.le_of_ble_eq_true rfl)) dX2_readMemberHead_266 ⟨(Nat.le_of_ble_eq_true rfl), (Nat.le_of_ble_eq_true rfl)⟩) g hK (by decide) (by decide) (fx' := [(8, 8, q0_, .int x_422), (2, 6, a0_, .int 0), (9, 8, q3_, .int x_351), (2, 5, a0_, .ref a_353), (7, 3, q2_, .int x_354), (6, 12, a_353, .int x_356), (2, 0, a0_, .ref q0_), (2, 1, a0_, .ref q1_), (2, 3, a0_, .ref q2_), (2, 4, a0_, .ref q3_), (5, 1, q1_, .ref q5_)]) rfl (fun fr_451 H locs hp hMr_451 g => ?_)
                        obtain ⟨x_452, h_453, hF_454⟩ := hp
                        have g := g.more hF_454
                        refine lv_iload hx hb dX2_readMemberHead_269 (lv_at hl 2 rfl) ?_
                        refine lv_iconst (v := (-1)) hx hb dX2_readMemberHead_271 (by decide) ?_
                        refine lv_icmp_eq (tgt := 308) hx hb dX2_readMemberHead_272 (by decide) (fun c_ => ?_) (fun c_ => absurd (by decide) c_)
                        subst hQ
                        exact W.vret hx hb hr (fun t ht hW => ⟨⟨_, rfl, Or.inr (⟨x_452, h_453, x_422, h_423, a_353, ⟨ma_353, ka_353⟩, (g.fcts [0, 1, 4] rfl)⟩), q3_of g hK ht hW⟩, g.2.2.1.F ht⟩) g.2.2.1.2.2 dX2_readMemberHead_308
            have kb_0 : bd 0 0 (0 : Int32) := ⟨by decide, by decide⟩
            have kb_1 : bd 1 1 (1 : Int32) := ⟨by decide, by decide⟩
            have hl9 := lv_sub hl [0, 1, 2, 3, 4, 5, 6] (by rfl : lv_pick [(7, .int 0), (6, .int 1), (5, .int (-1)), (4, .int r_7), (2, .long r_6), (1, .int r_5), (0, .ref a0_)] [0, 1, 2, 3, 4, 5, 6] = [(7, .int 0), (6, .int 1), (5, .int (-1)), (4, .int r_7), (2, .long r_6), (1, .int r_5), (0, .ref a0_)])
            have g9 := g.sub (fx' := [(8, 6, q0_, .int x_364), (8, 8, q0_, .int x_366), (2, 6, a0_, .int 0), (9, 8, q3_, .int x_351), (2, 5, a0_, .ref a_353), (7, 3, q2_, .int x_354), (6, 12, a_353, .int x_356), (2, 0, a0_, .ref q0_), (2, 1, a0_, .ref q1_), (2, 3, a0_, .ref q2_), (2, 4, a0_, .ref q3_), (5, 1, q1_, .ref q5_)]) [0, 1, 2, 3, 4, 5, 6, 7, 8, 9, 10, 11] rfl
            exact loop_385 (11) 0 1 x_364 x_366 (bd_sub kb_0 (by decide)) (bd_sub kb_1 (by decide)) h_365 h_367 (by have h9_0 := h_365; unfold bd at h9_0; have h9_1 := h_367; unfold bd at h9_1; have h9_2 := kb_0; unfold bd at h9_2; have h9_3 := kb_1; unfold bd at h9_3; have h9_4 := kb_12; unfold bd at h9_4; have h9_5 := kb_3; unfold bd at h9_5; have h9_6 := kb_41; unfold bd at h9_6; have h9_7 := kb_m1; unfold bd at h9_7; omega) _ _ _ _ g9  hl9
        · have g := g.more hF_371
          refine lv_aload_n hx hb dX2_readMemberHead_177 rfl (lv_at hl 4 rfl) ?_
          refine g_getk (C := RX2) (T := TX2) (N := 16) hx hb hts (mc_ inX2) hown hK g rfl 0 (by decide) rfl (hts _ (List.mem_cons_of_mem _ t_416)) (fun _ h9 => h9) 7 rfl dX2_readMemberHead_178 ?_
          have kb_1201 : bd 1201 1201 (1201 : Int32) := ⟨by decide, by decide⟩
          refine g_calli (va_runV (As := []) (rest := []) ⟨hx, hb, hml, hown, hts⟩ (r_X8_kind_2 l dC dI L kd tys fr_363 H.size g.2.2.2.1 q0_ mq0_ kq0_ 1201 kb_1201 (g.fcts [0] rfl)) (cwV 0 hts (gV_ t_1118 t_1119 t_1120 t_184 t_1121) rfl rfl rfl (by decide +kernel) ⟨(Nat.le_of_ble_eq_true rfl), (Nat.le_of_ble_eq_true rfl)⟩) (pre3V g hK mq0_ kq0_ (by decide) (q := (RX8, TX8, 10)) rfl) rfl rfl hl.1 rfl (lv_room (Nat.le_of_ble_eq_true rfl)) dX2_readMemberHead_181 ⟨(Nat.le_of_ble_eq_true rfl), (Nat.le_of_ble_eq_true rfl)⟩) g hK (by decide) (by decide) (fx' := [(8, 6, q0_, .int 1201), (8, 8, q0_, .int x_369), (2, 6, a0_, .int 0), (9, 8, q3_, .int x_351), (2, 5, a0_, .ref a_353), (7, 3, q2_, .int x_354), (6, 12, a_353, .int x_356), (2, 0, a0_, .ref q0_), (2, 1, a0_, .ref q1_), (2, 3, a0_, .ref q2_), (2, 4, a0_, .ref q3_), (5, 1, q1_, .ref q5_)]) rfl (fun r_455 fr_455 H locs hp hMr_455 g => ?_)
          obtain ⟨h_456, -⟩ := hp
          obtain rfl : r_455 = 0 := h_456
          refine lv_bipush (v := 41) hx hb dX2_readMemberHead_184 (by decide) ?_
          refine lv_icmp_eq (tgt := 193) hx hb dX2_readMemberHead_186 (by decide) (fun c_ => absurd c_ (by decide)) (fun c_ => ?_)
          refine lv_iconst (v := 1) hx hb dX2_readMemberHead_189 (by decide) ?_
          refine lv_goto (tgt := 194) hx hb dX2_readMemberHead_190 (by decide) ?_
          refine lv_istore (lv' := [(6, .int 1), (5, .int (-1)), (4, .int r_7), (2, .long r_6), (1, .int r_5), (0, .ref a0_)]) hx hb dX2_readMemberHead_194 hl (by decide) rfl (fun ls hl => ?_)
          refine lv_iconst (v := 0) hx hb dX2_readMemberHead_196 (by decide) ?_
          refine lv_istore (lv' := [(7, .int 0), (6, .int 1), (5, .int (-1)), (4, .int r_7), (2, .long r_6), (1, .int r_5), (0, .ref a0_)]) hx hb dX2_readMemberHead_197 hl (by decide) rfl (fun ls hl => ?_)
          have loop_457 : ∀ (n : Nat) (v199_7 : Int32) (v199_6 : Int32), bd 0 4 v199_7 → bd 0 1 v199_6 → (4 - v199_7.toInt < (n : Int)) → ∀ (f : Nat → va_E) (H : Heap) (locs : List Loc) (ls : Array Slot), G3 (dC, dI) L kd tys s f0 [(2, 5), (2, 6), (5, 4), (6, 0), (6, 1), (6, 2), (6, 3), (6, 6), (6, 7), (6, 8), (6, 9), (6, 10), (6, 11), (6, 12), (7, 3), (8, 6), (8, 8), (8, 9), (9, 8)] [132, 134, 135, 156] f H locs [(8, 6, q0_, .int 1201), (8, 8, q0_, .int x_369), (2, 6, a0_, .int 0), (9, 8, q3_, .int x_351), (2, 5, a0_, .ref a_353), (7, 3, q2_, .int x_354), (6, 12, a_353, .int x_356), (2, 0, a0_, .ref q0_), (2, 1, a0_, .ref q1_), (2, 3, a0_, .ref q2_), (2, 4, a0_, .ref q3_), (5, 1, q1_, .ref q5_)] → lv_has ls 8 [(7, .int v199_7), (6, .int v199_6), (5, .int (-1)), (4, .int r_7), (2, .long r_6), (1, .int r_5), (0, .ref a0_)] → W p l e ({ frames := 3, cells := 0, slots := 0, locals := 72 } : Room) s m [.ref a0_].toArray below meth c H locs 0 0 Q (F0 m 199 ls []) := by
            intro n199
            induction n199 with
            | zero =>
              intro v199_7 v199_6 bv199_7 bv199_6 hm199 f H locs ls g  hl
              exact absurd hm199 (by have h9_v199_7 := bv199_7; unfold bd at h9_v199_7; have h9_v199_6 := bv199_6; unfold bd at h9_v199_6; omega)
            | succ n199 ih199 =>
              intro v199_7 v199_6 bv199_7 bv199_6 hm199 f H locs ls g  hl
              refine lv_iload hx hb dX2_readMemberHead_199 (lv_at hl 0 rfl) ?_
              refine lv_iconst (v := 3) hx hb dX2_readMemberHead_201 (by decide) ?_
              refine lv_icmp_gt (tgt := 251) hx hb dX2_readMemberHead_202 (by decide) (fun c_458 => ?_) (fun c_458 => ?_)
              · have fc_458 := lt_f c_458
                have b_459 : bd 4 4 v199_7 := ltR fc_458 kb_3 bv199_7 (by decide)
                refine lv_aload_n hx hb dX2_readMemberHead_251 rfl (lv_at hl 6 rfl) ?_
                refine g_getk (C := RX2) (T := TX2) (N := 16) hx hb hts (mc_ inX2) hown hK g rfl 0 (by decide) rfl (hts _ (List.mem_cons_of_mem _ t_416)) (fun _ h9 => h9) 7 rfl dX2_readMemberHead_252 ?_
                refine g_calli (va_runV (As := []) (rest := []) ⟨hx, hb, hml, hown, hts⟩ (r_X8_place l dC dI L kd tys f H.size g.2.2.2.1 q0_ mq0_ kq0_) (cwV 0 hts (gV_ t_1110 t_1111 t_1112 t_184 t_1113) rfl rfl rfl (by decide +kernel) ⟨(Nat.le_of_ble_eq_true rfl), (Nat.le_of_ble_eq_true rfl)⟩) (pre3V g hK mq0_ kq0_ (by decide) (q := (RX8, TX8, 10)) rfl) rfl rfl hl.1 rfl (lv_room (Nat.le_of_ble_eq_true rfl)) dX2_readMemberHead_255 ⟨(Nat.le_of_ble_eq_true rfl), (Nat.le_of_ble_eq_true rfl)⟩) g hK (by decide) (by decide) (fx' := [(8, 6, q0_, .int 1201), (8, 8, q0_, .int x_369), (2, 6, a0_, .int 0), (9, 8, q3_, .int x_351), (2, 5, a0_, .ref a_353), (7, 3, q2_, .int x_354), (6, 12, a_353, .int x_356), (2, 0, a0_, .ref q0_), (2, 1, a0_, .ref q1_), (2, 3, a0_, .ref q2_), (2, 4, a0_, .ref q3_), (5, 1, q1_, .ref q5_)]) rfl (fun r_460 fr_460 H locs hp hMr_460 g => ?_)
                refine lv_istore (lv' := [(7, .int r_460), (6, .int v199_6), (5, .int (-1)), (4, .int r_7), (2, .long r_6), (1, .int r_5), (0, .ref a0_)]) hx hb dX2_readMemberHead_258 hl (by decide) rfl (fun ls hl => ?_)
                refine lv_aload_n hx hb dX2_readMemberHead_260 rfl (lv_at hl 6 rfl) ?_
                refine g_getk (C := RX2) (T := TX2) (N := 16) hx hb hts (mc_ inX2) hown hK g rfl 0 (by decide) rfl (hts _ (List.mem_cons_of_mem _ t_416)) (fun _ h9 => h9) 7 rfl dX2_readMemberHead_261 ?_
                refine lv_bipush (v := 41) hx hb dX2_readMemberHead_264 (by decide) ?_
                refine g_callv (va_runV (As := [.int 41]) (rest := []) ⟨hx, hb, hml, hown, hts⟩ (r_X8_take_2 l dC dI L kd tys fr_460 H.size g.2.2.2.1 q0_ mq0_ kq0_ 41 1201 kb_1201 x_369 h_370 (g.fcts [0, 1] rfl)) (cwV 1 hts (gV_ t_1098 t_1099 t_1100 t_184 t_1101) rfl rfl rfl (by decide +kernel) ⟨(Nat.le_of_ble_eq_true rfl), (Nat.le_of_ble_eq_true rfl)⟩) (pre3V g hK mq0_ kq0_ (by decide) (q := (RX8, TX8, 10)) rfl) rfl rfl hl.1 rfl (lv_room (Nat.le_of_ble_eq_true rfl)) dX2_readMemberHead_266 ⟨(Nat.le_of_ble_eq_true rfl), (Nat.le_of_ble_eq_true rfl)⟩) g hK (by decide) (by decide) (fx' := [(8, 8, q0_, .int x_369), (2, 6, a0_, .int 0), (9, 8, q3_, .int x_351), (2, 5, a0_, .ref a_353), (7, 3, q2_, .int x_354), (6, 12, a_353, .int x_356), (2, 0, a0_, .ref q0_), (2, 1, a0_, .ref q1_), (2, 3, a0_, .ref q2_), (2, 4, a0_, .ref q3_), (5, 1, q1_, .ref q5_)]) rfl (fun fr_461 H locs hp hMr_461 g => ?_)
                obtain ⟨x_462, h_463, hF_464⟩ := hp
                have g := g.more hF_464
                refine lv_iload hx hb dX2_readMemberHead_269 (lv_at hl 2 rfl) ?_
                refine lv_iconst (v := (-1)) hx hb dX2_readMemberHead_271 (by decide) ?_
                refine lv_icmp_eq (tgt := 308) hx hb dX2_readMemberHead_272 (by decide) (fun c_ => ?_) (fun c_ => absurd (by decide) c_)
                subst hQ
                exact W.vret hx hb hr (fun t ht hW => ⟨⟨_, rfl, Or.inr (⟨x_462, h_463, x_369, h_370, a_353, ⟨ma_353, ka_353⟩, (g.fcts [0, 1, 4] rfl)⟩), q3_of g hK ht hW⟩, g.2.2.1.F ht⟩) g.2.2.1.2.2 dX2_readMemberHead_308
              · have fc_458 := nlt_f c_458
                have b_465 : bd 0 3 v199_7 := leL fc_458 bv199_7 kb_3 (by decide)
                refine lv_iload hx hb dX2_readMemberHead_205 (lv_at hl 1 rfl) ?_
                have kb_0 : bd 0 0 (0 : Int32) := ⟨by decide, by decide⟩
                refine lv_if_eq (tgt := 251) hx hb dX2_readMemberHead_207 (by decide) (fun c_466 => ?_) (fun c_466 => ?_)
                · have fc_466 := eq_f c_466
                  have b_467 : bd 0 0 v199_6 := eqX fc_466 bv199_6 kb_0 (by decide)
                  refine lv_aload_n hx hb dX2_readMemberHead_251 rfl (lv_at hl 6 rfl) ?_
                  refine g_getk (C := RX2) (T := TX2) (N := 16) hx hb hts (mc_ inX2) hown hK g rfl 0 (by decide) rfl (hts _ (List.mem_cons_of_mem _ t_416)) (fun _ h9 => h9) 7 rfl dX2_readMemberHead_252 ?_
                  refine g_calli (va_runV (As := []) (rest := []) ⟨hx, hb, hml, hown, hts⟩ (r_X8_place l dC dI L kd tys f H.size g.2.2.2.1 q0_ mq0_ kq0_) (cwV 0 hts (gV_ t_1110 t_1111 t_1112 t_184 t_1113) rfl rfl rfl (by decide +kernel) ⟨(Nat.le_of_ble_eq_true rfl), (Nat.le_of_ble_eq_true rfl)⟩) (pre3V g hK mq0_ kq0_ (by decide) (q := (RX8, TX8, 10)) rfl) rfl rfl hl.1 rfl (lv_room (Nat.le_of_ble_eq_true rfl)) dX2_readMemberHead_255 ⟨(Nat.le_of_ble_eq_true rfl), (Nat.le_of_ble_eq_true rfl)⟩) g hK (by decide) (by decide) (fx' := [(8, 6, q0_, .int 1201), (8, 8, q0_, .int x_369), (2, 6, a0_, .int 0), (9, 8, q3_, .int x_351), (2, 5, a0_, .ref a_353), (7, 3, q2_, .int x_354), (6, 12, a_353, .int x_356), (2, 0, a0_, .ref q0_), (2, 1, a0_, .ref q1_), (2, 3, a0_, .ref q2_), (2, 4, a0_, .ref q3_), (5, 1, q1_, .ref q5_)]) rfl (fun r_468 fr_468 H locs hp hMr_468 g => ?_)
                  refine lv_istore (lv' := [(7, .int r_468), (6, .int v199_6), (5, .int (-1)), (4, .int r_7), (2, .long r_6), (1, .int r_5), (0, .ref a0_)]) hx hb dX2_readMemberHead_258 hl (by decide) rfl (fun ls hl => ?_)
                  refine lv_aload_n hx hb dX2_readMemberHead_260 rfl (lv_at hl 6 rfl) ?_
                  refine g_getk (C := RX2) (T := TX2) (N := 16) hx hb hts (mc_ inX2) hown hK g rfl 0 (by decide) rfl (hts _ (List.mem_cons_of_mem _ t_416)) (fun _ h9 => h9) 7 rfl dX2_readMemberHead_261 ?_
                  refine lv_bipush (v := 41) hx hb dX2_readMemberHead_264 (by decide) ?_
                  refine g_callv (va_runV (As := [.int 41]) (rest := []) ⟨hx, hb, hml, hown, hts⟩ (r_X8_take_2 l dC dI L kd tys fr_468 H.size g.2.2.2.1 q0_ mq0_ kq0_ 41 1201 kb_1201 x_369 h_370 (g.fcts [0, 1] rfl)) (cwV 1 hts (gV_ t_1098 t_1099 t_1100 t_184 t_1101) rfl rfl rfl (by decide +kernel) ⟨(Nat.le_of_ble_eq_true rfl), (Nat.le_of_ble_eq_true rfl)⟩) (pre3V g hK mq0_ kq0_ (by decide) (q := (RX8, TX8, 10)) rfl) rfl rfl hl.1 rfl (lv_room (Nat.le_of_ble_eq_true rfl)) dX2_readMemberHead_266 ⟨(Nat.le_of_ble_eq_true rfl), (Nat.le_of_ble_eq_true rfl)⟩) g hK (by decide) (by decide) (fx' := [(8, 8, q0_, .int x_369), (2, 6, a0_, .int 0), (9, 8, q3_, .int x_351), (2, 5, a0_, .ref a_353), (7, 3, q2_, .int x_354), (6, 12, a_353, .int x_356), (2, 0, a0_, .ref q0_), (2, 1, a0_, .ref q1_), (2, 3, a0_, .ref q2_), (2, 4, a0_, .ref q3_), (5, 1, q1_, .ref q5_)]) rfl (fun fr_469 H locs hp hMr_469 g => ?_)
                  obtain ⟨x_470, h_471, hF_472⟩ := hp
                  have g := g.more hF_472
                  refine lv_iload hx hb dX2_readMemberHead_269 (lv_at hl 2 rfl) ?_
                  refine lv_iconst (v := (-1)) hx hb dX2_readMemberHead_271 (by decide) ?_
                  refine lv_icmp_eq (tgt := 308) hx hb dX2_readMemberHead_272 (by decide) (fun c_ => ?_) (fun c_ => absurd (by decide) c_)
                  subst hQ
                  exact W.vret hx hb hr (fun t ht hW => ⟨⟨_, rfl, Or.inr (⟨x_470, h_471, x_369, h_370, a_353, ⟨ma_353, ka_353⟩, (g.fcts [0, 1, 4] rfl)⟩), q3_of g hK ht hW⟩, g.2.2.1.F ht⟩) g.2.2.1.2.2 dX2_readMemberHead_308
                · have fc_466 := neq_f c_466
                  have b_473 : bd 1 1 v199_6 := neX fc_466 bv199_6 kb_0 (by decide)
                  refine lv_aload_n hx hb dX2_readMemberHead_210 rfl (lv_at hl 6 rfl) ?_
                  refine g_callv (va_runV (As := []) (rest := []) ⟨hx, hb, hml, hown, hts⟩ (r_X2_readParam_2 l dC dI L kd tys f H.size g.2.2.2.1 a0_ ma0_ ka0_ q0_ mq0_ kq0_ q1_ mq1_ kq1_ a_353 ma_353 ka_353 q5_ mq5_ kq5_ 1201 kb_1201 x_369 h_370 (g.fcts [7, 8, 4, 11, 0, 1] rfl)) (cwV 0 hts (gV_ t_1313 t_1315 t_34 t_183 t_1316) rfl rfl rfl (by decide +kernel) ⟨(Nat.le_of_ble_eq_true rfl), (Nat.le_of_ble_eq_true rfl)⟩) (pre3V g hK ma0_ ka0_ (by decide) (q := (RX2, TX2, 16)) rfl) rfl rfl hl.1 rfl (lv_room (Nat.le_of_ble_eq_true rfl)) dX2_readMemberHead_211 ⟨(Nat.le_of_ble_eq_true rfl), (Nat.le_of_ble_eq_true rfl)⟩) g hK (by decide) (by decide) (fx' := [(8, 8, q0_, .int x_369), (2, 6, a0_, .int 0), (9, 8, q3_, .int x_351), (2, 5, a0_, .ref a_353), (7, 3, q2_, .int x_354), (6, 12, a_353, .int x_356), (2, 0, a0_, .ref q0_), (2, 1, a0_, .ref q1_), (2, 3, a0_, .ref q2_), (2, 4, a0_, .ref q3_), (5, 1, q1_, .ref q5_)]) rfl (fun fr_474 H locs hp hMr_474 g => ?_)
                  have hF_475 := hp
                  have g := g.more hF_475
                  refine lv_aload_n hx hb dX2_readMemberHead_214 rfl (lv_at hl 6 rfl) ?_
                  refine g_getk (C := RX2) (T := TX2) (N := 16) hx hb hts (mc_ inX2) hown hK g rfl 0 (by decide) rfl (hts _ (List.mem_cons_of_mem _ t_416)) (fun _ h9 => h9) 7 rfl dX2_readMemberHead_215 ?_
                  refine g_calli (va_runV (As := []) (rest := []) ⟨hx, hb, hml, hown, hts⟩ (r_X8_kind_2 l dC dI L kd tys fr_474 H.size g.2.2.2.1 q0_ mq0_ kq0_ 1201 kb_1201 (g.fcts [0] rfl)) (cwV 0 hts (gV_ t_1118 t_1119 t_1120 t_184 t_1121) rfl rfl rfl (by decide +kernel) ⟨(Nat.le_of_ble_eq_true rfl), (Nat.le_of_ble_eq_true rfl)⟩) (pre3V g hK mq0_ kq0_ (by decide) (q := (RX8, TX8, 10)) rfl) rfl rfl hl.1 rfl (lv_room (Nat.le_of_ble_eq_true rfl)) dX2_readMemberHead_218 ⟨(Nat.le_of_ble_eq_true rfl), (Nat.le_of_ble_eq_true rfl)⟩) g hK (by decide) (by decide) (fx' := [(8, 6, q0_, .int 1201), (8, 8, q0_, .int x_369), (2, 6, a0_, .int 0), (9, 8, q3_, .int x_351), (2, 5, a0_, .ref a_353), (7, 3, q2_, .int x_354), (6, 12, a_353, .int x_356), (2, 0, a0_, .ref q0_), (2, 1, a0_, .ref q1_), (2, 3, a0_, .ref q2_), (2, 4, a0_, .ref q3_), (5, 1, q1_, .ref q5_)]) rfl (fun r_476 fr_476 H locs hp hMr_476 g => ?_)
                  obtain ⟨h_477, -⟩ := hp
                  obtain rfl : r_476 = 0 := h_477
                  refine lv_bipush (v := 44) hx hb dX2_readMemberHead_221 (by decide) ?_
                  refine lv_icmp_ne (tgt := 230) hx hb dX2_readMemberHead_223 (by decide) (fun c_ => ?_) (fun c_ => absurd c_ (by decide))
                  refine lv_iconst (v := 0) hx hb dX2_readMemberHead_230 (by decide) ?_
                  refine lv_istore (lv' := [(6, .int 0), (7, .int v199_7), (5, .int (-1)), (4, .int r_7), (2, .long r_6), (1, .int r_5), (0, .ref a0_)]) hx hb dX2_readMemberHead_231 hl (by decide) rfl (fun ls hl => ?_)
                  refine lv_iload hx hb dX2_readMemberHead_233 (lv_at hl 0 rfl) ?_
                  refine lv_if_eq (tgt := 245) hx hb dX2_readMemberHead_235 (by decide) (fun c_ => ?_) (fun c_ => absurd (by decide) c_)
                  have kb_1 : bd 1 1 (1 : Int32) := ⟨by decide, by decide⟩
                  obtain ⟨y_478, ey_478⟩ : ∃ z : Int32, z = v199_7 + 1 := ⟨_, rfl⟩
                  refine lv_iinc (v := y_478) (lv' := [(7, .int y_478), (6, .int 0), (5, .int (-1)), (4, .int r_7), (2, .long r_6), (1, .int r_5), (0, .ref a0_)]) hx hb dX2_readMemberHead_245 hl (k := 1) rfl (by rw [ey_478]; rfl) (by decide) rfl (fun ls hl => ?_)
                  have ty_478 := add_bd ey_478 b_465 kb_1 (by decide)
                  have b_479 : bd 1 4 y_478 := add_rg ty_478 b_465 kb_1 (by decide)
                  refine lv_goto (tgt := 199) hx hb dX2_readMemberHead_248 (by decide) ?_
                  have hl9 := lv_sub hl [0, 1, 2, 3, 4, 5, 6] (by rfl : lv_pick [(7, .int y_478), (6, .int 0), (5, .int (-1)), (4, .int r_7), (2, .long r_6), (1, .int r_5), (0, .ref a0_)] [0, 1, 2, 3, 4, 5, 6] = [(7, .int y_478), (6, .int 0), (5, .int (-1)), (4, .int r_7), (2, .long r_6), (1, .int r_5), (0, .ref a0_)])
                  have g9 := g.sub (fx' := [(8, 6, q0_, .int 1201), (8, 8, q0_, .int x_369), (2, 6, a0_, .int 0), (9, 8, q3_, .int x_351), (2, 5, a0_, .ref a_353), (7, 3, q2_, .int x_354), (6, 12, a_353, .int x_356), (2, 0, a0_, .ref q0_), (2, 1, a0_, .ref q1_), (2, 3, a0_, .ref q2_), (2, 4, a0_, .ref q3_), (5, 1, q1_, .ref q5_)]) [0, 1, 2, 3, 4, 5, 6, 7, 8, 9, 10, 11] rfl
                  exact ih199  y_478 0 (bd_sub b_479 (by decide)) (bd_sub kb_0 (by decide)) (by have h9_0 := b_479; unfold bd at h9_0; have h9_1 := bv199_6; unfold bd at h9_1; have h9_2 := bv199_7; unfold bd at h9_2; have h9_3 := kb_0; unfold bd at h9_3; have h9_4 := kb_1; unfold bd at h9_4; have h9_5 := kb_12; unfold bd at h9_5; have h9_6 := kb_1201; unfold bd at h9_6; have h9_7 := kb_3; unfold bd at h9_7; have h9_8 := kb_m1; unfold bd at h9_8; omega) _ _ _ _ g9  hl9
          have kb_0 : bd 0 0 (0 : Int32) := ⟨by decide, by decide⟩
          have kb_1 : bd 1 1 (1 : Int32) := ⟨by decide, by decide⟩
          have hl9 := lv_sub hl [0, 1, 2, 3, 4, 5, 6] (by rfl : lv_pick [(7, .int 0), (6, .int 1), (5, .int (-1)), (4, .int r_7), (2, .long r_6), (1, .int r_5), (0, .ref a0_)] [0, 1, 2, 3, 4, 5, 6] = [(7, .int 0), (6, .int 1), (5, .int (-1)), (4, .int r_7), (2, .long r_6), (1, .int r_5), (0, .ref a0_)])
          have g9 := g.sub (fx' := [(8, 6, q0_, .int 1201), (8, 8, q0_, .int x_369), (2, 6, a0_, .int 0), (9, 8, q3_, .int x_351), (2, 5, a0_, .ref a_353), (7, 3, q2_, .int x_354), (6, 12, a_353, .int x_356), (2, 0, a0_, .ref q0_), (2, 1, a0_, .ref q1_), (2, 3, a0_, .ref q2_), (2, 4, a0_, .ref q3_), (5, 1, q1_, .ref q5_)]) [0, 1, 2, 3, 4, 5, 6, 7, 8, 9, 10, 11] rfl
          exact loop_457 (11) 0 1 (bd_sub kb_0 (by decide)) (bd_sub kb_1 (by decide)) (by have h9_0 := kb_0; unfold bd at h9_0; have h9_1 := kb_1; unfold bd at h9_1; have h9_2 := kb_12; unfold bd at h9_2; have h9_3 := kb_1201; unfold bd at h9_3; have h9_4 := kb_3; unfold bd at h9_4; have h9_5 := kb_m1; unfold bd at h9_5; omega) _ _ _ _ g9  hl9
      · have fc_348 := nlt_f c_348
        have b_480 : bd 12 12 x_347 := leR fc_348 kb_12 bx_347 (by decide)
        refine lv_aload_n hx hb dX2_readMemberHead_141 rfl (lv_at hl 4 rfl) ?_
        refine g_getk (C := RX2) (T := TX2) (N := 16) hx hb hts (mc_ inX2) hown hK g rfl 0 (by decide) rfl (hts _ (List.mem_cons_of_mem _ t_416)) (fun _ h9 => h9) 2 rfl dX2_readMemberHead_142 ?_
        refine lv_iconst (v := 4) hx hb dX2_readMemberHead_145 (by decide) ?_
        refine lv_iload_n hx hb dX2_readMemberHead_146 rfl (lv_at hl 3 rfl) ?_
        have kb_4 : bd 4 4 (4 : Int32) := ⟨by decide, by decide⟩
        refine g_callv (va_runV (As := [.int 4, .int r_5]) (rest := []) ⟨hx, hb, hml, hown, hts⟩ (r_X8_fail l dC dI L kd tys fr_344 H.size g.2.2.2.1 q0_ mq0_ kq0_ 4 (bd_sub kb_4 (by decide)) r_5 y0_ by0_ (g.fcts [8] rfl)) (cwV 2 hts (gV_ t_1122 t_1107 t_1108 t_184 t_1109) rfl rfl rfl (by decide +kernel) ⟨(Nat.le_of_ble_eq_true rfl), (Nat.le_of_ble_eq_true rfl)⟩) (pre3V g hK mq0_ kq0_ (by decide) (q := (RX8, TX8, 10)) rfl) rfl rfl hl.1 rfl (lv_room (Nat.le_of_ble_eq_true rfl)) dX2_readMemberHead_147 ⟨(Nat.le_of_ble_eq_true rfl), (Nat.le_of_ble_eq_true rfl)⟩) g hK (by decide) (by decide) (fx' := [(9, 8, q3_, .int x_347), (2, 0, a0_, .ref q0_), (2, 1, a0_, .ref q1_), (2, 3, a0_, .ref q2_), (2, 4, a0_, .ref q3_), (2, 5, a0_, .ref q4_), (5, 1, q1_, .ref q5_)]) rfl (fun fr_481 H locs hp hMr_481 g => ?_)
        obtain ⟨x_482, h_483, hF_484⟩ := hp
        have g := g.more hF_484
        refine lv_goto (tgt := 161) hx hb dX2_readMemberHead_150 (by decide) ?_
        refine lv_aload_n hx hb dX2_readMemberHead_161 rfl (lv_at hl 4 rfl) ?_
        refine g_getk (C := RX2) (T := TX2) (N := 16) hx hb hts (mc_ inX2) hown hK g rfl 0 (by decide) rfl (hts _ (List.mem_cons_of_mem _ t_416)) (fun _ h9 => h9) 3 rfl dX2_readMemberHead_162 ?_
        have kb_1201 : bd 1201 1201 (1201 : Int32) := ⟨by decide, by decide⟩
        refine g_callv (va_runV (As := []) (rest := []) ⟨hx, hb, hml, hown, hts⟩ (r_X8_next_2 l dC dI L kd tys fr_481 H.size g.2.2.2.1 q0_ mq0_ kq0_ 1201 kb_1201 (g.fcts [0] rfl)) (cwV 0 hts (gV_ t_1131 t_1103 t_1104 t_184 t_1105) rfl rfl rfl (by decide +kernel) ⟨(Nat.le_of_ble_eq_true rfl), (Nat.le_of_ble_eq_true rfl)⟩) (pre3V g hK mq0_ kq0_ (by decide) (q := (RX8, TX8, 10)) rfl) rfl rfl hl.1 rfl (lv_room (Nat.le_of_ble_eq_true rfl)) dX2_readMemberHead_165 ⟨(Nat.le_of_ble_eq_true rfl), (Nat.le_of_ble_eq_true rfl)⟩) g hK (by decide) (by decide) (fx' := [(8, 6, q0_, .int 1201), (8, 8, q0_, .int x_482), (9, 8, q3_, .int x_347), (2, 0, a0_, .ref q0_), (2, 1, a0_, .ref q1_), (2, 3, a0_, .ref q2_), (2, 4, a0_, .ref q3_), (2, 5, a0_, .ref q4_), (5, 1, q1_, .ref q5_)]) rfl (fun fr_485 H locs hp hMr_485 g => ?_)
        refine lv_aload_n hx hb dX2_readMemberHead_168 rfl (lv_at hl 4 rfl) ?_
        refine g_getk (C := RX2) (T := TX2) (N := 16) hx hb hts (mc_ inX2) hown hK g rfl 0 (by decide) rfl (hts _ (List.mem_cons_of_mem _ t_416)) (fun _ h9 => h9) 3 rfl dX2_readMemberHead_169 ?_
        refine lv_bipush (v := 40) hx hb dX2_readMemberHead_172 (by decide) ?_
        refine g_callv (va_runV (As := [.int 40]) (rest := []) ⟨hx, hb, hml, hown, hts⟩ (r_X8_take_2 l dC dI L kd tys fr_485 H.size g.2.2.2.1 q0_ mq0_ kq0_ 40 1201 kb_1201 x_482 h_483 (g.fcts [0, 1] rfl)) (cwV 1 hts (gV_ t_1098 t_1099 t_1100 t_184 t_1101) rfl rfl rfl (by decide +kernel) ⟨(Nat.le_of_ble_eq_true rfl), (Nat.le_of_ble_eq_true rfl)⟩) (pre3V g hK mq0_ kq0_ (by decide) (q := (RX8, TX8, 10)) rfl) rfl rfl hl.1 rfl (lv_room (Nat.le_of_ble_eq_true rfl)) dX2_readMemberHead_174 ⟨(Nat.le_of_ble_eq_true rfl), (Nat.le_of_ble_eq_true rfl)⟩) g hK (by decide) (by decide) (fx' := [(8, 8, q0_, .int x_482), (9, 8, q3_, .int x_347), (2, 0, a0_, .ref q0_), (2, 1, a0_, .ref q1_), (2, 3, a0_, .ref q2_), (2, 4, a0_, .ref q3_), (2, 5, a0_, .ref q4_), (5, 1, q1_, .ref q5_)]) rfl (fun fr_486 H locs hp hMr_486 g => ?_)
        obtain ⟨x_487, h_488, hF_489⟩ := hp
        have g := g.more hF_489
        refine lv_aload_n hx hb dX2_readMemberHead_177 rfl (lv_at hl 4 rfl) ?_
        refine g_getk (C := RX2) (T := TX2) (N := 16) hx hb hts (mc_ inX2) hown hK g rfl 0 (by decide) rfl (hts _ (List.mem_cons_of_mem _ t_416)) (fun _ h9 => h9) 3 rfl dX2_readMemberHead_178 ?_
        refine g_calli (va_runV (As := []) (rest := []) ⟨hx, hb, hml, hown, hts⟩ (r_X8_kind_2 l dC dI L kd tys fr_486 H.size g.2.2.2.1 q0_ mq0_ kq0_ x_487 h_488 (g.fcts [0] rfl)) (cwV 0 hts (gV_ t_1118 t_1119 t_1120 t_184 t_1121) rfl rfl rfl (by decide +kernel) ⟨(Nat.le_of_ble_eq_true rfl), (Nat.le_of_ble_eq_true rfl)⟩) (pre3V g hK mq0_ kq0_ (by decide) (q := (RX8, TX8, 10)) rfl) rfl rfl hl.1 rfl (lv_room (Nat.le_of_ble_eq_true rfl)) dX2_readMemberHead_181 ⟨(Nat.le_of_ble_eq_true rfl), (Nat.le_of_ble_eq_true rfl)⟩) g hK (by decide) (by decide) (fx' := [(8, 6, q0_, .int x_487), (8, 8, q0_, .int x_482), (9, 8, q3_, .int x_347), (2, 0, a0_, .ref q0_), (2, 1, a0_, .ref q1_), (2, 3, a0_, .ref q2_), (2, 4, a0_, .ref q3_), (2, 5, a0_, .ref q4_), (5, 1, q1_, .ref q5_)]) rfl (fun r_490 fr_490 H locs hp hMr_490 g => ?_)
        obtain ⟨h_491, -⟩ := hp
        obtain rfl : r_490 = 0 := h_491
        refine lv_bipush (v := 41) hx hb dX2_readMemberHead_184 (by decide) ?_
        refine lv_icmp_eq (tgt := 193) hx hb dX2_readMemberHead_186 (by decide) (fun c_ => absurd c_ (by decide)) (fun c_ => ?_)
        refine lv_iconst (v := 1) hx hb dX2_readMemberHead_189 (by decide) ?_
        refine lv_goto (tgt := 194) hx hb dX2_readMemberHead_190 (by decide) ?_
        refine lv_istore (lv' := [(6, .int 1), (5, .int (-1)), (4, .int r_7), (2, .long r_6), (1, .int r_5), (0, .ref a0_)]) hx hb dX2_readMemberHead_194 hl (by decide) rfl (fun ls hl => ?_)
        refine lv_iconst (v := 0) hx hb dX2_readMemberHead_196 (by decide) ?_
        refine lv_istore (lv' := [(7, .int 0), (6, .int 1), (5, .int (-1)), (4, .int r_7), (2, .long r_6), (1, .int r_5), (0, .ref a0_)]) hx hb dX2_readMemberHead_197 hl (by decide) rfl (fun ls hl => ?_)
        have loop_492 : ∀ (n : Nat) (v199_7 : Int32) (v199_6 : Int32) (w199_8_6_q0_ : Int32), bd 0 4 v199_7 → bd 0 1 v199_6 → bd 1201 1201 w199_8_6_q0_ → (4 - v199_7.toInt < (n : Int)) → ∀ (f : Nat → va_E) (H : Heap) (locs : List Loc) (ls : Array Slot), G3 (dC, dI) L kd tys s f0 [(2, 5), (2, 6), (5, 4), (6, 0), (6, 1), (6, 2), (6, 3), (6, 6), (6, 7), (6, 8), (6, 9), (6, 10), (6, 11), (6, 12), (7, 3), (8, 6), (8, 8), (8, 9), (9, 8)] [132, 134, 135, 156] f H locs [(8, 6, q0_, .int w199_8_6_q0_), (8, 8, q0_, .int x_482), (9, 8, q3_, .int x_347), (2, 0, a0_, .ref q0_), (2, 1, a0_, .ref q1_), (2, 3, a0_, .ref q2_), (2, 4, a0_, .ref q3_), (2, 5, a0_, .ref q4_), (5, 1, q1_, .ref q5_)] → lv_has ls 8 [(7, .int v199_7), (6, .int v199_6), (5, .int (-1)), (4, .int r_7), (2, .long r_6), (1, .int r_5), (0, .ref a0_)] → W p l e ({ frames := 3, cells := 0, slots := 0, locals := 72 } : Room) s m [.ref a0_].toArray below meth c H locs 0 0 Q (F0 m 199 ls []) := by
          intro n199
          induction n199 with
          | zero =>
            intro v199_7 v199_6 w199_8_6_q0_ bv199_7 bv199_6 bw199_8_6_q0_ hm199 f H locs ls g  hl
            exact absurd hm199 (by have h9_v199_7 := bv199_7; unfold bd at h9_v199_7; have h9_v199_6 := bv199_6; unfold bd at h9_v199_6; have h9_w199_8_6_q0_ := bw199_8_6_q0_; unfold bd at h9_w199_8_6_q0_; omega)
          | succ n199 ih199 =>
            intro v199_7 v199_6 w199_8_6_q0_ bv199_7 bv199_6 bw199_8_6_q0_ hm199 f H locs ls g  hl
            refine lv_iload hx hb dX2_readMemberHead_199 (lv_at hl 0 rfl) ?_
            refine lv_iconst (v := 3) hx hb dX2_readMemberHead_201 (by decide) ?_
            refine lv_icmp_gt (tgt := 251) hx hb dX2_readMemberHead_202 (by decide) (fun c_493 => ?_) (fun c_493 => ?_)
            · have fc_493 := lt_f c_493
              have b_494 : bd 4 4 v199_7 := ltR fc_493 kb_3 bv199_7 (by decide)
              refine lv_aload_n hx hb dX2_readMemberHead_251 rfl (lv_at hl 6 rfl) ?_
              refine g_getk (C := RX2) (T := TX2) (N := 16) hx hb hts (mc_ inX2) hown hK g rfl 0 (by decide) rfl (hts _ (List.mem_cons_of_mem _ t_416)) (fun _ h9 => h9) 3 rfl dX2_readMemberHead_252 ?_
              refine g_calli (va_runV (As := []) (rest := []) ⟨hx, hb, hml, hown, hts⟩ (r_X8_place l dC dI L kd tys f H.size g.2.2.2.1 q0_ mq0_ kq0_) (cwV 0 hts (gV_ t_1110 t_1111 t_1112 t_184 t_1113) rfl rfl rfl (by decide +kernel) ⟨(Nat.le_of_ble_eq_true rfl), (Nat.le_of_ble_eq_true rfl)⟩) (pre3V g hK mq0_ kq0_ (by decide) (q := (RX8, TX8, 10)) rfl) rfl rfl hl.1 rfl (lv_room (Nat.le_of_ble_eq_true rfl)) dX2_readMemberHead_255 ⟨(Nat.le_of_ble_eq_true rfl), (Nat.le_of_ble_eq_true rfl)⟩) g hK (by decide) (by decide) (fx' := [(8, 6, q0_, .int w199_8_6_q0_), (8, 8, q0_, .int x_482), (9, 8, q3_, .int x_347), (2, 0, a0_, .ref q0_), (2, 1, a0_, .ref q1_), (2, 3, a0_, .ref q2_), (2, 4, a0_, .ref q3_), (2, 5, a0_, .ref q4_), (5, 1, q1_, .ref q5_)]) rfl (fun r_495 fr_495 H locs hp hMr_495 g => ?_)
              refine lv_istore (lv' := [(7, .int r_495), (6, .int v199_6), (5, .int (-1)), (4, .int r_7), (2, .long r_6), (1, .int r_5), (0, .ref a0_)]) hx hb dX2_readMemberHead_258 hl (by decide) rfl (fun ls hl => ?_)
              refine lv_aload_n hx hb dX2_readMemberHead_260 rfl (lv_at hl 6 rfl) ?_
              refine g_getk (C := RX2) (T := TX2) (N := 16) hx hb hts (mc_ inX2) hown hK g rfl 0 (by decide) rfl (hts _ (List.mem_cons_of_mem _ t_416)) (fun _ h9 => h9) 3 rfl dX2_readMemberHead_261 ?_
              refine lv_bipush (v := 41) hx hb dX2_readMemberHead_264 (by decide) ?_
              refine g_callv (va_runV (As := [.int 41]) (rest := []) ⟨hx, hb, hml, hown, hts⟩ (r_X8_take_2 l dC dI L kd tys fr_495 H.size g.2.2.2.1 q0_ mq0_ kq0_ 41 w199_8_6_q0_ bw199_8_6_q0_ x_482 h_483 (g.fcts [0, 1] rfl)) (cwV 1 hts (gV_ t_1098 t_1099 t_1100 t_184 t_1101) rfl rfl rfl (by decide +kernel) ⟨(Nat.le_of_ble_eq_true rfl), (Nat.le_of_ble_eq_true rfl)⟩) (pre3V g hK mq0_ kq0_ (by decide) (q := (RX8, TX8, 10)) rfl) rfl rfl hl.1 rfl (lv_room (Nat.le_of_ble_eq_true rfl)) dX2_readMemberHead_266 ⟨(Nat.le_of_ble_eq_true rfl), (Nat.le_of_ble_eq_true rfl)⟩) g hK (by decide) (by decide) (fx' := [(8, 8, q0_, .int x_482), (9, 8, q3_, .int x_347), (2, 0, a0_, .ref q0_), (2, 1, a0_, .ref q1_), (2, 3, a0_, .ref q2_), (2, 4, a0_, .ref q3_), (2, 5, a0_, .ref q4_), (5, 1, q1_, .ref q5_)]) rfl (fun fr_496 H locs hp hMr_496 g => ?_)
              obtain ⟨x_497, h_498, hF_499⟩ := hp
              have g := g.more hF_499
              refine lv_iload hx hb dX2_readMemberHead_269 (lv_at hl 2 rfl) ?_
              refine lv_iconst (v := (-1)) hx hb dX2_readMemberHead_271 (by decide) ?_
              refine lv_icmp_eq (tgt := 308) hx hb dX2_readMemberHead_272 (by decide) (fun c_ => ?_) (fun c_ => absurd (by decide) c_)
              subst hQ
              exact W.vret hx hb hr (fun t ht hW => ⟨⟨_, rfl, Or.inr (⟨x_497, h_498, x_482, h_483, q4_, ⟨mq4_, kq4_⟩, (g.fcts [0, 1, 7] rfl)⟩), q3_of g hK ht hW⟩, g.2.2.1.F ht⟩) g.2.2.1.2.2 dX2_readMemberHead_308
            · have fc_493 := nlt_f c_493
              have b_500 : bd 0 3 v199_7 := leL fc_493 bv199_7 kb_3 (by decide)
              refine lv_iload hx hb dX2_readMemberHead_205 (lv_at hl 1 rfl) ?_
              have kb_0 : bd 0 0 (0 : Int32) := ⟨by decide, by decide⟩
              refine lv_if_eq (tgt := 251) hx hb dX2_readMemberHead_207 (by decide) (fun c_501 => ?_) (fun c_501 => ?_)
              · have fc_501 := eq_f c_501
                have b_502 : bd 0 0 v199_6 := eqX fc_501 bv199_6 kb_0 (by decide)
                refine lv_aload_n hx hb dX2_readMemberHead_251 rfl (lv_at hl 6 rfl) ?_
                refine g_getk (C := RX2) (T := TX2) (N := 16) hx hb hts (mc_ inX2) hown hK g rfl 0 (by decide) rfl (hts _ (List.mem_cons_of_mem _ t_416)) (fun _ h9 => h9) 3 rfl dX2_readMemberHead_252 ?_
                refine g_calli (va_runV (As := []) (rest := []) ⟨hx, hb, hml, hown, hts⟩ (r_X8_place l dC dI L kd tys f H.size g.2.2.2.1 q0_ mq0_ kq0_) (cwV 0 hts (gV_ t_1110 t_1111 t_1112 t_184 t_1113) rfl rfl rfl (by decide +kernel) ⟨(Nat.le_of_ble_eq_true rfl), (Nat.le_of_ble_eq_true rfl)⟩) (pre3V g hK mq0_ kq0_ (by decide) (q := (RX8, TX8, 10)) rfl) rfl rfl hl.1 rfl (lv_room (Nat.le_of_ble_eq_true rfl)) dX2_readMemberHead_255 ⟨(Nat.le_of_ble_eq_true rfl), (Nat.le_of_ble_eq_true rfl)⟩) g hK (by decide) (by decide) (fx' := [(8, 6, q0_, .int w199_8_6_q0_), (8, 8, q0_, .int x_482), (9, 8, q3_, .int x_347), (2, 0, a0_, .ref q0_), (2, 1, a0_, .ref q1_), (2, 3, a0_, .ref q2_), (2, 4, a0_, .ref q3_), (2, 5, a0_, .ref q4_), (5, 1, q1_, .ref q5_)]) rfl (fun r_503 fr_503 H locs hp hMr_503 g => ?_)
                refine lv_istore (lv' := [(7, .int r_503), (6, .int v199_6), (5, .int (-1)), (4, .int r_7), (2, .long r_6), (1, .int r_5), (0, .ref a0_)]) hx hb dX2_readMemberHead_258 hl (by decide) rfl (fun ls hl => ?_)
                refine lv_aload_n hx hb dX2_readMemberHead_260 rfl (lv_at hl 6 rfl) ?_
                refine g_getk (C := RX2) (T := TX2) (N := 16) hx hb hts (mc_ inX2) hown hK g rfl 0 (by decide) rfl (hts _ (List.mem_cons_of_mem _ t_416)) (fun _ h9 => h9) 3 rfl dX2_readMemberHead_261 ?_
                refine lv_bipush (v := 41) hx hb dX2_readMemberHead_264 (by decide) ?_
                refine g_callv (va_runV (As := [.int 41]) (rest := []) ⟨hx, hb, hml, hown, hts⟩ (r_X8_take_2 l dC dI L kd tys fr_503 H.size g.2.2.2.1 q0_ mq0_ kq0_ 41 w199_8_6_q0_ bw199_8_6_q0_ x_482 h_483 (g.fcts [0, 1] rfl)) (cwV 1 hts (gV_ t_1098 t_1099 t_1100 t_184 t_1101) rfl rfl rfl (by decide +kernel) ⟨(Nat.le_of_ble_eq_true rfl), (Nat.le_of_ble_eq_true rfl)⟩) (pre3V g hK mq0_ kq0_ (by decide) (q := (RX8, TX8, 10)) rfl) rfl rfl hl.1 rfl (lv_room (Nat.le_of_ble_eq_true rfl)) dX2_readMemberHead_266 ⟨(Nat.le_of_ble_eq_true rfl), (Nat.le_of_ble_eq_true rfl)⟩) g hK (by decide) (by decide) (fx' := [(8, 8, q0_, .int x_482), (9, 8, q3_, .int x_347), (2, 0, a0_, .ref q0_), (2, 1, a0_, .ref q1_), (2, 3, a0_, .ref q2_), (2, 4, a0_, .ref q3_), (2, 5, a0_, .ref q4_), (5, 1, q1_, .ref q5_)]) rfl (fun fr_504 H locs hp hMr_504 g => ?_)
                obtain ⟨x_505, h_506, hF_507⟩ := hp
                have g := g.more hF_507
                refine lv_iload hx hb dX2_readMemberHead_269 (lv_at hl 2 rfl) ?_
                refine lv_iconst (v := (-1)) hx hb dX2_readMemberHead_271 (by decide) ?_
                refine lv_icmp_eq (tgt := 308) hx hb dX2_readMemberHead_272 (by decide) (fun c_ => ?_) (fun c_ => absurd (by decide) c_)
                subst hQ
                exact W.vret hx hb hr (fun t ht hW => ⟨⟨_, rfl, Or.inr (⟨x_505, h_506, x_482, h_483, q4_, ⟨mq4_, kq4_⟩, (g.fcts [0, 1, 7] rfl)⟩), q3_of g hK ht hW⟩, g.2.2.1.F ht⟩) g.2.2.1.2.2 dX2_readMemberHead_308
              · have fc_501 := neq_f c_501
                have b_508 : bd 1 1 v199_6 := neX fc_501 bv199_6 kb_0 (by decide)
                refine lv_aload_n hx hb dX2_readMemberHead_210 rfl (lv_at hl 6 rfl) ?_
                refine g_callv (va_runV (As := []) (rest := []) ⟨hx, hb, hml, hown, hts⟩ (r_X2_readParam_2 l dC dI L kd tys f H.size g.2.2.2.1 a0_ ma0_ ka0_ q0_ mq0_ kq0_ q1_ mq1_ kq1_ q4_ mq4_ kq4_ q5_ mq5_ kq5_ w199_8_6_q0_ bw199_8_6_q0_ x_482 h_483 (g.fcts [3, 4, 7, 8, 0, 1] rfl)) (cwV 0 hts (gV_ t_1313 t_1315 t_34 t_183 t_1316) rfl rfl rfl (by decide +kernel) ⟨(Nat.le_of_ble_eq_true rfl), (Nat.le_of_ble_eq_true rfl)⟩) (pre3V g hK ma0_ ka0_ (by decide) (q := (RX2, TX2, 16)) rfl) rfl rfl hl.1 rfl (lv_room (Nat.le_of_ble_eq_true rfl)) dX2_readMemberHead_211 ⟨(Nat.le_of_ble_eq_true rfl), (Nat.le_of_ble_eq_true rfl)⟩) g hK (by decide) (by decide) (fx' := [(8, 8, q0_, .int x_482), (9, 8, q3_, .int x_347), (2, 0, a0_, .ref q0_), (2, 1, a0_, .ref q1_), (2, 3, a0_, .ref q2_), (2, 4, a0_, .ref q3_), (2, 5, a0_, .ref q4_), (5, 1, q1_, .ref q5_)]) rfl (fun fr_509 H locs hp hMr_509 g => ?_)
                have hF_510 := hp
                have g := g.more hF_510
                refine lv_aload_n hx hb dX2_readMemberHead_214 rfl (lv_at hl 6 rfl) ?_
                refine g_getk (C := RX2) (T := TX2) (N := 16) hx hb hts (mc_ inX2) hown hK g rfl 0 (by decide) rfl (hts _ (List.mem_cons_of_mem _ t_416)) (fun _ h9 => h9) 3 rfl dX2_readMemberHead_215 ?_
                refine g_calli (va_runV (As := []) (rest := []) ⟨hx, hb, hml, hown, hts⟩ (r_X8_kind_2 l dC dI L kd tys fr_509 H.size g.2.2.2.1 q0_ mq0_ kq0_ 1201 kb_1201 (g.fcts [0] rfl)) (cwV 0 hts (gV_ t_1118 t_1119 t_1120 t_184 t_1121) rfl rfl rfl (by decide +kernel) ⟨(Nat.le_of_ble_eq_true rfl), (Nat.le_of_ble_eq_true rfl)⟩) (pre3V g hK mq0_ kq0_ (by decide) (q := (RX8, TX8, 10)) rfl) rfl rfl hl.1 rfl (lv_room (Nat.le_of_ble_eq_true rfl)) dX2_readMemberHead_218 ⟨(Nat.le_of_ble_eq_true rfl), (Nat.le_of_ble_eq_true rfl)⟩) g hK (by decide) (by decide) (fx' := [(8, 6, q0_, .int 1201), (8, 8, q0_, .int x_482), (9, 8, q3_, .int x_347), (2, 0, a0_, .ref q0_), (2, 1, a0_, .ref q1_), (2, 3, a0_, .ref q2_), (2, 4, a0_, .ref q3_), (2, 5, a0_, .ref q4_), (5, 1, q1_, .ref q5_)]) rfl (fun r_511 fr_511 H locs hp hMr_511 g => ?_)
                obtain ⟨h_512, -⟩ := hp
                obtain rfl : r_511 = 0 := h_512
                refine lv_bipush (v := 44) hx hb dX2_readMemberHead_221 (by decide) ?_
                refine lv_icmp_ne (tgt := 230) hx hb dX2_readMemberHead_223 (by decide) (fun c_ => ?_) (fun c_ => absurd c_ (by decide))
                refine lv_iconst (v := 0) hx hb dX2_readMemberHead_230 (by decide) ?_
                refine lv_istore (lv' := [(6, .int 0), (7, .int v199_7), (5, .int (-1)), (4, .int r_7), (2, .long r_6), (1, .int r_5), (0, .ref a0_)]) hx hb dX2_readMemberHead_231 hl (by decide) rfl (fun ls hl => ?_)
                refine lv_iload hx hb dX2_readMemberHead_233 (lv_at hl 0 rfl) ?_
                refine lv_if_eq (tgt := 245) hx hb dX2_readMemberHead_235 (by decide) (fun c_ => ?_) (fun c_ => absurd (by decide) c_)
                have kb_1 : bd 1 1 (1 : Int32) := ⟨by decide, by decide⟩
                obtain ⟨y_513, ey_513⟩ : ∃ z : Int32, z = v199_7 + 1 := ⟨_, rfl⟩
                refine lv_iinc (v := y_513) (lv' := [(7, .int y_513), (6, .int 0), (5, .int (-1)), (4, .int r_7), (2, .long r_6), (1, .int r_5), (0, .ref a0_)]) hx hb dX2_readMemberHead_245 hl (k := 1) rfl (by rw [ey_513]; rfl) (by decide) rfl (fun ls hl => ?_)
                have ty_513 := add_bd ey_513 b_500 kb_1 (by decide)
                have b_514 : bd 1 4 y_513 := add_rg ty_513 b_500 kb_1 (by decide)
                refine lv_goto (tgt := 199) hx hb dX2_readMemberHead_248 (by decide) ?_
                have hl9 := lv_sub hl [0, 1, 2, 3, 4, 5, 6] (by rfl : lv_pick [(7, .int y_513), (6, .int 0), (5, .int (-1)), (4, .int r_7), (2, .long r_6), (1, .int r_5), (0, .ref a0_)] [0, 1, 2, 3, 4, 5, 6] = [(7, .int y_513), (6, .int 0), (5, .int (-1)), (4, .int r_7), (2, .long r_6), (1, .int r_5), (0, .ref a0_)])
                have g9 := g.sub (fx' := [(8, 6, q0_, .int 1201), (8, 8, q0_, .int x_482), (9, 8, q3_, .int x_347), (2, 0, a0_, .ref q0_), (2, 1, a0_, .ref q1_), (2, 3, a0_, .ref q2_), (2, 4, a0_, .ref q3_), (2, 5, a0_, .ref q4_), (5, 1, q1_, .ref q5_)]) [0, 1, 2, 3, 4, 5, 6, 7, 8] rfl
                exact ih199  y_513 0 1201 (bd_sub b_514 (by decide)) (bd_sub kb_0 (by decide)) kb_1201 (by have h9_0 := b_514; unfold bd at h9_0; have h9_1 := bv199_6; unfold bd at h9_1; have h9_2 := bv199_7; unfold bd at h9_2; have h9_3 := bw199_8_6_q0_; unfold bd at h9_3; have h9_4 := kb_0; unfold bd at h9_4; have h9_5 := kb_1; unfold bd at h9_5; have h9_6 := kb_12; unfold bd at h9_6; have h9_7 := kb_1201; unfold bd at h9_7; have h9_8 := kb_3; unfold bd at h9_8; have h9_9 := kb_4; unfold bd at h9_9; have h9_10 := kb_m1; unfold bd at h9_10; omega) _ _ _ _ g9  hl9
        have kb_0 : bd 0 0 (0 : Int32) := ⟨by decide, by decide⟩
        have kb_1 : bd 1 1 (1 : Int32) := ⟨by decide, by decide⟩
        have hl9 := lv_sub hl [0, 1, 2, 3, 4, 5, 6] (by rfl : lv_pick [(7, .int 0), (6, .int 1), (5, .int (-1)), (4, .int r_7), (2, .long r_6), (1, .int r_5), (0, .ref a0_)] [0, 1, 2, 3, 4, 5, 6] = [(7, .int 0), (6, .int 1), (5, .int (-1)), (4, .int r_7), (2, .long r_6), (1, .int r_5), (0, .ref a0_)])
        have g9 := g.sub (fx' := [(8, 6, q0_, .int x_487), (8, 8, q0_, .int x_482), (9, 8, q3_, .int x_347), (2, 0, a0_, .ref q0_), (2, 1, a0_, .ref q1_), (2, 3, a0_, .ref q2_), (2, 4, a0_, .ref q3_), (2, 5, a0_, .ref q4_), (5, 1, q1_, .ref q5_)]) [0, 1, 2, 3, 4, 5, 6, 7, 8] rfl
        exact loop_492 (11) 0 1 x_487 (bd_sub kb_0 (by decide)) (bd_sub kb_1 (by decide)) h_488 (by have h9_0 := h_488; unfold bd at h9_0; have h9_1 := kb_0; unfold bd at h9_1; have h9_2 := kb_1; unfold bd at h9_2; have h9_3 := kb_12; unfold bd at h9_3; have h9_4 := kb_1201; unfold bd at h9_4; have h9_5 := kb_3; unfold bd at h9_5; have h9_6 := kb_4; unfold bd at h9_6; have h9_7 := kb_m1; unfold bd at h9_7; omega) _ _ _ _ g9  hl9
    · have fc_345 := neq_f c_345
      refine lv_aload_n hx hb dX2_readMemberHead_70 rfl (lv_at hl 4 rfl) ?_
      refine g_getk (C := RX2) (T := TX2) (N := 16) hx hb hts (mc_ inX2) hown hK g rfl 0 (by decide) rfl (hts _ (List.mem_cons_of_mem _ t_416)) (fun _ h9 => h9) 1 rfl dX2_readMemberHead_71 ?_
      refine lv_iconst (v := 1) hx hb dX2_readMemberHead_74 (by decide) ?_
      refine lv_iload_n hx hb dX2_readMemberHead_75 rfl (lv_at hl 3 rfl) ?_
      have kb_1 : bd 1 1 (1 : Int32) := ⟨by decide, by decide⟩
      refine g_callv (va_runV (As := [.int 1, .int r_5]) (rest := []) ⟨hx, hb, hml, hown, hts⟩ (r_X8_fail l dC dI L kd tys fr_344 H.size g.2.2.2.1 q0_ mq0_ kq0_ 1 (bd_sub kb_1 (by decide)) r_5 y0_ by0_ (g.fcts [7] rfl)) (cwV 2 hts (gV_ t_1122 t_1107 t_1108 t_184 t_1109) rfl rfl rfl (by decide +kernel) ⟨(Nat.le_of_ble_eq_true rfl), (Nat.le_of_ble_eq_true rfl)⟩) (pre3V g hK mq0_ kq0_ (by decide) (q := (RX8, TX8, 10)) rfl) rfl rfl hl.1 rfl (lv_room (Nat.le_of_ble_eq_true rfl)) dX2_readMemberHead_76 ⟨(Nat.le_of_ble_eq_true rfl), (Nat.le_of_ble_eq_true rfl)⟩) g hK (by decide) (by decide) (fx' := [(2, 0, a0_, .ref q0_), (2, 1, a0_, .ref q1_), (2, 3, a0_, .ref q2_), (2, 4, a0_, .ref q3_), (2, 5, a0_, .ref q4_), (5, 1, q1_, .ref q5_)]) rfl (fun fr_515 H locs hp hMr_515 g => ?_)
      obtain ⟨x_516, h_517, hF_518⟩ := hp
      have g := g.more hF_518
      refine lv_goto (tgt := 161) hx hb dX2_readMemberHead_79 (by decide) ?_
      refine lv_aload_n hx hb dX2_readMemberHead_161 rfl (lv_at hl 4 rfl) ?_
      refine g_getk (C := RX2) (T := TX2) (N := 16) hx hb hts (mc_ inX2) hown hK g rfl 0 (by decide) rfl (hts _ (List.mem_cons_of_mem _ t_416)) (fun _ h9 => h9) 2 rfl dX2_readMemberHead_162 ?_
      have kb_1201 : bd 1201 1201 (1201 : Int32) := ⟨by decide, by decide⟩
      refine g_callv (va_runV (As := []) (rest := []) ⟨hx, hb, hml, hown, hts⟩ (r_X8_next_2 l dC dI L kd tys fr_515 H.size g.2.2.2.1 q0_ mq0_ kq0_ 1201 kb_1201 (g.fcts [0] rfl)) (cwV 0 hts (gV_ t_1131 t_1103 t_1104 t_184 t_1105) rfl rfl rfl (by decide +kernel) ⟨(Nat.le_of_ble_eq_true rfl), (Nat.le_of_ble_eq_true rfl)⟩) (pre3V g hK mq0_ kq0_ (by decide) (q := (RX8, TX8, 10)) rfl) rfl rfl hl.1 rfl (lv_room (Nat.le_of_ble_eq_true rfl)) dX2_readMemberHead_165 ⟨(Nat.le_of_ble_eq_true rfl), (Nat.le_of_ble_eq_true rfl)⟩) g hK (by decide) (by decide) (fx' := [(8, 6, q0_, .int 1201), (8, 8, q0_, .int x_516), (2, 0, a0_, .ref q0_), (2, 1, a0_, .ref q1_), (2, 3, a0_, .ref q2_), (2, 4, a0_, .ref q3_), (2, 5, a0_, .ref q4_), (5, 1, q1_, .ref q5_)]) rfl (fun fr_519 H locs hp hMr_519 g => ?_)
      refine lv_aload_n hx hb dX2_readMemberHead_168 rfl (lv_at hl 4 rfl) ?_
      refine g_getk (C := RX2) (T := TX2) (N := 16) hx hb hts (mc_ inX2) hown hK g rfl 0 (by decide) rfl (hts _ (List.mem_cons_of_mem _ t_416)) (fun _ h9 => h9) 2 rfl dX2_readMemberHead_169 ?_
      refine lv_bipush (v := 40) hx hb dX2_readMemberHead_172 (by decide) ?_
      refine g_callv (va_runV (As := [.int 40]) (rest := []) ⟨hx, hb, hml, hown, hts⟩ (r_X8_take_2 l dC dI L kd tys fr_519 H.size g.2.2.2.1 q0_ mq0_ kq0_ 40 1201 kb_1201 x_516 h_517 (g.fcts [0, 1] rfl)) (cwV 1 hts (gV_ t_1098 t_1099 t_1100 t_184 t_1101) rfl rfl rfl (by decide +kernel) ⟨(Nat.le_of_ble_eq_true rfl), (Nat.le_of_ble_eq_true rfl)⟩) (pre3V g hK mq0_ kq0_ (by decide) (q := (RX8, TX8, 10)) rfl) rfl rfl hl.1 rfl (lv_room (Nat.le_of_ble_eq_true rfl)) dX2_readMemberHead_174 ⟨(Nat.le_of_ble_eq_true rfl), (Nat.le_of_ble_eq_true rfl)⟩) g hK (by decide) (by decide) (fx' := [(8, 8, q0_, .int x_516), (2, 0, a0_, .ref q0_), (2, 1, a0_, .ref q1_), (2, 3, a0_, .ref q2_), (2, 4, a0_, .ref q3_), (2, 5, a0_, .ref q4_), (5, 1, q1_, .ref q5_)]) rfl (fun fr_520 H locs hp hMr_520 g => ?_)
      obtain ⟨x_521, h_522, hF_523⟩ := hp
      have g := g.more hF_523
      refine lv_aload_n hx hb dX2_readMemberHead_177 rfl (lv_at hl 4 rfl) ?_
      refine g_getk (C := RX2) (T := TX2) (N := 16) hx hb hts (mc_ inX2) hown hK g rfl 0 (by decide) rfl (hts _ (List.mem_cons_of_mem _ t_416)) (fun _ h9 => h9) 2 rfl dX2_readMemberHead_178 ?_
      refine g_calli (va_runV (As := []) (rest := []) ⟨hx, hb, hml, hown, hts⟩ (r_X8_kind_2 l dC dI L kd tys fr_520 H.size g.2.2.2.1 q0_ mq0_ kq0_ x_521 h_522 (g.fcts [0] rfl)) (cwV 0 hts (gV_ t_1118 t_1119 t_1120 t_184 t_1121) rfl rfl rfl (by decide +kernel) ⟨(Nat.le_of_ble_eq_true rfl), (Nat.le_of_ble_eq_true rfl)⟩) (pre3V g hK mq0_ kq0_ (by decide) (q := (RX8, TX8, 10)) rfl) rfl rfl hl.1 rfl (lv_room (Nat.le_of_ble_eq_true rfl)) dX2_readMemberHead_181 ⟨(Nat.le_of_ble_eq_true rfl), (Nat.le_of_ble_eq_true rfl)⟩) g hK (by decide) (by decide) (fx' := [(8, 6, q0_, .int x_521), (8, 8, q0_, .int x_516), (2, 0, a0_, .ref q0_), (2, 1, a0_, .ref q1_), (2, 3, a0_, .ref q2_), (2, 4, a0_, .ref q3_), (2, 5, a0_, .ref q4_), (5, 1, q1_, .ref q5_)]) rfl (fun r_524 fr_524 H locs hp hMr_524 g => ?_)
      obtain ⟨h_525, -⟩ := hp
      obtain rfl : r_524 = 0 := h_525
      refine lv_bipush (v := 41) hx hb dX2_readMemberHead_184 (by decide) ?_
      refine lv_icmp_eq (tgt := 193) hx hb dX2_readMemberHead_186 (by decide) (fun c_ => absurd c_ (by decide)) (fun c_ => ?_)
      refine lv_iconst (v := 1) hx hb dX2_readMemberHead_189 (by decide) ?_
      refine lv_goto (tgt := 194) hx hb dX2_readMemberHead_190 (by decide) ?_
      refine lv_istore (lv' := [(6, .int 1), (5, .int (-1)), (4, .int r_7), (2, .long r_6), (1, .int r_5), (0, .ref a0_)]) hx hb dX2_readMemberHead_194 hl (by decide) rfl (fun ls hl => ?_)
      refine lv_iconst (v := 0) hx hb dX2_readMemberHead_196 (by decide) ?_
      refine lv_istore (lv' := [(7, .int 0), (6, .int 1), (5, .int (-1)), (4, .int r_7), (2, .long r_6), (1, .int r_5), (0, .ref a0_)]) hx hb dX2_readMemberHead_197 hl (by decide) rfl (fun ls hl => ?_)
      have loop_526 : ∀ (n : Nat) (v199_7 : Int32) (v199_6 : Int32) (w199_8_6_q0_ : Int32), bd 0 4 v199_7 → bd 0 1 v199_6 → bd 1201 1201 w199_8_6_q0_ → (4 - v199_7.toInt < (n : Int)) → ∀ (f : Nat → va_E) (H : Heap) (locs : List Loc) (ls : Array Slot), G3 (dC, dI) L kd tys s f0 [(2, 5), (2, 6), (5, 4), (6, 0), (6, 1), (6, 2), (6, 3), (6, 6), (6, 7), (6, 8), (6, 9), (6, 10), (6, 11), (6, 12), (7, 3), (8, 6), (8, 8), (8, 9), (9, 8)] [132, 134, 135, 156] f H locs [(8, 6, q0_, .int w199_8_6_q0_), (8, 8, q0_, .int x_516), (2, 0, a0_, .ref q0_), (2, 1, a0_, .ref q1_), (2, 3, a0_, .ref q2_), (2, 4, a0_, .ref q3_), (2, 5, a0_, .ref q4_), (5, 1, q1_, .ref q5_)] → lv_has ls 8 [(7, .int v199_7), (6, .int v199_6), (5, .int (-1)), (4, .int r_7), (2, .long r_6), (1, .int r_5), (0, .ref a0_)] → W p l e ({ frames := 3, cells := 0, slots := 0, locals := 72 } : Room) s m [.ref a0_].toArray below meth c H locs 0 0 Q (F0 m 199 ls []) := by
        intro n199
        induction n199 with
        | zero =>
          intro v199_7 v199_6 w199_8_6_q0_ bv199_7 bv199_6 bw199_8_6_q0_ hm199 f H locs ls g  hl
          exact absurd hm199 (by have h9_v199_7 := bv199_7; unfold bd at h9_v199_7; have h9_v199_6 := bv199_6; unfold bd at h9_v199_6; have h9_w199_8_6_q0_ := bw199_8_6_q0_; unfold bd at h9_w199_8_6_q0_; omega)
        | succ n199 ih199 =>
          intro v199_7 v199_6 w199_8_6_q0_ bv199_7 bv199_6 bw199_8_6_q0_ hm199 f H locs ls g  hl
          refine lv_iload hx hb dX2_readMemberHead_199 (lv_at hl 0 rfl) ?_
          refine lv_iconst (v := 3) hx hb dX2_readMemberHead_201 (by decide) ?_
          refine lv_icmp_gt (tgt := 251) hx hb dX2_readMemberHead_202 (by decide) (fun c_527 => ?_) (fun c_527 => ?_)
          · have fc_527 := lt_f c_527
            have b_528 : bd 4 4 v199_7 := ltR fc_527 kb_3 bv199_7 (by decide)
            refine lv_aload_n hx hb dX2_readMemberHead_251 rfl (lv_at hl 6 rfl) ?_
            refine g_getk (C := RX2) (T := TX2) (N := 16) hx hb hts (mc_ inX2) hown hK g rfl 0 (by decide) rfl (hts _ (List.mem_cons_of_mem _ t_416)) (fun _ h9 => h9) 2 rfl dX2_readMemberHead_252 ?_
            refine g_calli (va_runV (As := []) (rest := []) ⟨hx, hb, hml, hown, hts⟩ (r_X8_place l dC dI L kd tys f H.size g.2.2.2.1 q0_ mq0_ kq0_) (cwV 0 hts (gV_ t_1110 t_1111 t_1112 t_184 t_1113) rfl rfl rfl (by decide +kernel) ⟨(Nat.le_of_ble_eq_true rfl), (Nat.le_of_ble_eq_true rfl)⟩) (pre3V g hK mq0_ kq0_ (by decide) (q := (RX8, TX8, 10)) rfl) rfl rfl hl.1 rfl (lv_room (Nat.le_of_ble_eq_true rfl)) dX2_readMemberHead_255 ⟨(Nat.le_of_ble_eq_true rfl), (Nat.le_of_ble_eq_true rfl)⟩) g hK (by decide) (by decide) (fx' := [(8, 6, q0_, .int w199_8_6_q0_), (8, 8, q0_, .int x_516), (2, 0, a0_, .ref q0_), (2, 1, a0_, .ref q1_), (2, 3, a0_, .ref q2_), (2, 4, a0_, .ref q3_), (2, 5, a0_, .ref q4_), (5, 1, q1_, .ref q5_)]) rfl (fun r_529 fr_529 H locs hp hMr_529 g => ?_)
            refine lv_istore (lv' := [(7, .int r_529), (6, .int v199_6), (5, .int (-1)), (4, .int r_7), (2, .long r_6), (1, .int r_5), (0, .ref a0_)]) hx hb dX2_readMemberHead_258 hl (by decide) rfl (fun ls hl => ?_)
            refine lv_aload_n hx hb dX2_readMemberHead_260 rfl (lv_at hl 6 rfl) ?_
            refine g_getk (C := RX2) (T := TX2) (N := 16) hx hb hts (mc_ inX2) hown hK g rfl 0 (by decide) rfl (hts _ (List.mem_cons_of_mem _ t_416)) (fun _ h9 => h9) 2 rfl dX2_readMemberHead_261 ?_
            refine lv_bipush (v := 41) hx hb dX2_readMemberHead_264 (by decide) ?_
            refine g_callv (va_runV (As := [.int 41]) (rest := []) ⟨hx, hb, hml, hown, hts⟩ (r_X8_take_2 l dC dI L kd tys fr_529 H.size g.2.2.2.1 q0_ mq0_ kq0_ 41 w199_8_6_q0_ bw199_8_6_q0_ x_516 h_517 (g.fcts [0, 1] rfl)) (cwV 1 hts (gV_ t_1098 t_1099 t_1100 t_184 t_1101) rfl rfl rfl (by decide +kernel) ⟨(Nat.le_of_ble_eq_true rfl), (Nat.le_of_ble_eq_true rfl)⟩) (pre3V g hK mq0_ kq0_ (by decide) (q := (RX8, TX8, 10)) rfl) rfl rfl hl.1 rfl (lv_room (Nat.le_of_ble_eq_true rfl)) dX2_readMemberHead_266 ⟨(Nat.le_of_ble_eq_true rfl), (Nat.le_of_ble_eq_true rfl)⟩) g hK (by decide) (by decide) (fx' := [(8, 8, q0_, .int x_516), (2, 0, a0_, .ref q0_), (2, 1, a0_, .ref q1_), (2, 3, a0_, .ref q2_), (2, 4, a0_, .ref q3_), (2, 5, a0_, .ref q4_), (5, 1, q1_, .ref q5_)]) rfl (fun fr_530 H locs hp hMr_530 g => ?_)
            obtain ⟨x_531, h_532, hF_533⟩ := hp
            have g := g.more hF_533
            refine lv_iload hx hb dX2_readMemberHead_269 (lv_at hl 2 rfl) ?_
            refine lv_iconst (v := (-1)) hx hb dX2_readMemberHead_271 (by decide) ?_
            refine lv_icmp_eq (tgt := 308) hx hb dX2_readMemberHead_272 (by decide) (fun c_ => ?_) (fun c_ => absurd (by decide) c_)
            subst hQ
            exact W.vret hx hb hr (fun t ht hW => ⟨⟨_, rfl, Or.inr (⟨x_531, h_532, x_516, h_517, q4_, ⟨mq4_, kq4_⟩, (g.fcts [0, 1, 6] rfl)⟩), q3_of g hK ht hW⟩, g.2.2.1.F ht⟩) g.2.2.1.2.2 dX2_readMemberHead_308
          · have fc_527 := nlt_f c_527
            have b_534 : bd 0 3 v199_7 := leL fc_527 bv199_7 kb_3 (by decide)
            refine lv_iload hx hb dX2_readMemberHead_205 (lv_at hl 1 rfl) ?_
            have kb_0 : bd 0 0 (0 : Int32) := ⟨by decide, by decide⟩
            refine lv_if_eq (tgt := 251) hx hb dX2_readMemberHead_207 (by decide) (fun c_535 => ?_) (fun c_535 => ?_)
            · have fc_535 := eq_f c_535
              have b_536 : bd 0 0 v199_6 := eqX fc_535 bv199_6 kb_0 (by decide)
              refine lv_aload_n hx hb dX2_readMemberHead_251 rfl (lv_at hl 6 rfl) ?_
              refine g_getk (C := RX2) (T := TX2) (N := 16) hx hb hts (mc_ inX2) hown hK g rfl 0 (by decide) rfl (hts _ (List.mem_cons_of_mem _ t_416)) (fun _ h9 => h9) 2 rfl dX2_readMemberHead_252 ?_
              refine g_calli (va_runV (As := []) (rest := []) ⟨hx, hb, hml, hown, hts⟩ (r_X8_place l dC dI L kd tys f H.size g.2.2.2.1 q0_ mq0_ kq0_) (cwV 0 hts (gV_ t_1110 t_1111 t_1112 t_184 t_1113) rfl rfl rfl (by decide +kernel) ⟨(Nat.le_of_ble_eq_true rfl), (Nat.le_of_ble_eq_true rfl)⟩) (pre3V g hK mq0_ kq0_ (by decide) (q := (RX8, TX8, 10)) rfl) rfl rfl hl.1 rfl (lv_room (Nat.le_of_ble_eq_true rfl)) dX2_readMemberHead_255 ⟨(Nat.le_of_ble_eq_true rfl), (Nat.le_of_ble_eq_true rfl)⟩) g hK (by decide) (by decide) (fx' := [(8, 6, q0_, .int w199_8_6_q0_), (8, 8, q0_, .int x_516), (2, 0, a0_, .ref q0_), (2, 1, a0_, .ref q1_), (2, 3, a0_, .ref q2_), (2, 4, a0_, .ref q3_), (2, 5, a0_, .ref q4_), (5, 1, q1_, .ref q5_)]) rfl (fun r_537 fr_537 H locs hp hMr_537 g => ?_)
              refine lv_istore (lv' := [(7, .int r_537), (6, .int v199_6), (5, .int (-1)), (4, .int r_7), (2, .long r_6), (1, .int r_5), (0, .ref a0_)]) hx hb dX2_readMemberHead_258 hl (by decide) rfl (fun ls hl => ?_)
              refine lv_aload_n hx hb dX2_readMemberHead_260 rfl (lv_at hl 6 rfl) ?_
              refine g_getk (C := RX2) (T := TX2) (N := 16) hx hb hts (mc_ inX2) hown hK g rfl 0 (by decide) rfl (hts _ (List.mem_cons_of_mem _ t_416)) (fun _ h9 => h9) 2 rfl dX2_readMemberHead_261 ?_
              refine lv_bipush (v := 41) hx hb dX2_readMemberHead_264 (by decide) ?_
              refine g_callv (va_runV (As := [.int 41]) (rest := []) ⟨hx, hb, hml, hown, hts⟩ (r_X8_take_2 l dC dI L kd tys fr_537 H.size g.2.2.2.1 q0_ mq0_ kq0_ 41 w199_8_6_q0_ bw199_8_6_q0_ x_516 h_517 (g.fcts [0, 1] rfl)) (cwV 1 hts (gV_ t_1098 t_1099 t_1100 t_184 t_1101) rfl rfl rfl (by decide +kernel) ⟨(Nat.le_of_ble_eq_true rfl), (Nat.le_of_ble_eq_true rfl)⟩) (pre3V g hK mq0_ kq0_ (by decide) (q := (RX8, TX8, 10)) rfl) rfl rfl hl.1 rfl (lv_room (Nat.le_of_ble_eq_true rfl)) dX2_readMemberHead_266 ⟨(Nat.le_of_ble_eq_true rfl), (Nat.le_of_ble_eq_true rfl)⟩) g hK (by decide) (by decide) (fx' := [(8, 8, q0_, .int x_516), (2, 0, a0_, .ref q0_), (2, 1, a0_, .ref q1_), (2, 3, a0_, .ref q2_), (2, 4, a0_, .ref q3_), (2, 5, a0_, .ref q4_), (5, 1, q1_, .ref q5_)]) rfl (fun fr_538 H locs hp hMr_538 g => ?_)
              obtain ⟨x_539, h_540, hF_541⟩ := hp
              have g := g.more hF_541
              refine lv_iload hx hb dX2_readMemberHead_269 (lv_at hl 2 rfl) ?_
              refine lv_iconst (v := (-1)) hx hb dX2_readMemberHead_271 (by decide) ?_
              refine lv_icmp_eq (tgt := 308) hx hb dX2_readMemberHead_272 (by decide) (fun c_ => ?_) (fun c_ => absurd (by decide) c_)
              subst hQ
              exact W.vret hx hb hr (fun t ht hW => ⟨⟨_, rfl, Or.inr (⟨x_539, h_540, x_516, h_517, q4_, ⟨mq4_, kq4_⟩, (g.fcts [0, 1, 6] rfl)⟩), q3_of g hK ht hW⟩, g.2.2.1.F ht⟩) g.2.2.1.2.2 dX2_readMemberHead_308
            · have fc_535 := neq_f c_535
              have b_542 : bd 1 1 v199_6 := neX fc_535 bv199_6 kb_0 (by decide)
              refine lv_aload_n hx hb dX2_readMemberHead_210 rfl (lv_at hl 6 rfl) ?_
              refine g_callv (va_runV (As := []) (rest := []) ⟨hx, hb, hml, hown, hts⟩ (r_X2_readParam_2 l dC dI L kd tys f H.size g.2.2.2.1 a0_ ma0_ ka0_ q0_ mq0_ kq0_ q1_ mq1_ kq1_ q4_ mq4_ kq4_ q5_ mq5_ kq5_ w199_8_6_q0_ bw199_8_6_q0_ x_516 h_517 (g.fcts [2, 3, 6, 7, 0, 1] rfl)) (cwV 0 hts (gV_ t_1313 t_1315 t_34 t_183 t_1316) rfl rfl rfl (by decide +kernel) ⟨(Nat.le_of_ble_eq_true rfl), (Nat.le_of_ble_eq_true rfl)⟩) (pre3V g hK ma0_ ka0_ (by decide) (q := (RX2, TX2, 16)) rfl) rfl rfl hl.1 rfl (lv_room (Nat.le_of_ble_eq_true rfl)) dX2_readMemberHead_211 ⟨(Nat.le_of_ble_eq_true rfl), (Nat.le_of_ble_eq_true rfl)⟩) g hK (by decide) (by decide) (fx' := [(8, 8, q0_, .int x_516), (2, 0, a0_, .ref q0_), (2, 1, a0_, .ref q1_), (2, 3, a0_, .ref q2_), (2, 4, a0_, .ref q3_), (2, 5, a0_, .ref q4_), (5, 1, q1_, .ref q5_)]) rfl (fun fr_543 H locs hp hMr_543 g => ?_)
              have hF_544 := hp
              have g := g.more hF_544
              refine lv_aload_n hx hb dX2_readMemberHead_214 rfl (lv_at hl 6 rfl) ?_
              refine g_getk (C := RX2) (T := TX2) (N := 16) hx hb hts (mc_ inX2) hown hK g rfl 0 (by decide) rfl (hts _ (List.mem_cons_of_mem _ t_416)) (fun _ h9 => h9) 2 rfl dX2_readMemberHead_215 ?_
              refine g_calli (va_runV (As := []) (rest := []) ⟨hx, hb, hml, hown, hts⟩ (r_X8_kind_2 l dC dI L kd tys fr_543 H.size g.2.2.2.1 q0_ mq0_ kq0_ 1201 kb_1201 (g.fcts [0] rfl)) (cwV 0 hts (gV_ t_1118 t_1119 t_1120 t_184 t_1121) rfl rfl rfl (by decide +kernel) ⟨(Nat.le_of_ble_eq_true rfl), (Nat.le_of_ble_eq_true rfl)⟩) (pre3V g hK mq0_ kq0_ (by decide) (q := (RX8, TX8, 10)) rfl) rfl rfl hl.1 rfl (lv_room (Nat.le_of_ble_eq_true rfl)) dX2_readMemberHead_218 ⟨(Nat.le_of_ble_eq_true rfl), (Nat.le_of_ble_eq_true rfl)⟩) g hK (by decide) (by decide) (fx' := [(8, 6, q0_, .int 1201), (8, 8, q0_, .int x_516), (2, 0, a0_, .ref q0_), (2, 1, a0_, .ref q1_), (2, 3, a0_, .ref q2_), (2, 4, a0_, .ref q3_), (2, 5, a0_, .ref q4_), (5, 1, q1_, .ref q5_)]) rfl (fun r_545 fr_545 H locs hp hMr_545 g => ?_)
              obtain ⟨h_546, -⟩ := hp
              obtain rfl : r_545 = 0 := h_546
              refine lv_bipush (v := 44) hx hb dX2_readMemberHead_221 (by decide) ?_
              refine lv_icmp_ne (tgt := 230) hx hb dX2_readMemberHead_223 (by decide) (fun c_ => ?_) (fun c_ => absurd c_ (by decide))
              refine lv_iconst (v := 0) hx hb dX2_readMemberHead_230 (by decide) ?_
              refine lv_istore (lv' := [(6, .int 0), (7, .int v199_7), (5, .int (-1)), (4, .int r_7), (2, .long r_6), (1, .int r_5), (0, .ref a0_)]) hx hb dX2_readMemberHead_231 hl (by decide) rfl (fun ls hl => ?_)
              refine lv_iload hx hb dX2_readMemberHead_233 (lv_at hl 0 rfl) ?_
              refine lv_if_eq (tgt := 245) hx hb dX2_readMemberHead_235 (by decide) (fun c_ => ?_) (fun c_ => absurd (by decide) c_)
              obtain ⟨y_547, ey_547⟩ : ∃ z : Int32, z = v199_7 + 1 := ⟨_, rfl⟩
              refine lv_iinc (v := y_547) (lv' := [(7, .int y_547), (6, .int 0), (5, .int (-1)), (4, .int r_7), (2, .long r_6), (1, .int r_5), (0, .ref a0_)]) hx hb dX2_readMemberHead_245 hl (k := 1) rfl (by rw [ey_547]; rfl) (by decide) rfl (fun ls hl => ?_)
              have ty_547 := add_bd ey_547 b_534 kb_1 (by decide)
              have b_548 : bd 1 4 y_547 := add_rg ty_547 b_534 kb_1 (by decide)
              refine lv_goto (tgt := 199) hx hb dX2_readMemberHead_248 (by decide) ?_
              have hl9 := lv_sub hl [0, 1, 2, 3, 4, 5, 6] (by rfl : lv_pick [(7, .int y_547), (6, .int 0), (5, .int (-1)), (4, .int r_7), (2, .long r_6), (1, .int r_5), (0, .ref a0_)] [0, 1, 2, 3, 4, 5, 6] = [(7, .int y_547), (6, .int 0), (5, .int (-1)), (4, .int r_7), (2, .long r_6), (1, .int r_5), (0, .ref a0_)])
              have g9 := g.sub (fx' := [(8, 6, q0_, .int 1201), (8, 8, q0_, .int x_516), (2, 0, a0_, .ref q0_), (2, 1, a0_, .ref q1_), (2, 3, a0_, .ref q2_), (2, 4, a0_, .ref q3_), (2, 5, a0_, .ref q4_), (5, 1, q1_, .ref q5_)]) [0, 1, 2, 3, 4, 5, 6, 7] rfl
              exact ih199  y_547 0 1201 (bd_sub b_548 (by decide)) (bd_sub kb_0 (by decide)) kb_1201 (by have h9_0 := b_548; unfold bd at h9_0; have h9_1 := bv199_6; unfold bd at h9_1; have h9_2 := bv199_7; unfold bd at h9_2; have h9_3 := bw199_8_6_q0_; unfold bd at h9_3; have h9_4 := kb_0; unfold bd at h9_4; have h9_5 := kb_1; unfold bd at h9_5; have h9_6 := kb_1201; unfold bd at h9_6; have h9_7 := kb_3; unfold bd at h9_7; have h9_8 := kb_m1; unfold bd at h9_8; omega) _ _ _ _ g9  hl9
      have kb_0 : bd 0 0 (0 : Int32) := ⟨by decide, by decide⟩
      have hl9 := lv_sub hl [0, 1, 2, 3, 4, 5, 6] (by rfl : lv_pick [(7, .int 0), (6, .int 1), (5, .int (-1)), (4, .int r_7), (2, .long r_6), (1, .int r_5), (0, .ref a0_)] [0, 1, 2, 3, 4, 5, 6] = [(7, .int 0), (6, .int 1), (5, .int (-1)), (4, .int r_7), (2, .long r_6), (1, .int r_5), (0, .ref a0_)])
      have g9 := g.sub (fx' := [(8, 6, q0_, .int x_521), (8, 8, q0_, .int x_516), (2, 0, a0_, .ref q0_), (2, 1, a0_, .ref q1_), (2, 3, a0_, .ref q2_), (2, 4, a0_, .ref q3_), (2, 5, a0_, .ref q4_), (5, 1, q1_, .ref q5_)]) [0, 1, 2, 3, 4, 5, 6, 7] rfl
      exact loop_526 (11) 0 1 x_521 (bd_sub kb_0 (by decide)) (bd_sub kb_1 (by decide)) h_522 (by have h9_0 := h_522; unfold bd at h9_0; have h9_1 := kb_0; unfold bd at h9_1; have h9_2 := kb_1; unfold bd at h9_2; have h9_3 := kb_1201; unfold bd at h9_3; have h9_4 := kb_3; unfold bd at h9_4; have h9_5 := kb_m1; unfold bd at h9_5; omega) _ _ _ _ g9  hl9
