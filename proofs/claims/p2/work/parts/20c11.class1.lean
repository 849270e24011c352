set_option maxHeartbeats 4000000 in
set_option maxRecDepth 100000 in
theorem r_X2_readMemberHead (l : Launch) (dC : Nat → ClassId) (dI : Nat → Nat → Nat) (L : List Nat) (kd : Nat → Nat) (tys : List (ClassId × FieldType)) (f0 : Nat → va_E) (sz : Nat) (hWT : WT L kd tys f0) (a0_ : Nat) (ma0_ : a0_ ∈ L) (ka0_ : kd a0_ = 2) (q0_ : Nat) (mq0_ : q0_ ∈ L) (kq0_ : kd q0_ = 8) (q1_ : Nat) (mq1_ : q1_ ∈ L) (kq1_ : kd q1_ = 5) (q2_ : Nat) (mq2_ : q2_ ∈ L) (kq2_ : kd q2_ = 7) (q3_ : Nat) (mq3_ : q3_ ∈ L) (kq3_ : kd q3_ = 9) (q4_ : Nat) (mq4_ : q4_ ∈ L) (kq4_ : kd q4_ = 6) (q5_ : Nat) (mq5_ : q5_ ∈ L) (kq5_ : kd q5_ = 9) (hfx : Fs L kd f0 [(2, 0, a0_, .ref q0_), (2, 1, a0_, .ref q1_), (2, 3, a0_, .ref q2_), (2, 4, a0_, .ref q3_), (2, 5, a0_, .ref q4_), (5, 1, q1_, .ref q5_)]) : Met l yX2_readMemberHead (.code yX2_readMemberHead cX2_readMemberHead 8 none :: lw_g) ({ frames := 3, cells := 0, slots := 0, locals := 72 }) (va_Pc [.ref a0_] (P3 (dC, dI) L tys f0 sz)) (va_Qv (fun (f : Nat → va_E) => (∃ z0_ : Int32, bd 1 1201 z0_ ∧ ∃ z1_ : Nat, (z1_ ∈ L ∧ kd z1_ = 6) ∧ Fs L kd f [(8, 6, q0_, .int z0_), (2, 5, a0_, .ref z1_)])) (Q3 (dC, dI) L kd tys [(2, 5), (2, 6), (5, 4), (6, 0), (6, 1), (6, 2), (6, 3), (6, 6), (6, 7), (6, 8), (6, 9), (6, 10), (6, 11), (6, 12), (7, 3), (8, 6), (8, 8), (8, 9), (9, 8)] [132, 134, 135, 156] f0 sz) (pA L sz)) 0 0 (pA L sz) := by
  refine Met.ofW (cc := cX2_readMemberHead) (maxL := 8) (ret := none) (by decide) rfl ?_
  intro p e s m args below meth c s₁ B hml hv
  obtain ⟨rfl, hsz, hP, hK, hD0⟩ := hv
  have hx := B.exec
  have hb := B.bytes
  have hr := B.returns
  have hts := atoms_spec (ws := (.code yX2_readMemberHead cX2_readMemberHead 8 none :: lw_g)) B.pre
  have hown : s.vm.findClass RX2 = some m.cls := findClass_of_methodNamed B.named
  have hlocks := B.notSynchronized
  subst hsz
  have g : G3 (dC, dI) L kd tys s f0 [(2, 5), (2, 6), (5, 4), (6, 0), (6, 1), (6, 2), (6, 3), (6, 6), (6, 7), (6, 8), (6, 9), (6, 10), (6, 11), (6, 12), (7, 3), (8, 6), (8, 8), (8, 9), (9, 8)] [132, 134, 135, 156] f0 s.heap [] [(2, 0, a0_, .ref q0_), (2, 1, a0_, .ref q1_), (2, 3, a0_, .ref q2_), (2, 4, a0_, .ref q3_), (2, 5, a0_, .ref q4_), (5, 1, q1_, .ref q5_)] := G3.start hP hD0 hWT hfx
  have hl := lv_entry ([.ref a0_]) (n := 8) (Nat.le_of_ble_eq_true rfl)
  rw [lg_entry_eq]
  generalize (lg_sl ([.ref a0_]) ++ List.replicate (8 - (lg_sl ([.ref a0_])).length) Slot.unset).toArray = ls at hl ⊢
  have hl : lv_has ls 8 [(0, .ref a0_)] := hl
  refine W_q (fun Q hQ => ?_)
  refine lv_aload_n hx hb dX2_readMemberHead_0 rfl (lv_at hl 0 rfl) ?_
  refine g_getk (C := RX2) (T := TX2) (N := 16) hx hb hts (mc_ inX2) hown hK g rfl 0 (by decide) rfl (hts _ (List.mem_cons_of_mem _ t_416)) (fun _ h9 => h9) 0 rfl dX2_readMemberHead_1 ?_
  refine g_callv (va_runV (As := []) (rest := []) ⟨hx, hb, hml, hown, hts⟩ (r_X8_next l dC dI L kd tys f0 s.heap.size g.2.2.2.1 q0_ mq0_ kq0_) (cwV 0 hts (gV_ t_1131 t_1103 t_1104 t_184 t_1105) rfl rfl rfl (by decide +kernel) ⟨(Nat.le_of_ble_eq_true rfl), (Nat.le_of_ble_eq_true rfl)⟩) (pre3V g hK mq0_ kq0_ (by decide) (q := (RX8, TX8, 10)) rfl) rfl rfl hl.1 rfl (lv_room (Nat.le_of_ble_eq_true rfl)) dX2_readMemberHead_4 ⟨(Nat.le_of_ble_eq_true rfl), (Nat.le_of_ble_eq_true rfl)⟩) g hK (by decide) (by decide) (fx' := [(2, 0, a0_, .ref q0_), (2, 1, a0_, .ref q1_), (2, 3, a0_, .ref q2_), (2, 4, a0_, .ref q3_), (2, 5, a0_, .ref q4_), (5, 1, q1_, .ref q5_)]) rfl (fun fr_1 H locs hp hMr_1 g => ?_)
  obtain ⟨x_2, h_3, hF_4⟩ := hp
  have g := g.more hF_4
  refine lv_aload_n hx hb dX2_readMemberHead_7 rfl (lv_at hl 0 rfl) ?_
  refine g_getk (C := RX2) (T := TX2) (N := 16) hx hb hts (mc_ inX2) hown hK g rfl 0 (by decide) rfl (hts _ (List.mem_cons_of_mem _ t_416)) (fun _ h9 => h9) 1 rfl dX2_readMemberHead_8 ?_
  refine g_calli (va_runV (As := []) (rest := []) ⟨hx, hb, hml, hown, hts⟩ (r_X8_place l dC dI L kd tys fr_1 H.size g.2.2.2.1 q0_ mq0_ kq0_) (cwV 0 hts (gV_ t_1110 t_1111 t_1112 t_184 t_1113) rfl rfl rfl (by decide +kernel) ⟨(Nat.le_of_ble_eq_true rfl), (Nat.le_of_ble_eq_true rfl)⟩) (pre3V g hK mq0_ kq0_ (by decide) (q := (RX8, TX8, 10)) rfl) rfl rfl hl.1 rfl (lv_room (Nat.le_of_ble_eq_true rfl)) dX2_readMemberHead_11 ⟨(Nat.le_of_ble_eq_true rfl), (Nat.le_of_ble_eq_true rfl)⟩) g hK (by decide) (by decide) (fx' := [(8, 6, q0_, .int x_2), (2, 0, a0_, .ref q0_), (2, 1, a0_, .ref q1_), (2, 3, a0_, .ref q2_), (2, 4, a0_, .ref q3_), (2, 5, a0_, .ref q4_), (5, 1, q1_, .ref q5_)]) rfl (fun r_5 fr_5 H locs hp hMr_5 g => ?_)
  refine lv_istore_n (lv' := [(1, .int r_5), (0, .ref a0_)]) hx hb dX2_readMemberHead_14 rfl hl (by decide) rfl (fun ls hl => ?_)
  refine lv_aload_n hx hb dX2_readMemberHead_15 rfl (lv_at hl 1 rfl) ?_
  refine g_getk (C := RX2) (T := TX2) (N := 16) hx hb hts (mc_ inX2) hown hK g rfl 0 (by decide) rfl (hts _ (List.mem_cons_of_mem _ t_416)) (fun _ h9 => h9) 1 rfl dX2_readMemberHead_16 ?_
  refine g_calll (va_runV (As := []) (rest := []) ⟨hx, hb, hml, hown, hts⟩ (r_X8_value l dC dI L kd tys fr_5 H.size g.2.2.2.1 q0_ mq0_ kq0_) (cwV 0 hts (gV_ t_1114 t_1115 t_1116 t_184 t_1117) rfl rfl rfl (by decide +kernel) ⟨(Nat.le_of_ble_eq_true rfl), (Nat.le_of_ble_eq_true rfl)⟩) (pre3V g hK mq0_ kq0_ (by decide) (q := (RX8, TX8, 10)) rfl) rfl rfl hl.1 rfl (lv_room (Nat.le_of_ble_eq_true rfl)) dX2_readMemberHead_19 ⟨(Nat.le_of_ble_eq_true rfl), (Nat.le_of_ble_eq_true rfl)⟩) g hK (by decide) (by decide) (fx' := [(8, 6, q0_, .int x_2), (2, 0, a0_, .ref q0_), (2, 1, a0_, .ref q1_), (2, 3, a0_, .ref q2_), (2, 4, a0_, .ref q3_), (2, 5, a0_, .ref q4_), (5, 1, q1_, .ref q5_)]) rfl (fun r_6 fr_6 H locs hp hMr_6 g => ?_)
  refine lv_lstore_n (lv' := [(2, .long r_6), (1, .int r_5), (0, .ref a0_)]) hx hb dX2_readMemberHead_22 rfl hl (by decide) rfl (fun ls hl => ?_)
  refine lv_aload_n hx hb dX2_readMemberHead_23 rfl (lv_at hl 2 rfl) ?_
  refine g_getk (C := RX2) (T := TX2) (N := 16) hx hb hts (mc_ inX2) hown hK g rfl 3 (by decide) rfl (hts _ (List.mem_cons_of_mem _ t_419)) (fun _ h9 => h9) 3 rfl dX2_readMemberHead_24 ?_
  refine lv_aload_n hx hb dX2_readMemberHead_27 rfl (lv_at hl 2 rfl) ?_
  refine g_getk (C := RX2) (T := TX2) (N := 16) hx hb hts (mc_ inX2) hown hK g rfl 4 (by decide) rfl (hts _ (List.mem_cons_of_mem _ t_420)) (fun _ h9 => h9) 4 rfl dX2_readMemberHead_28 ?_
  refine lv_lload_n hx hb dX2_readMemberHead_31 rfl (lv_at hl 0 rfl) ?_
  refine g_calli (va_runV (As := [.ref q3_, .long r_6]) (rest := []) ⟨hx, hb, hml, hown, hts⟩ (r_X7_memberNamed l dC dI L kd tys fr_6 H.size g.2.2.2.1 q2_ mq2_ kq2_ q3_ mq3_ kq3_ r_6) (cwV 2 hts (gV_ t_1306 t_1244 t_1245 t_191 t_1246) rfl rfl rfl (by decide +kernel) ⟨(Nat.le_of_ble_eq_true rfl), (Nat.le_of_ble_eq_true rfl)⟩) (pre3V g hK mq2_ kq2_ (by decide) (q := (RX7, TX7, 19)) rfl) rfl rfl hl.1 rfl (lv_room (Nat.le_of_ble_eq_true rfl)) dX2_readMemberHead_32 ⟨(Nat.le_of_ble_eq_true rfl), (Nat.le_of_ble_eq_true rfl)⟩) g hK (by decide) (by decide) (fx' := [(8, 6, q0_, .int x_2), (2, 0, a0_, .ref q0_), (2, 1, a0_, .ref q1_), (2, 3, a0_, .ref q2_), (2, 4, a0_, .ref q3_), (2, 5, a0_, .ref q4_), (5, 1, q1_, .ref q5_)]) rfl (fun r_7 fr_7 H locs hp hMr_7 g => ?_)
  obtain ⟨h_8, -⟩ := hp
  refine lv_istore (lv' := [(4, .int r_7), (2, .long r_6), (1, .int r_5), (0, .ref a0_)]) hx hb dX2_readMemberHead_35 hl (by decide) rfl (fun ls hl => ?_)
  refine lv_iload hx hb dX2_readMemberHead_37 (lv_at hl 0 rfl) ?_
  refine lv_iconst (v := (-1)) hx hb dX2_readMemberHead_39 (by decide) ?_
  have kb_m1 : bd (-1) (-1) ((-1) : Int32) := ⟨by decide, by decide⟩
  refine lv_icmp_ne (tgt := 47) hx hb dX2_readMemberHead_40 (by decide) (fun c_9 => ?_) (fun c_9 => ?_)
  · have fc_9 := neq_f c_9
    have b_10 : bd 0 11 r_7 := neX fc_9 h_8 kb_m1 (by decide)
    refine lv_aload_n hx hb dX2_readMemberHead_47 rfl (lv_at hl 3 rfl) ?_
    refine g_getk (C := RX2) (T := TX2) (N := 16) hx hb hts (mc_ inX2) hown hK g rfl 4 (by decide) rfl (hts _ (List.mem_cons_of_mem _ t_420)) (fun _ h9 => h9) 4 rfl dX2_readMemberHead_48 ?_
    refine g_getr (K := 156) (C := RX9) (T := TX9) (N := 13) hx hb hts (mc_ inX9) hown hK g mq3_ kq3_ (by decide) rfl 9 (by decide) rfl (hts _ (List.mem_cons_of_mem _ t_510)) (fun _ h9 => h9) rfl dX2_readMemberHead_51 (fun a_11 ma_11 ka_11 g => ?_)
    refine lv_iload hx hb dX2_readMemberHead_54 (lv_at hl 0 rfl) ?_
    refine g_iald hx hb hK g ma_11 ka_11 (by decide) rfl (in_bd b_10 (by decide)) dX2_readMemberHead_56 (fun x_12 bx_12 cx_12 => ?_)
    refine lv_istore (lv' := [(5, .int x_12), (4, .int r_7), (2, .long r_6), (1, .int r_5), (0, .ref a0_)]) hx hb dX2_readMemberHead_57 hl (by decide) rfl (fun ls hl => ?_)
    refine lv_aload_n hx hb dX2_readMemberHead_59 rfl (lv_at hl 4 rfl) ?_
    refine g_getk (C := RX2) (T := TX2) (N := 16) hx hb hts (mc_ inX2) hown hK g rfl 0 (by decide) rfl (hts _ (List.mem_cons_of_mem _ t_416)) (fun _ h9 => h9) 2 rfl dX2_readMemberHead_60 ?_
    refine g_calli (va_runV (As := []) (rest := []) ⟨hx, hb, hml, hown, hts⟩ (r_X8_kind l dC dI L kd tys fr_7 H.size g.2.2.2.1 q0_ mq0_ kq0_) (cwV 0 hts (gV_ t_1118 t_1119 t_1120 t_184 t_1121) rfl rfl rfl (by decide +kernel) ⟨(Nat.le_of_ble_eq_true rfl), (Nat.le_of_ble_eq_true rfl)⟩) (pre3V g hK mq0_ kq0_ (by decide) (q := (RX8, TX8, 10)) rfl) rfl rfl hl.1 rfl (lv_room (Nat.le_of_ble_eq_true rfl)) dX2_readMemberHead_63 ⟨(Nat.le_of_ble_eq_true rfl), (Nat.le_of_ble_eq_true rfl)⟩) g hK (by decide) (by decide) (fx' := [(9, 9, q3_, .ref a_11), (8, 6, q0_, .int x_2), (2, 0, a0_, .ref q0_), (2, 1, a0_, .ref q1_), (2, 3, a0_, .ref q2_), (2, 4, a0_, .ref q3_), (2, 5, a0_, .ref q4_), (5, 1, q1_, .ref q5_)]) rfl (fun r_13 fr_13 H locs hp hMr_13 g => ?_)
    refine lv_iconst (v := 3) hx hb dX2_readMemberHead_66 (by decide) ?_
    have kb_3 : bd 3 3 (3 : Int32) := ⟨by decide, by decide⟩
    refine lv_icmp_eq (tgt := 82) hx hb dX2_readMemberHead_67 (by decide) (fun c_14 => ?_) (fun c_14 => ?_)
    · have fc_14 := eq_f c_14
      have b_15 : bd 3 3 r_13 := eqX fc_14 (bdT r_13) kb_3 (by decide)
      refine lv_iload hx hb dX2_readMemberHead_82 (lv_at hl 0 rfl) ?_
      refine lv_iconst (v := (-1)) hx hb dX2_readMemberHead_84 (by decide) ?_
      refine lv_icmp_eq (tgt := 123) hx hb dX2_readMemberHead_85 (by decide) (fun c_16 => ?_) (fun c_16 => ?_)
      · have fc_16 := eq_f c_16
        have b_17 : bd 0 (-1) x_12 := eqX fc_16 bx_12 kb_m1 (by decide)
        exact bd_no b_17 (by decide)
      · have fc_16 := neq_f c_16
        refine lv_aload_n hx hb dX2_readMemberHead_88 rfl (lv_at hl 4 rfl) ?_
        refine g_getk (C := RX2) (T := TX2) (N := 16) hx hb hts (mc_ inX2) hown hK g rfl 3 (by decide) rfl (hts _ (List.mem_cons_of_mem _ t_419)) (fun _ h9 => h9) 4 rfl dX2_readMemberHead_89 ?_
        refine g_getr (K := 137) (C := RX7) (T := TX7) (N := 19) hx hb hts (mc_ inX7) hown hK g mq2_ kq2_ (by decide) rfl 2 (by decide) rfl (hts _ (List.mem_cons_of_mem _ t_630)) (fun _ h9 => h9) rfl dX2_readMemberHead_92 (fun a_18 ma_18 ka_18 g => ?_)
        refine lv_iload hx hb dX2_readMemberHead_95 (lv_at hl 0 rfl) ?_
        refine g_aald hx hb hK g ma_18 ka_18 (by decide) rfl (by decide) (in_bd bx_12 (by decide)) dX2_readMemberHead_97 (fun a_19 ma_19 ua_19 wa_19 => ?_)
        have ka_19 : kd a_19 = 6 := by omega
        refine g_geti (C := RX6) (T := TX6) (N := 13) hx hb hts (mc_ inX6) hown hK g ma_19 ka_19 (by decide) rfl 2 (by decide) rfl (hts _ (List.mem_cons_of_mem _ t_561)) (fun _ h9 => h9) rfl dX2_readMemberHead_98 (fun x_20 bx_20 g => ?_)
        refine lv_aload_n hx hb dX2_readMemberHead_101 rfl (lv_at hl 4 rfl) ?_
        refine g_getk (C := RX2) (T := TX2) (N := 16) hx hb hts (mc_ inX2) hown hK g rfl 1 (by decide) rfl (hts _ (List.mem_cons_of_mem _ t_417)) (fun _ h9 => h9) 5 rfl dX2_readMemberHead_102 ?_
        refine g_geti (C := RX5) (T := TX5) (N := 9) hx hb hts (mc_ inX5) hown hK g mq1_ kq1_ (by decide) rfl 2 (by decide) rfl (hts _ (List.mem_cons_of_mem _ t_333)) (fun _ h9 => h9) rfl dX2_readMemberHead_105 (fun x_21 bx_21 g => ?_)
        refine lv_icmp_ne (tgt := 123) hx hb dX2_readMemberHead_108 (by decide) (fun c_22 => ?_) (fun c_22 => ?_)
        · have fc_22 := neq_f c_22
          refine lv_iload hx hb dX2_readMemberHead_123 (lv_at hl 0 rfl) ?_
          refine lv_iconst (v := (-1)) hx hb dX2_readMemberHead_125 (by decide) ?_
          refine lv_icmp_ne (tgt := 153) hx hb dX2_readMemberHead_126 (by decide) (fun c_23 => ?_) (fun c_23 => ?_)
          · have fc_23 := neq_f c_23
            refine lv_aload_n hx hb dX2_readMemberHead_153 rfl (lv_at hl 4 rfl) ?_
            refine lv_lload_n hx hb dX2_readMemberHead_154 rfl (lv_at hl 2 rfl) ?_
            refine lv_iload_n hx hb dX2_readMemberHead_155 rfl (lv_at hl 3 rfl) ?_
            refine lv_iload hx hb dX2_readMemberHead_156 (lv_at hl 1 rfl) ?_
            refine g_callv (va_runV (As := [.long r_6, .int r_5, .int r_7]) (rest := []) ⟨hx, hb, hml, hown, hts⟩ (r_X2_beginTelling l dC dI L kd tys fr_13 H.size g.2.2.2.1 a0_ ma0_ ka0_ r_6 r_5 r_7 b_10 q2_ mq2_ kq2_ q3_ mq3_ kq3_ (g.fcts [7, 8] rfl)) (cwV 3 hts (gV_ t_1307 t_1309 t_33 t_183 t_1310) rfl rfl rfl (by decide +kernel) ⟨(Nat.le_of_ble_eq_true rfl), (Nat.le_of_ble_eq_true rfl)⟩) (pre3V g hK ma0_ ka0_ (by decide) (q := (RX2, TX2, 16)) rfl) rfl rfl hl.1 rfl (lv_room (Nat.le_of_ble_eq_true rfl)) dX2_readMemberHead_158 ⟨(Nat.le_of_ble_eq_true rfl), (Nat.le_of_ble_eq_true rfl)⟩) g hK (by decide) (by decide) (fx' := [(5, 2, q1_, .int x_21), (7, 2, q2_, .ref a_18), (9, 9, q3_, .ref a_11), (8, 6, q0_, .int x_2), (2, 0, a0_, .ref q0_), (2, 1, a0_, .ref q1_), (2, 3, a0_, .ref q2_), (2, 4, a0_, .ref q3_), (5, 1, q1_, .ref q5_)]) rfl (fun fr_24 H locs hp hMr_24 g => ?_)
            obtain ⟨x_25, h_26, a_27, ⟨ma_27, ka_27⟩, x_28, h_29, hF_30⟩ := hp
            have g := g.more hF_30
            refine lv_aload_n hx hb dX2_readMemberHead_161 rfl (lv_at hl 4 rfl) ?_
            refine g_getk (C := RX2) (T := TX2) (N := 16) hx hb hts (mc_ inX2) hown hK g rfl 0 (by decide) rfl (hts _ (List.mem_cons_of_mem _ t_416)) (fun _ h9 => h9) 8 rfl dX2_readMemberHead_162 ?_
            refine g_callv (va_runV (As := []) (rest := []) ⟨hx, hb, hml, hown, hts⟩ (r_X8_next l dC dI L kd tys fr_24 H.size g.2.2.2.1 q0_ mq0_ kq0_) (cwV 0 hts (gV_ t_1131 t_1103 t_1104 t_184 t_1105) rfl rfl rfl (by decide +kernel) ⟨(Nat.le_of_ble_eq_true rfl), (Nat.le_of_ble_eq_true rfl)⟩) (pre3V g hK mq0_ kq0_ (by decide) (q := (RX8, TX8, 10)) rfl) rfl rfl hl.1 rfl (lv_room (Nat.le_of_ble_eq_true rfl)) dX2_readMemberHead_165 ⟨(Nat.le_of_ble_eq_true rfl), (Nat.le_of_ble_eq_true rfl)⟩) g hK (by decide) (by decide) (fx' := [(2, 6, a0_, .int 0), (9, 8, q3_, .int x_25), (2, 5, a0_, .ref a_27), (7, 3, q2_, .int x_28), (5, 2, q1_, .int x_21), (7, 2, q2_, .ref a_18), (9, 9, q3_, .ref a_11), (2, 0, a0_, .ref q0_), (2, 1, a0_, .ref q1_), (2, 3, a0_, .ref q2_), (2, 4, a0_, .ref q3_), (5, 1, q1_, .ref q5_)]) rfl (fun fr_31 H locs hp hMr_31 g => ?_)
            obtain ⟨x_32, h_33, hF_34⟩ := hp
            have g := g.more hF_34
            refine lv_aload_n hx hb dX2_readMemberHead_168 rfl (lv_at hl 4 rfl) ?_
            refine g_getk (C := RX2) (T := TX2) (N := 16) hx hb hts (mc_ inX2) hown hK g rfl 0 (by decide) rfl (hts _ (List.mem_cons_of_mem _ t_416)) (fun _ h9 => h9) 8 rfl dX2_readMemberHead_169 ?_
            refine lv_bipush (v := 40) hx hb dX2_readMemberHead_172 (by decide) ?_
            refine g_callv (va_runV (As := [.int 40]) (rest := []) ⟨hx, hb, hml, hown, hts⟩ (r_X8_take l dC dI L kd tys fr_31 H.size g.2.2.2.1 q0_ mq0_ kq0_ 40) (cwV 1 hts (gV_ t_1098 t_1099 t_1100 t_184 t_1101) rfl rfl rfl (by decide +kernel) ⟨(Nat.le_of_ble_eq_true rfl), (Nat.le_of_ble_eq_true rfl)⟩) (pre3V g hK mq0_ kq0_ (by decide) (q := (RX8, TX8, 10)) rfl) rfl rfl hl.1 rfl (lv_room (Nat.le_of_ble_eq_true rfl)) dX2_readMemberHead_174 ⟨(Nat.le_of_ble_eq_true rfl), (Nat.le_of_ble_eq_true rfl)⟩) g hK (by decide) (by decide) (fx' := [(2, 6, a0_, .int 0), (9, 8, q3_, .int x_25), (2, 5, a0_, .ref a_27), (7, 3, q2_, .int x_28), (5, 2, q1_, .int x_21), (7, 2, q2_, .ref a_18), (9, 9, q3_, .ref a_11), (2, 0, a0_, .ref q0_), (2, 1, a0_, .ref q1_), (2, 3, a0_, .ref q2_), (2, 4, a0_, .ref q3_), (5, 1, q1_, .ref q5_)]) rfl (fun fr_35 H locs hp hMr_35 g => ?_)
            obtain ⟨x_36, h_37, hF_38⟩ := hp
            have g := g.more hF_38
            refine lv_aload_n hx hb dX2_readMemberHead_177 rfl (lv_at hl 4 rfl) ?_
            refine g_getk (C := RX2) (T := TX2) (N := 16) hx hb hts (mc_ inX2) hown hK g rfl 0 (by decide) rfl (hts _ (List.mem_cons_of_mem _ t_416)) (fun _ h9 => h9) 8 rfl dX2_readMemberHead_178 ?_
            refine g_calli (va_runV (As := []) (rest := []) ⟨hx, hb, hml, hown, hts⟩ (r_X8_kind l dC dI L kd tys fr_35 H.size g.2.2.2.1 q0_ mq0_ kq0_) (cwV 0 hts (gV_ t_1118 t_1119 t_1120 t_184 t_1121) rfl rfl rfl (by decide +kernel) ⟨(Nat.le_of_ble_eq_true rfl), (Nat.le_of_ble_eq_true rfl)⟩) (pre3V g hK mq0_ kq0_ (by decide) (q := (RX8, TX8, 10)) rfl) rfl rfl hl.1 rfl (lv_room (Nat.le_of_ble_eq_true rfl)) dX2_readMemberHead_181 ⟨(Nat.le_of_ble_eq_true rfl), (Nat.le_of_ble_eq_true rfl)⟩) g hK (by decide) (by decide) (fx' := [(8, 6, q0_, .int x_36), (2, 6, a0_, .int 0), (9, 8, q3_, .int x_25), (2, 5, a0_, .ref a_27), (7, 3, q2_, .int x_28), (5, 2, q1_, .int x_21), (7, 2, q2_, .ref a_18), (9, 9, q3_, .ref a_11), (2, 0, a0_, .ref q0_), (2, 1, a0_, .ref q1_), (2, 3, a0_, .ref q2_), (2, 4, a0_, .ref q3_), (5, 1, q1_, .ref q5_)]) rfl (fun r_39 fr_39 H locs hp hMr_39 g => ?_)
            refine lv_bipush (v := 41) hx hb dX2_readMemberHead_184 (by decide) ?_
            have kb_41 : bd 41 41 (41 : Int32) := ⟨by decide, by decide⟩
            refine lv_icmp_eq (tgt := 193) hx hb dX2_readMemberHead_186 (by decide) (fun c_40 => ?_) (fun c_40 => ?_)
            · have fc_40 := eq_f c_40
              have b_41 : bd 41 41 r_39 := eqX fc_40 (bdT r_39) kb_41 (by decide)
              refine lv_iconst (v := 0) hx hb dX2_readMemberHead_193 (by decide) ?_
              refine lv_istore (lv' := [(6, .int 0), (5, .int x_12), (4, .int r_7), (2, .long r_6), (1, .int r_5), (0, .ref a0_)]) hx hb dX2_readMemberHead_194 hl (by decide) rfl (fun ls hl => ?_)
              refine lv_iconst (v := 0) hx hb dX2_readMemberHead_196 (by decide) ?_
              refine lv_istore (lv' := [(7, .int 0), (6, .int 0), (5, .int x_12), (4, .int r_7), (2, .long r_6), (1, .int r_5), (0, .ref a0_)]) hx hb dX2_readMemberHead_197 hl (by decide) rfl (fun ls hl => ?_)
              refine lv_iload hx hb dX2_readMemberHead_199 (lv_at hl 0 rfl) ?_
              refine lv_iconst (v := 3) hx hb dX2_readMemberHead_201 (by decide) ?_
              refine lv_icmp_gt (tgt := 251) hx hb dX2_readMemberHead_202 (by decide) (fun c_ => absurd c_ (by decide)) (fun c_ => ?_)
              refine lv_iload hx hb dX2_readMemberHead_205 (lv_at hl 1 rfl) ?_
              refine lv_if_eq (tgt := 251) hx hb dX2_readMemberHead_207 (by decide) (fun c_ => ?_) (fun c_ => absurd (by decide) c_)
              refine lv_aload_n hx hb dX2_readMemberHead_251 rfl (lv_at hl 6 rfl) ?_
              refine g_getk (C := RX2) (T := TX2) (N := 16) hx hb hts (mc_ inX2) hown hK g rfl 0 (by decide) rfl (hts _ (List.mem_cons_of_mem _ t_416)) (fun _ h9 => h9) 8 rfl dX2_readMemberHead_252 ?_
              refine g_calli (va_runV (As := []) (rest := []) ⟨hx, hb, hml, hown, hts⟩ (r_X8_place l dC dI L kd tys fr_39 H.size g.2.2.2.1 q0_ mq0_ kq0_) (cwV 0 hts (gV_ t_1110 t_1111 t_1112 t_184 t_1113) rfl rfl rfl (by decide +kernel) ⟨(Nat.le_of_ble_eq_true rfl), (Nat.le_of_ble_eq_true rfl)⟩) (pre3V g hK mq0_ kq0_ (by decide) (q := (RX8, TX8, 10)) rfl) rfl rfl hl.1 rfl (lv_room (Nat.le_of_ble_eq_true rfl)) dX2_readMemberHead_255 ⟨(Nat.le_of_ble_eq_true rfl), (Nat.le_of_ble_eq_true rfl)⟩) g hK (by decide) (by decide) (fx' := [(8, 6, q0_, .int x_36), (2, 6, a0_, .int 0), (9, 8, q3_, .int x_25), (2, 5, a0_, .ref a_27), (7, 3, q2_, .int x_28), (5, 2, q1_, .int x_21), (7, 2, q2_, .ref a_18), (9, 9, q3_, .ref a_11), (2, 0, a0_, .ref q0_), (2, 1, a0_, .ref q1_), (2, 3, a0_, .ref q2_), (2, 4, a0_, .ref q3_), (5, 1, q1_, .ref q5_)]) rfl (fun r_42 fr_42 H locs hp hMr_42 g => ?_)
              refine lv_istore (lv' := [(7, .int r_42), (6, .int 0), (5, .int x_12), (4, .int r_7), (2, .long r_6), (1, .int r_5), (0, .ref a0_)]) hx hb dX2_readMemberHead_258 hl (by decide) rfl (fun ls hl => ?_)
              refine lv_aload_n hx hb dX2_readMemberHead_260 rfl (lv_at hl 6 rfl) ?_
              refine g_getk (C := RX2) (T := TX2) (N := 16) hx hb hts (mc_ inX2) hown hK g rfl 0 (by decide) rfl (hts _ (List.mem_cons_of_mem _ t_416)) (fun _ h9 => h9) 8 rfl dX2_readMemberHead_261 ?_
              refine lv_bipush (v := 41) hx hb dX2_readMemberHead_264 (by decide) ?_
              refine g_callv (va_runV (As := [.int 41]) (rest := []) ⟨hx, hb, hml, hown, hts⟩ (r_X8_take l dC dI L kd tys fr_42 H.size g.2.2.2.1 q0_ mq0_ kq0_ 41) (cwV 1 hts (gV_ t_1098 t_1099 t_1100 t_184 t_1101) rfl rfl rfl (by decide +kernel) ⟨(Nat.le_of_ble_eq_true rfl), (Nat.le_of_ble_eq_true rfl)⟩) (pre3V g hK mq0_ kq0_ (by decide) (q := (RX8, TX8, 10)) rfl) rfl rfl hl.1 rfl (lv_room (Nat.le_of_ble_eq_true rfl)) dX2_readMemberHead_266 ⟨(Nat.le_of_ble_eq_true rfl), (Nat.le_of_ble_eq_true rfl)⟩) g hK (by decide) (by decide) (fx' := [(2, 6, a0_, .int 0), (9, 8, q3_, .int x_25), (2, 5, a0_, .ref a_27), (7, 3, q2_, .int x_28), (5, 2, q1_, .int x_21), (7, 2, q2_, .ref a_18), (9, 9, q3_, .ref a_11), (2, 0, a0_, .ref q0_), (2, 1, a0_, .ref q1_), (2, 3, a0_, .ref q2_), (2, 4, a0_, .ref q3_), (5, 1, q1_, .ref q5_)]) rfl (fun fr_43 H locs hp hMr_43 g => ?_)
              obtain ⟨x_44, h_45, hF_46⟩ := hp
              have g := g.more hF_46
              refine lv_iload hx hb dX2_readMemberHead_269 (lv_at hl 2 rfl) ?_
              refine lv_iconst (v := (-1)) hx hb dX2_readMemberHead_271 (by decide) ?_
              refine lv_icmp_eq (tgt := 308) hx hb dX2_readMemberHead_272 (by decide) (fun c_47 => ?_) (fun c_47 => ?_)
              · have fc_47 := eq_f c_47
                have b_48 : bd 0 (-1) x_12 := eqX fc_47 bx_12 kb_m1 (by decide)
                exact bd_no b_48 (by decide)
              · have fc_47 := neq_f c_47
                refine lv_aload_n hx hb dX2_readMemberHead_275 rfl (lv_at hl 6 rfl) ?_
                refine g_getk (C := RX2) (T := TX2) (N := 16) hx hb hts (mc_ inX2) hown hK g rfl 3 (by decide) rfl (hts _ (List.mem_cons_of_mem _ t_419)) (fun _ h9 => h9) 10 rfl dX2_readMemberHead_276 ?_
                refine g_getk (C := RX7) (T := TX7) (N := 19) hx hb hts (mc_ inX7) hown hK g rfl 2 (by decide) rfl (hts _ (List.mem_cons_of_mem _ t_630)) (fun _ h9 => h9) 6 rfl dX2_readMemberHead_279 ?_
                refine lv_iload hx hb dX2_readMemberHead_282 (lv_at hl 2 rfl) ?_
                refine g_aald hx hb hK g ma_18 ka_18 (by decide) rfl (by decide) (in_bd bx_12 (by decide)) dX2_readMemberHead_284 (fun a_49 ma_49 ua_49 wa_49 => ?_)
                have ka_49 : kd a_49 = 6 := by omega
                refine g_geti (C := RX6) (T := TX6) (N := 13) hx hb hts (mc_ inX6) hown hK g ma_49 ka_49 (by decide) rfl 3 (by decide) rfl (hts _ (List.mem_cons_of_mem _ t_568)) (fun _ h9 => h9) rfl dX2_readMemberHead_285 (fun x_50 bx_50 g => ?_)
                refine lv_aload_n hx hb dX2_readMemberHead_288 rfl (lv_at hl 6 rfl) ?_
                refine g_getk (C := RX2) (T := TX2) (N := 16) hx hb hts (mc_ inX2) hown hK g rfl 5 (by decide) rfl (hts _ (List.mem_cons_of_mem _ t_421)) (fun _ h9 => h9) 4 rfl dX2_readMemberHead_289 ?_
                refine g_geti (C := RX6) (T := TX6) (N := 13) hx hb hts (mc_ inX6) hown hK g ma_27 ka_27 (by decide) rfl 3 (by decide) rfl (hts _ (List.mem_cons_of_mem _ t_568)) (fun _ h9 => h9) rfl dX2_readMemberHead_292 (fun x_51 bx_51 g => ?_)
                refine lv_icmp_eq (tgt := 308) hx hb dX2_readMemberHead_295 (by decide) (fun c_52 => ?_) (fun c_52 => ?_)
                · have fc_52 := eq_f c_52
                  subst hQ
                  exact W.vret hx hb hr (fun t ht hW => ⟨⟨_, rfl, ⟨x_44, h_45, a_27, ⟨ma_27, ka_27⟩, (g.fcts [2, 5] rfl)⟩, q3_of g hK ht hW⟩, g.2.2.1.F ht⟩) g.2.2.1.2.2 dX2_readMemberHead_308
                · have fc_52 := neq_f c_52
                  refine lv_aload_n hx hb dX2_readMemberHead_298 rfl (lv_at hl 6 rfl) ?_
                  refine g_getk (C := RX2) (T := TX2) (N := 16) hx hb hts (mc_ inX2) hown hK g rfl 0 (by decide) rfl (hts _ (List.mem_cons_of_mem _ t_416)) (fun _ h9 => h9) 10 rfl dX2_readMemberHead_299 ?_
                  refine lv_iconst (v := 5) hx hb dX2_readMemberHead_302 (by decide) ?_
                  refine lv_iload hx hb dX2_readMemberHead_303 (lv_at hl 0 rfl) ?_
                  have kb_5 : bd 5 5 (5 : Int32) := ⟨by decide, by decide⟩
                  refine g_callv (va_runV (As := [.int 5, .int r_42]) (rest := []) ⟨hx, hb, hml, hown, hts⟩ (r_X8_fail_2 l dC dI L kd tys fr_43 H.size g.2.2.2.1 q0_ mq0_ kq0_ 5 kb_5 r_42 x_44 h_45 (g.fcts [2] rfl)) (cwV 2 hts (gV_ t_1122 t_1107 t_1108 t_184 t_1109) rfl rfl rfl (by decide +kernel) ⟨(Nat.le_of_ble_eq_true rfl), (Nat.le_of_ble_eq_true rfl)⟩) (pre3V g hK mq0_ kq0_ (by decide) (q := (RX8, TX8, 10)) rfl) rfl rfl hl.1 rfl (lv_room (Nat.le_of_ble_eq_true rfl)) dX2_readMemberHead_305 ⟨(Nat.le_of_ble_eq_true rfl), (Nat.le_of_ble_eq_true rfl)⟩) g hK (by decide) (by decide) (fx' := [(6, 3, a_27, .int x_51), (6, 3, a_49, .int x_50), (2, 6, a0_, .int 0), (9, 8, q3_, .int x_25), (2, 5, a0_, .ref a_27), (7, 3, q2_, .int x_28), (5, 2, q1_, .int x_21), (7, 2, q2_, .ref a_18), (9, 9, q3_, .ref a_11), (2, 0, a0_, .ref q0_), (2, 1, a0_, .ref q1_), (2, 3, a0_, .ref q2_), (2, 4, a0_, .ref q3_), (5, 1, q1_, .ref q5_)]) rfl (fun fr_53 H locs hp hMr_53 g => ?_)
                  obtain ⟨x_54, h_55, hF_56⟩ := hp
                  have g := g.more hF_56
                  have kb_1201 : bd 1201 1201 (1201 : Int32) := ⟨by decide, by decide⟩
                  subst hQ
                  exact W.vret hx hb hr (fun t ht hW => ⟨⟨_, rfl, ⟨1201, (bd_sub kb_1201 (by decide)), a_27, ⟨ma_27, ka_27⟩, (g.fcts [0, 6] rfl)⟩, q3_of g hK ht hW⟩, g.2.2.1.F ht⟩) g.2.2.1.2.2 dX2_readMemberHead_308
            · have fc_40 := neq_f c_40
              refine lv_iconst (v := 1) hx hb dX2_readMemberHead_189 (by decide) ?_
              refine lv_goto (tgt := 194) hx hb dX2_readMemberHead_190 (by decide) ?_
              refine lv_istore (lv' := [(6, .int 1), (5, .int x_12), (4, .int r_7), (2, .long r_6), (1, .int r_5), (0, .ref a0_)]) hx hb dX2_readMemberHead_194 hl (by decide) rfl (fun ls hl => ?_)
              refine lv_iconst (v := 0) hx hb dX2_readMemberHead_196 (by decide) ?_
              refine lv_istore (lv' := [(7, .int 0), (6, .int 1), (5, .int x_12), (4, .int r_7), (2, .long r_6), (1, .int r_5), (0, .ref a0_)]) hx hb dX2_readMemberHead_197 hl (by decide) rfl (fun ls hl => ?_)
              have loop_57 : ∀ (n : Nat) (v199_7 : Int32) (v199_6 : Int32) (w199_8_6_q0_ : Int32), bd 0 4 v199_7 → bd 0 1 v199_6 → bd 1 1201 w199_8_6_q0_ → (4 - v199_7.toInt < (n : Int)) → ∀ (f : Nat → va_E) (H : Heap) (locs : List Loc) (ls : Array Slot), G3 (dC, dI) L kd tys s f0 [(2, 5), (2, 6), (5, 4), (6, 0), (6, 1), (6, 2), (6, 3), (6, 6), (6, 7), (6, 8), (6, 9), (6, 10), (6, 11), (6, 12), (7, 3), (8, 6), (8, 8), (8, 9), (9, 8)] [132, 134, 135, 156] f H locs [(8, 6, q0_, .int w199_8_6_q0_), (2, 6, a0_, .int 0), (9, 8, q3_, .int x_25), (2, 5, a0_, .ref a_27), (7, 3, q2_, .int x_28), (5, 2, q1_, .int x_21), (7, 2, q2_, .ref a_18), (9, 9, q3_, .ref a_11), (2, 0, a0_, .ref q0_), (2, 1, a0_, .ref q1_), (2, 3, a0_, .ref q2_), (2, 4, a0_, .ref q3_), (5, 1, q1_, .ref q5_)] → lv_has ls 8 [(7, .int v199_7), (6, .int v199_6), (5, .int x_12), (4, .int r_7), (2, .long r_6), (1, .int r_5), (0, .ref a0_)] → W p l e ({ frames := 3, cells := 0, slots := 0, locals := 72 } : Room) s m [.ref a0_].toArray below meth c H locs 0 0 Q (F0 m 199 ls []) := by
                intro n199
                induction n199 with
                | zero =>
                  intro v199_7 v199_6 w199_8_6_q0_ bv199_7 bv199_6 bw199_8_6_q0_ hm199 f H locs ls g  hl
                  exact absurd hm199 (by have h9_v199_7 := bv199_7; unfold bd at h9_v199_7; have h9_v199_6 := bv199_6; unfold bd at h9_v199_6; have h9_w199_8_6_q0_ := bw199_8_6_q0_; unfold bd at h9_w199_8_6_q0_; omega)
                | succ n199 ih199 =>
                  intro v199_7 v199_6 w199_8_6_q0_ bv199_7 bv199_6 bw199_8_6_q0_ hm199 f H locs ls g  hl
                  refine lv_iload hx hb dX2_readMemberHead_199 (lv_at hl 0 rfl) ?_
                  refine lv_iconst (v := 3) hx hb dX2_readMemberHead_201 (by decide) ?_
                  refine lv_icmp_gt (tgt := 251) hx hb dX2_readMemberHead_202 (by decide) (fun c_58 => ?_) (fun c_58 => ?_)
                  · have fc_58 := lt_f c_58
                    have b_59 : bd 4 4 v199_7 := ltR fc_58 kb_3 bv199_7 (by decide)
                    refine lv_aload_n hx hb dX2_readMemberHead_251 rfl (lv_at hl 6 rfl) ?_
                    refine g_getk (C := RX2) (T := TX2) (N := 16) hx hb hts (mc_ inX2) hown hK g rfl 0 (by decide) rfl (hts _ (List.mem_cons_of_mem _ t_416)) (fun _ h9 => h9) 8 rfl dX2_readMemberHead_252 ?_
                    refine g_calli (va_runV (As := []) (rest := []) ⟨hx, hb, hml, hown, hts⟩ (r_X8_place l dC dI L kd tys f H.size g.2.2.2.1 q0_ mq0_ kq0_) (cwV 0 hts (gV_ t_1110 t_1111 t_1112 t_184 t_1113) rfl rfl rfl (by decide +kernel) ⟨(Nat.le_of_ble_eq_true rfl), (Nat.le_of_ble_eq_true rfl)⟩) (pre3V g hK mq0_ kq0_ (by decide) (q := (RX8, TX8, 10)) rfl) rfl rfl hl.1 rfl (lv_room (Nat.le_of_ble_eq_true rfl)) dX2_readMemberHead_255 ⟨(Nat.le_of_ble_eq_true rfl), (Nat.le_of_ble_eq_true rfl)⟩) g hK (by decide) (by decide) (fx' := [(8, 6, q0_, .int w199_8_6_q0_), (2, 6, a0_, .int 0), (9, 8, q3_, .int x_25), (2, 5, a0_, .ref a_27), (7, 3, q2_, .int x_28), (5, 2, q1_, .int x_21), (7, 2, q2_, .ref a_18), (9, 9, q3_, .ref a_11), (2, 0, a0_, .ref q0_), (2, 1, a0_, .ref q1_), (2, 3, a0_, .ref q2_), (2, 4, a0_, .ref q3_), (5, 1, q1_, .ref q5_)]) rfl (fun r_60 fr_60 H locs hp hMr_60 g => ?_)
                    refine lv_istore (lv' := [(7, .int r_60), (6, .int v199_6), (5, .int x_12), (4, .int r_7), (2, .long r_6), (1, .int r_5), (0, .ref a0_)]) hx hb dX2_readMemberHead_258 hl (by decide) rfl (fun ls hl => ?_)
                    refine lv_aload_n hx hb dX2_readMemberHead_260 rfl (lv_at hl 6 rfl) ?_
                    refine g_getk (C := RX2) (T := TX2) (N := 16) hx hb hts (mc_ inX2) hown hK g rfl 0 (by decide) rfl (hts _ (List.mem_cons_of_mem _ t_416)) (fun _ h9 => h9) 8 rfl dX2_readMemberHead_261 ?_
                    refine lv_bipush (v := 41) hx hb dX2_readMemberHead_264 (by decide) ?_
                    refine g_callv (va_runV (As := [.int 41]) (rest := []) ⟨hx, hb, hml, hown, hts⟩ (r_X8_take l dC dI L kd tys fr_60 H.size g.2.2.2.1 q0_ mq0_ kq0_ 41) (cwV 1 hts (gV_ t_1098 t_1099 t_1100 t_184 t_1101) rfl rfl rfl (by decide +kernel) ⟨(Nat.le_of_ble_eq_true rfl), (Nat.le_of_ble_eq_true rfl)⟩) (pre3V g hK mq0_ kq0_ (by decide) (q := (RX8, TX8, 10)) rfl) rfl rfl hl.1 rfl (lv_room (Nat.le_of_ble_eq_true rfl)) dX2_readMemberHead_266 ⟨(Nat.le_of_ble_eq_true rfl), (Nat.le_of_ble_eq_true rfl)⟩) g hK (by decide) (by decide) (fx' := [(2, 6, a0_, .int 0), (9, 8, q3_, .int x_25), (2, 5, a0_, .ref a_27), (7, 3, q2_, .int x_28), (5, 2, q1_, .int x_21), (7, 2, q2_, .ref a_18), (9, 9, q3_, .ref a_11), (2, 0, a0_, .ref q0_), (2, 1, a0_, .ref q1_), (2, 3, a0_, .ref q2_), (2, 4, a0_, .ref q3_), (5, 1, q1_, .ref q5_)]) rfl (fun fr_61 H locs hp hMr_61 g => ?_)
                    obtain ⟨x_62, h_63, hF_64⟩ := hp
                    have g := g.more hF_64
                    refine lv_iload hx hb dX2_readMemberHead_269 (lv_at hl 2 rfl) ?_
                    refine lv_iconst (v := (-1)) hx hb dX2_readMemberHead_271 (by decide) ?_
                    refine lv_icmp_eq (tgt := 308) hx hb dX2_readMemberHead_272 (by decide) (fun c_65 => ?_) (fun c_65 => ?_)
                    · have fc_65 := eq_f c_65
                      have b_66 : bd 0 (-1) x_12 := eqX fc_65 bx_12 kb_m1 (by decide)
                      exact bd_no b_66 (by decide)
                    · have fc_65 := neq_f c_65
                      refine lv_aload_n hx hb dX2_readMemberHead_275 rfl (lv_at hl 6 rfl) ?_
                      refine g_getk (C := RX2) (T := TX2) (N := 16) hx hb hts (mc_ inX2) hown hK g rfl 3 (by decide) rfl (hts _ (List.mem_cons_of_mem _ t_419)) (fun _ h9 => h9) 10 rfl dX2_readMemberHead_276 ?_
                      refine g_getk (C := RX7) (T := TX7) (N := 19) hx hb hts (mc_ inX7) hown hK g rfl 2 (by decide) rfl (hts _ (List.mem_cons_of_mem _ t_630)) (fun _ h9 => h9) 6 rfl dX2_readMemberHead_279 ?_
                      refine lv_iload hx hb dX2_readMemberHead_282 (lv_at hl 2 rfl) ?_
                      refine g_aald hx hb hK g ma_18 ka_18 (by decide) rfl (by decide) (in_bd bx_12 (by decide)) dX2_readMemberHead_284 (fun a_67 ma_67 ua_67 wa_67 => ?_)
                      have ka_67 : kd a_67 = 6 := by omega
                      refine g_geti (C := RX6) (T := TX6) (N := 13) hx hb hts (mc_ inX6) hown hK g ma_67 ka_67 (by decide) rfl 3 (by decide) rfl (hts _ (List.mem_cons_of_mem _ t_568)) (fun _ h9 => h9) rfl dX2_readMemberHead_285 (fun x_68 bx_68 g => ?_)
                      refine lv_aload_n hx hb dX2_readMemberHead_288 rfl (lv_at hl 6 rfl) ?_
                      refine g_getk (C := RX2) (T := TX2) (N := 16) hx hb hts (mc_ inX2) hown hK g rfl 5 (by decide) rfl (hts _ (List.mem_cons_of_mem _ t_421)) (fun _ h9 => h9) 4 rfl dX2_readMemberHead_289 ?_
                      refine g_geti (C := RX6) (T := TX6) (N := 13) hx hb hts (mc_ inX6) hown hK g ma_27 ka_27 (by decide) rfl 3 (by decide) rfl (hts _ (List.mem_cons_of_mem _ t_568)) (fun _ h9 => h9) rfl dX2_readMemberHead_292 (fun x_69 bx_69 g => ?_)
                      refine lv_icmp_eq (tgt := 308) hx hb dX2_readMemberHead_295 (by decide) (fun c_70 => ?_) (fun c_70 => ?_)
                      · have fc_70 := eq_f c_70
                        subst hQ
                        exact W.vret hx hb hr (fun t ht hW => ⟨⟨_, rfl, ⟨x_62, h_63, a_27, ⟨ma_27, ka_27⟩, (g.fcts [2, 5] rfl)⟩, q3_of g hK ht hW⟩, g.2.2.1.F ht⟩) g.2.2.1.2.2 dX2_readMemberHead_308
                      · have fc_70 := neq_f c_70
                        refine lv_aload_n hx hb dX2_readMemberHead_298 rfl (lv_at hl 6 rfl) ?_
                        refine g_getk (C := RX2) (T := TX2) (N := 16) hx hb hts (mc_ inX2) hown hK g rfl 0 (by decide) rfl (hts _ (List.mem_cons_of_mem _ t_416)) (fun _ h9 => h9) 10 rfl dX2_readMemberHead_299 ?_
                        refine lv_iconst (v := 5) hx hb dX2_readMemberHead_302 (by decide) ?_
                        refine lv_iload hx hb dX2_readMemberHead_303 (lv_at hl 0 rfl) ?_
                        have kb_5 : bd 5 5 (5 : Int32) := ⟨by decide, by decide⟩
                        refine g_callv (va_runV (As := [.int 5, .int r_60]) (rest := []) ⟨hx, hb, hml, hown, hts⟩ (r_X8_fail_2 l dC dI L kd tys fr_61 H.size g.2.2.2.1 q0_ mq0_ kq0_ 5 kb_5 r_60 x_62 h_63 (g.fcts [2] rfl)) (cwV 2 hts (gV_ t_1122 t_1107 t_1108 t_184 t_1109) rfl rfl rfl (by decide +kernel) ⟨(Nat.le_of_ble_eq_true rfl), (Nat.le_of_ble_eq_true rfl)⟩) (pre3V g hK mq0_ kq0_ (by decide) (q := (RX8, TX8, 10)) rfl) rfl rfl hl.1 rfl (lv_room (Nat.le_of_ble_eq_true rfl)) dX2_readMemberHead_305 ⟨(Nat.le_of_ble_eq_true rfl), (Nat.le_of_ble_eq_true rfl)⟩) g hK (by decide) (by decide) (fx' := [(6, 3, a_27, .int x_69), (6, 3, a_67, .int x_68), (2, 6, a0_, .int 0), (9, 8, q3_, .int x_25), (2, 5, a0_, .ref a_27), (7, 3, q2_, .int x_28), (5, 2, q1_, .int x_21), (7, 2, q2_, .ref a_18), (9, 9, q3_, .ref a_11), (2, 0, a0_, .ref q0_), (2, 1, a0_, .ref q1_), (2, 3, a0_, .ref q2_), (2, 4, a0_, .ref q3_), (5, 1, q1_, .ref q5_)]) rfl (fun fr_71 H locs hp hMr_71 g => ?_)
                        obtain ⟨x_72, h_73, hF_74⟩ := hp
                        have g := g.more hF_74
                        have kb_1201 : bd 1201 1201 (1201 : Int32) := ⟨by decide, by decide⟩
                        subst hQ
                        exact W.vret hx hb hr (fun t ht hW => ⟨⟨_, rfl, ⟨1201, (bd_sub kb_1201 (by decide)), a_27, ⟨ma_27, ka_27⟩, (g.fcts [0, 6] rfl)⟩, q3_of g hK ht hW⟩, g.2.2.1.F ht⟩) g.2.2.1.2.2 dX2_readMemberHead_308
                  · have fc_58 := nlt_f c_58
                    have b_75 : bd 0 3 v199_7 := leL fc_58 bv199_7 kb_3 (by decide)
                    refine lv_iload hx hb dX2_readMemberHead_205 (lv_at hl 1 rfl) ?_
                    have kb_0 : bd 0 0 (0 : Int32) := ⟨by decide, by decide⟩
                    refine lv_if_eq (tgt := 251) hx hb dX2_readMemberHead_207 (by decide) (fun c_76 => ?_) (fun c_76 => ?_)
                    · have fc_76 := eq_f c_76
                      have b_77 : bd 0 0 v199_6 := eqX fc_76 bv199_6 kb_0 (by decide)
                      refine lv_aload_n hx hb dX2_readMemberHead_251 rfl (lv_at hl 6 rfl) ?_
                      refine g_getk (C := RX2) (T := TX2) (N := 16) hx hb hts (mc_ inX2) hown hK g rfl 0 (by decide) rfl (hts _ (List.mem_cons_of_mem _ t_416)) (fun _ h9 => h9) 8 rfl dX2_readMemberHead_252 ?_
                      refine g_calli (va_runV (As := []) (rest := []) ⟨hx, hb, hml, hown, hts⟩ (r_X8_place l dC dI L kd tys f H.size g.2.2.2.1 q0_ mq0_ kq0_) (cwV 0 hts (gV_ t_1110 t_1111 t_1112 t_184 t_1113) rfl rfl rfl (by decide +kernel) ⟨(Nat.le_of_ble_eq_true rfl), (Nat.le_of_ble_eq_true rfl)⟩) (pre3V g hK mq0_ kq0_ (by decide) (q := (RX8, TX8, 10)) rfl) rfl rfl hl.1 rfl (lv_room (Nat.le_of_ble_eq_true rfl)) dX2_readMemberHead_255 ⟨(Nat.le_of_ble_eq_true rfl), (Nat.le_of_ble_eq_true rfl)⟩) g hK (by decide) (by decide) (fx' := [(8, 6, q0_, .int w199_8_6_q0_), (2, 6, a0_, .int 0), (9, 8, q3_, .int x_25), (2, 5, a0_, .ref a_27), (7, 3, q2_, .int x_28), (5, 2, q1_, .int x_21), (7, 2, q2_, .ref a_18), (9, 9, q3_, .ref a_11), (2, 0, a0_, .ref q0_), (2, 1, a0_, .ref q1_), (2, 3, a0_, .ref q2_), (2, 4, a0_, .ref q3_), (5, 1, q1_, .ref q5_)]) rfl (fun r_78 fr_78 H locs hp hMr_78 g => ?_)
                      refine lv_istore (lv' := [(7, .int r_78), (6, .int v199_6), (5, .int x_12), (4, .int r_7), (2, .long r_6), (1, .int r_5), (0, .ref a0_)]) hx hb dX2_readMemberHead_258 hl (by decide) rfl (fun ls hl => ?_)
                      refine lv_aload_n hx hb dX2_readMemberHead_260 rfl (lv_at hl 6 rfl) ?_
                      refine g_getk (C := RX2) (T := TX2) (N := 16) hx hb hts (mc_ inX2) hown hK g rfl 0 (by decide) rfl (hts _ (List.mem_cons_of_mem _ t_416)) (fun _ h9 => h9) 8 rfl dX2_readMemberHead_261 ?_
                      refine lv_bipush (v := 41) hx hb dX2_readMemberHead_264 (by decide) ?_
                      refine g_callv (va_runV (As := [.int 41]) (rest := []) ⟨hx, hb, hml, hown, hts⟩ (r_X8_take l dC dI L kd tys fr_78 H.size g.2.2.2.1 q0_ mq0_ kq0_ 41) (cwV 1 hts (gV_ t_1098 t_1099 t_1100 t_184 t_1101) rfl rfl rfl (by decide +kernel) ⟨(Nat.le_of_ble_eq_true rfl), (Nat.le_of_ble_eq_true rfl)⟩) (pre3V g hK mq0_ kq0_ (by decide) (q := (RX8, TX8, 10)) rfl) rfl rfl hl.1 rfl (lv_room (Nat.le_of_ble_eq_true rfl)) dX2_readMemberHead_266 ⟨(Nat.le_of_ble_eq_true rfl), (Nat.le_of_ble_eq_true rfl)⟩) g hK (by decide) (by decide) (fx' := [(2, 6, a0_, .int 0), (9, 8, q3_, .int x_25), (2, 5, a0_, .ref a_27), (7, 3, q2_, .int x_28), (5, 2, q1_, .int x_21), (7, 2, q2_, .ref a_18), (9, 9, q3_, .ref a_11), (2, 0, a0_, .ref q0_), (2, 1, a0_, .ref q1_), (2, 3, a0_, .ref q2_), (2, 4, a0_, .ref q3_), (5, 1, q1_, .ref q5_)]) rfl (fun fr_79 H locs hp hMr_79 g => ?_)
                      obtain ⟨x_80, h_81, hF_82⟩ := hp
                      have g := g.more hF_82
                      refine lv_iload hx hb dX2_readMemberHead_269 (lv_at hl 2 rfl) ?_
                      refine lv_iconst (v := (-1)) hx hb dX2_readMemberHead_271 (by decide) ?_
                      refine lv_icmp_eq (tgt := 308) hx hb dX2_readMemberHead_272 (by decide) (fun c_83 => ?_) (fun c_83 => ?_)
                      · have fc_83 := eq_f c_83
                        have b_84 : bd 0 (-1) x_12 := eqX fc_83 bx_12 kb_m1 (by decide)
                        exact bd_no b_84 (by decide)
                      · have fc_83 := neq_f c_83
                        refine lv_aload_n hx hb dX2_readMemberHead_275 rfl (lv_at hl 6 rfl) ?_
                        refine g_getk (C := RX2) (T := TX2) (N := 16) hx hb hts (mc_ inX2) hown hK g rfl 3 (by decide) rfl (hts _ (List.mem_cons_of_mem _ t_419)) (fun _ h9 => h9) 10 rfl dX2_readMemberHead_276 ?_
                        refine g_getk (C := RX7) (T := TX7) (N := 19) hx hb hts (mc_ inX7) hown hK g rfl 2 (by decide) rfl (hts _ (List.mem_cons_of_mem _ t_630)) (fun _ h9 => h9) 6 rfl dX2_readMemberHead_279 ?_
                        refine lv_iload hx hb dX2_readMemberHead_282 (lv_at hl 2 rfl) ?_
                        refine g_aald hx hb hK g ma_18 ka_18 (by decide) rfl (by decide) (in_bd bx_12 (by decide)) dX2_readMemberHead_284 (fun a_85 ma_85 ua_85 wa_85 => ?_)
                        have ka_85 : kd a_85 = 6 := by omega
                        refine g_geti (C := RX6) (T := TX6) (N := 13) hx hb hts (mc_ inX6) hown hK g ma_85 ka_85 (by decide) rfl 3 (by decide) rfl (hts _ (List.mem_cons_of_mem _ t_568)) (fun _ h9 => h9) rfl dX2_readMemberHead_285 (fun x_86 bx_86 g => ?_)
                        refine lv_aload_n hx hb dX2_readMemberHead_288 rfl (lv_at hl 6 rfl) ?_
                        refine g_getk (C := RX2) (T := TX2) (N := 16) hx hb hts (mc_ inX2) hown hK g rfl 5 (by decide) rfl (hts _ (List.mem_cons_of_mem _ t_421)) (fun _ h9 => h9) 4 rfl dX2_readMemberHead_289 ?_
                        refine g_geti (C := RX6) (T := TX6) (N := 13) hx hb hts (mc_ inX6) hown hK g ma_27 ka_27 (by decide) rfl 3 (by decide) rfl (hts _ (List.mem_cons_of_mem _ t_568)) (fun _ h9 => h9) rfl dX2_readMemberHead_292 (fun x_87 bx_87 g => ?_)
                        refine lv_icmp_eq (tgt := 308) hx hb dX2_readMemberHead_295 (by decide) (fun c_88 => ?_) (fun c_88 => ?_)
                        · have fc_88 := eq_f c_88
                          subst hQ
                          exact W.vret hx hb hr (fun t ht hW => ⟨⟨_, rfl, ⟨x_80, h_81, a_27, ⟨ma_27, ka_27⟩, (g.fcts [2, 5] rfl)⟩, q3_of g hK ht hW⟩, g.2.2.1.F ht⟩) g.2.2.1.2.2 dX2_readMemberHead_308
                        · have fc_88 := neq_f c_88
                          refine lv_aload_n hx hb dX2_readMemberHead_298 rfl (lv_at hl 6 rfl) ?_
                          refine g_getk (C := RX2) (T := TX2) (N := 16) hx hb hts (mc_ inX2) hown hK g rfl 0 (by decide) rfl (hts _ (List.mem_cons_of_mem _ t_416)) (fun _ h9 => h9) 10 rfl dX2_readMemberHead_299 ?_
                          refine lv_iconst (v := 5) hx hb dX2_readMemberHead_302 (by decide) ?_
                          refine lv_iload hx hb dX2_readMemberHead_303 (lv_at hl 0 rfl) ?_
                          have kb_5 : bd 5 5 (5 : Int32) := ⟨by decide, by decide⟩
                          refine g_callv (va_runV (As := [.int 5, .int r_78]) (rest := []) ⟨hx, hb, hml, hown, hts⟩ (r_X8_fail_2 l dC dI L kd tys fr_79 H.size g.2.2.2.1 q0_ mq0_ kq0_ 5 kb_5 r_78 x_80 h_81 (g.fcts [2] rfl)) (cwV 2 hts (gV_ t_1122 t_1107 t_1108 t_184 t_1109) rfl rfl rfl (by decide +kernel) ⟨(Nat.le_of_ble_eq_true rfl), (Nat.le_of_ble_eq_true rfl)⟩) (pre3V g hK mq0_ kq0_ (by decide) (q := (RX8, TX8, 10)) rfl) rfl rfl hl.1 rfl (lv_room (Nat.le_of_ble_eq_true rfl)) dX2_readMemberHead_305 ⟨(Nat.le_of_ble_eq_true rfl), (Nat.le_of_ble_eq_true rfl)⟩) g hK (by decide) (by decide) (fx' := [(6, 3, a_27, .int x_87), (6, 3, a_85, .int x_86), (2, 6, a0_, .int 0), (9, 8, q3_, .int x_25), (2, 5, a0_, .ref a_27), (7, 3, q2_, .int x_28), (5, 2, q1_, .int x_21), (7, 2, q2_, .ref a_18), (9, 9, q3_, .ref a_11), (2, 0, a0_, .ref q0_), (2, 1, a0_, .ref q1_), (2, 3, a0_, .ref q2_), (2, 4, a0_, .ref q3_), (5, 1, q1_, .ref q5_)]) rfl (fun fr_89 H locs hp hMr_89 g => ?_)
                          obtain ⟨x_90, h_91, hF_92⟩ := hp
                          have g := g.more hF_92
                          have kb_1201 : bd 1201 1201 (1201 : Int32) := ⟨by decide, by decide⟩
                          subst hQ
                          exact W.vret hx hb hr (fun t ht hW => ⟨⟨_, rfl, ⟨1201, (bd_sub kb_1201 (by decide)), a_27, ⟨ma_27, ka_27⟩, (g.fcts [0, 6] rfl)⟩, q3_of g hK ht hW⟩, g.2.2.1.F ht⟩) g.2.2.1.2.2 dX2_readMemberHead_308
                    · have fc_76 := neq_f c_76
                      have b_93 : bd 1 1 v199_6 := neX fc_76 bv199_6 kb_0 (by decide)
                      refine lv_aload_n hx hb dX2_readMemberHead_210 rfl (lv_at hl 6 rfl) ?_
                      refine g_callv (va_runV (As := []) (rest := []) ⟨hx, hb, hml, hown, hts⟩ (r_X2_readParam l dC dI L kd tys f H.size g.2.2.2.1 a0_ ma0_ ka0_ q0_ mq0_ kq0_ q1_ mq1_ kq1_ a_27 ma_27 ka_27 q5_ mq5_ kq5_ (g.fcts [8, 9, 3, 12] rfl)) (cwV 0 hts (gV_ t_1313 t_1315 t_34 t_183 t_1316) rfl rfl rfl (by decide +kernel) ⟨(Nat.le_of_ble_eq_true rfl), (Nat.le_of_ble_eq_true rfl)⟩) (pre3V g hK ma0_ ka0_ (by decide) (q := (RX2, TX2, 16)) rfl) rfl rfl hl.1 rfl (lv_room (Nat.le_of_ble_eq_true rfl)) dX2_readMemberHead_211 ⟨(Nat.le_of_ble_eq_true rfl), (Nat.le_of_ble_eq_true rfl)⟩) g hK (by decide) (by decide) (fx' := [(2, 6, a0_, .int 0), (9, 8, q3_, .int x_25), (2, 5, a0_, .ref a_27), (7, 3, q2_, .int x_28), (5, 2, q1_, .int x_21), (7, 2, q2_, .ref a_18), (9, 9, q3_, .ref a_11), (2, 0, a0_, .ref q0_), (2, 1, a0_, .ref q1_), (2, 3, a0_, .ref q2_), (2, 4, a0_, .ref q3_), (5, 1, q1_, .ref q5_)]) rfl (fun fr_94 H locs hp hMr_94 g => ?_)
                      obtain ⟨x_95, h_96, hF_97⟩ := hp
                      have g := g.more hF_97
                      refine lv_aload_n hx hb dX2_readMemberHead_214 rfl (lv_at hl 6 rfl) ?_
                      refine g_getk (C := RX2) (T := TX2) (N := 16) hx hb hts (mc_ inX2) hown hK g rfl 0 (by decide) rfl (hts _ (List.mem_cons_of_mem _ t_416)) (fun _ h9 => h9) 8 rfl dX2_readMemberHead_215 ?_
                      refine g_calli (va_runV (As := []) (rest := []) ⟨hx, hb, hml, hown, hts⟩ (r_X8_kind l dC dI L kd tys fr_94 H.size g.2.2.2.1 q0_ mq0_ kq0_) (cwV 0 hts (gV_ t_1118 t_1119 t_1120 t_184 t_1121) rfl rfl rfl (by decide +kernel) ⟨(Nat.le_of_ble_eq_true rfl), (Nat.le_of_ble_eq_true rfl)⟩) (pre3V g hK mq0_ kq0_ (by decide) (q := (RX8, TX8, 10)) rfl) rfl rfl hl.1 rfl (lv_room (Nat.le_of_ble_eq_true rfl)) dX2_readMemberHead_218 ⟨(Nat.le_of_ble_eq_true rfl), (Nat.le_of_ble_eq_true rfl)⟩) g hK (by decide) (by decide) (fx' := [(8, 6, q0_, .int x_95), (2, 6, a0_, .int 0), (9, 8, q3_, .int x_25), (2, 5, a0_, .ref a_27), (7, 3, q2_, .int x_28), (5, 2, q1_, .int x_21), (7, 2, q2_, .ref a_18), (9, 9, q3_, .ref a_11), (2, 0, a0_, .ref q0_), (2, 1, a0_, .ref q1_), (2, 3, a0_, .ref q2_), (2, 4, a0_, .ref q3_), (5, 1, q1_, .ref q5_)]) rfl (fun r_98 fr_98 H locs hp hMr_98 g => ?_)
                      refine lv_bipush (v := 44) hx hb dX2_readMemberHead_221 (by decide) ?_
                      have kb_44 : bd 44 44 (44 : Int32) := ⟨by decide, by decide⟩
                      refine lv_icmp_ne (tgt := 230) hx hb dX2_readMemberHead_223 (by decide) (fun c_99 => ?_) (fun c_99 => ?_)
                      · have fc_99 := neq_f c_99
                        refine lv_iconst (v := 0) hx hb dX2_readMemberHead_230 (by decide) ?_
                        refine lv_istore (lv' := [(6, .int 0), (7, .int v199_7), (5, .int x_12), (4, .int r_7), (2, .long r_6), (1, .int r_5), (0, .ref a0_)]) hx hb dX2_readMemberHead_231 hl (by decide) rfl (fun ls hl => ?_)
                        refine lv_iload hx hb dX2_readMemberHead_233 (lv_at hl 0 rfl) ?_
                        refine lv_if_eq (tgt := 245) hx hb dX2_readMemberHead_235 (by decide) (fun c_ => ?_) (fun c_ => absurd (by decide) c_)
                        have kb_1 : bd 1 1 (1 : Int32) := ⟨by decide, by decide⟩
                        obtain ⟨y_100, ey_100⟩ : ∃ z : Int32, z = v199_7 + 1 := ⟨_, rfl⟩
                        refine lv_iinc (v := y_100) (lv' := [(7, .int y_100), (6, .int 0), (5, .int x_12), (4, .int r_7), (2, .long r_6), (1, .int r_5), (0, .ref a0_)]) hx hb dX2_readMemberHead_245 hl (k := 1) rfl (by rw [ey_100]; rfl) (by decide) rfl (fun ls hl => ?_)
                        have ty_100 := add_bd ey_100 b_75 kb_1 (by decide)
                        have b_101 : bd 1 4 y_100 := add_rg ty_100 b_75 kb_1 (by decide)
                        refine lv_goto (tgt := 199) hx hb dX2_readMemberHead_248 (by decide) ?_
                        have hl9 := lv_sub hl [0, 1, 2, 3, 4, 5, 6] (by rfl : lv_pick [(7, .int y_100), (6, .int 0), (5, .int x_12), (4, .int r_7), (2, .long r_6), (1, .int r_5), (0, .ref a0_)] [0, 1, 2, 3, 4, 5, 6] = [(7, .int y_100), (6, .int 0), (5, .int x_12), (4, .int r_7), (2, .long r_6), (1, .int r_5), (0, .ref a0_)])
                        have g9 := g.sub (fx' := [(8, 6, q0_, .int x_95), (2, 6, a0_, .int 0), (9, 8, q3_, .int x_25), (2, 5, a0_, .ref a_27), (7, 3, q2_, .int x_28), (5, 2, q1_, .int x_21), (7, 2, q2_, .ref a_18), (9, 9, q3_, .ref a_11), (2, 0, a0_, .ref q0_), (2, 1, a0_, .ref q1_), (2, 3, a0_, .ref q2_), (2, 4, a0_, .ref q3_), (5, 1, q1_, .ref q5_)]) [0, 1, 2, 3, 4, 5, 6, 7, 8, 9, 10, 11, 12] rfl
                        exact ih199  y_100 0 x_95 (bd_sub b_101 (by decide)) (bd_sub kb_0 (by decide)) h_96 (by have h9_0 := b_101; unfold bd at h9_0; have h9_1 := bv199_6; unfold bd at h9_1; have h9_2 := bv199_7; unfold bd at h9_2; have h9_3 := bw199_8_6_q0_; unfold bd at h9_3; have h9_4 := h_96; unfold bd at h9_4; have h9_5 := kb_0; unfold bd at h9_5; have h9_6 := kb_1; unfold bd at h9_6; have h9_7 := kb_3; unfold bd at h9_7; have h9_8 := kb_41; unfold bd at h9_8; have h9_9 := kb_44; unfold bd at h9_9; have h9_10 := kb_m1; unfold bd at h9_10; omega) _ _ _ _ g9  hl9
                      · have fc_99 := eq_f c_99
                        have b_102 : bd 44 44 r_98 := eqX fc_99 (bdT r_98) kb_44 (by decide)
                        refine lv_iconst (v := 1) hx hb dX2_readMemberHead_226 (by decide) ?_
                        refine lv_goto (tgt := 231) hx hb dX2_readMemberHead_227 (by decide) ?_
                        refine lv_istore (lv' := [(6, .int 1), (7, .int v199_7), (5, .int x_12), (4, .int r_7), (2, .long r_6), (1, .int r_5), (0, .ref a0_)]) hx hb dX2_readMemberHead_231 hl (by decide) rfl (fun ls hl => ?_)
                        refine lv_iload hx hb dX2_readMemberHead_233 (lv_at hl 0 rfl) ?_
                        refine lv_if_eq (tgt := 245) hx hb dX2_readMemberHead_235 (by decide) (fun c_ => absurd c_ (by decide)) (fun c_ => ?_)
                        refine lv_aload_n hx hb dX2_readMemberHead_238 rfl (lv_at hl 6 rfl) ?_
                        refine g_getk (C := RX2) (T := TX2) (N := 16) hx hb hts (mc_ inX2) hown hK g rfl 0 (by decide) rfl (hts _ (List.mem_cons_of_mem _ t_416)) (fun _ h9 => h9) 8 rfl dX2_readMemberHead_239 ?_
                        refine g_callv (va_runV (As := []) (rest := []) ⟨hx, hb, hml, hown, hts⟩ (r_X8_next l dC dI L kd tys fr_98 H.size g.2.2.2.1 q0_ mq0_ kq0_) (cwV 0 hts (gV_ t_1131 t_1103 t_1104 t_184 t_1105) rfl rfl rfl (by decide +kernel) ⟨(Nat.le_of_ble_eq_true rfl), (Nat.le_of_ble_eq_true rfl)⟩) (pre3V g hK mq0_ kq0_ (by decide) (q := (RX8, TX8, 10)) rfl) rfl rfl hl.1 rfl (lv_room (Nat.le_of_ble_eq_true rfl)) dX2_readMemberHead_242 ⟨(Nat.le_of_ble_eq_true rfl), (Nat.le_of_ble_eq_true rfl)⟩) g hK (by decide) (by decide) (fx' := [(2, 6, a0_, .int 0), (9, 8, q3_, .int x_25), (2, 5, a0_, .ref a_27), (7, 3, q2_, .int x_28), (5, 2, q1_, .int x_21), (7, 2, q2_, .ref a_18), (9, 9, q3_, .ref a_11), (2, 0, a0_, .ref q0_), (2, 1, a0_, .ref q1_), (2, 3, a0_, .ref q2_), (2, 4, a0_, .ref q3_), (5, 1, q1_, .ref q5_)]) rfl (fun fr_103 H locs hp hMr_103 g => ?_)
                        obtain ⟨x_104, h_105, hF_106⟩ := hp
                        have g := g.more hF_106
                        have kb_1 : bd 1 1 (1 : Int32) := ⟨by decide, by decide⟩
                        obtain ⟨y_107, ey_107⟩ : ∃ z : Int32, z = v199_7 + 1 := ⟨_, rfl⟩
                        refine lv_iinc (v := y_107) (lv' := [(7, .int y_107), (6, .int 1), (5, .int x_12), (4, .int r_7), (2, .long r_6), (1, .int r_5), (0, .ref a0_)]) hx hb dX2_readMemberHead_245 hl (k := 1) rfl (by rw [ey_107]; rfl) (by decide) rfl (fun ls hl => ?_)
                        have ty_107 := add_bd ey_107 b_75 kb_1 (by decide)
                        have b_108 : bd 1 4 y_107 := add_rg ty_107 b_75 kb_1 (by decide)
                        refine lv_goto (tgt := 199) hx hb dX2_readMemberHead_248 (by decide) ?_
                        have hl9 := lv_sub hl [0, 1, 2, 3, 4, 5, 6] (by rfl : lv_pick [(7, .int y_107), (6, .int 1), (5, .int x_12), (4, .int r_7), (2, .long r_6), (1, .int r_5), (0, .ref a0_)] [0, 1, 2, 3, 4, 5, 6] = [(7, .int y_107), (6, .int 1), (5, .int x_12), (4, .int r_7), (2, .long r_6), (1, .int r_5), (0, .ref a0_)])
                        have g9 := g.sub (fx' := [(8, 6, q0_, .int x_104), (2, 6, a0_, .int 0), (9, 8, q3_, .int x_25), (2, 5, a0_, .ref a_27), (7, 3, q2_, .int x_28), (5, 2, q1_, .int x_21), (7, 2, q2_, .ref a_18), (9, 9, q3_, .ref a_11), (2, 0, a0_, .ref q0_), (2, 1, a0_, .ref q1_), (2, 3, a0_, .ref q2_), (2, 4, a0_, .ref q3_), (5, 1, q1_, .ref q5_)]) [0, 1, 2, 3, 4, 5, 6, 7, 8, 9, 10, 11, 12] rfl
                        exact ih199  y_107 1 x_104 (bd_sub b_108 (by decide)) (bd_sub kb_1 (by decide)) h_105 (by have h9_0 := b_108; unfold bd at h9_0; have h9_1 := bv199_6; unfold bd at h9_1; have h9_2 := bv199_7; unfold bd at h9_2; have h9_3 := bw199_8_6_q0_; unfold bd at h9_3; have h9_4 := h_105; unfold bd at h9_4; have h9_5 := kb_0; unfold bd at h9_5; have h9_6 := kb_1; unfold bd at h9_6; have h9_7 := kb_3; unfold bd at h9_7; have h9_8 := kb_41; unfold bd at h9_8; have h9_9 := kb_44; unfold bd at h9_9; have h9_10 := kb_m1; unfold bd at h9_10; omega) _ _ _ _ g9  hl9
              have kb_0 : bd 0 0 (0 : Int32) := ⟨by decide, by decide⟩
              have kb_1 : bd 1 1 (1 : Int32) := ⟨by decide, by decide⟩
              have hl9 := lv_sub hl [0, 1, 2, 3, 4, 5, 6] (by rfl : lv_pick [(7, .int 0), (6, .int 1), (5, .int x_12), (4, .int r_7), (2, .long r_6), (1, .int r_5), (0, .ref a0_)] [0, 1, 2, 3, 4, 5, 6] = [(7, .int 0), (6, .int 1), (5, .int x_12), (4, .int r_7), (2, .long r_6), (1, .int r_5), (0, .ref a0_)])
              have g9 := g.sub (fx' := [(8, 6, q0_, .int x_36), (2, 6, a0_, .int 0), (9, 8, q3_, .int x_25), (2, 5, a0_, .ref a_27), (7, 3, q2_, .int x_28), (5, 2, q1_, .int x_21), (7, 2, q2_, .ref a_18), (9, 9, q3_, .ref a_11), (2, 0, a0_, .ref q0_), (2, 1, a0_, .ref q1_), (2, 3, a0_, .ref q2_), (2, 4, a0_, .ref q3_), (5, 1, q1_, .ref q5_)]) [0, 1, 2, 3, 4, 5, 6, 7, 8, 9, 10, 11, 12] rfl
              exact loop_57 (11) 0 1 x_36 (bd_sub kb_0 (by decide)) (bd_sub kb_1 (by decide)) h_37 (by have h9_0 := h_37; unfold bd at h9_0; have h9_1 := kb_0; unfold bd at h9_1; have h9_2 := kb_1; unfold bd at h9_2; have h9_3 := kb_3; unfold bd at h9_3; have h9_4 := kb_41; unfold bd at h9_4; have h9_5 := kb_m1; unfold bd at h9_5; omega) _ _ _ _ g9  hl9
          · have fc_23 := eq_f c_23
            have b_109 : bd 0 (-1) x_12 := eqX fc_23 bx_12 kb_m1 (by decide)
            exact bd_no b_109 (by decide)
        · have fc_22 := eq_f c_22
          refine lv_aload_n hx hb dX2_readMemberHead_111 rfl (lv_at hl 4 rfl) ?_
          refine g_getk (C := RX2) (T := TX2) (N := 16) hx hb hts (mc_ inX2) hown hK g rfl 0 (by decide) rfl (hts _ (List.mem_cons_of_mem _ t_416)) (fun _ h9 => h9) 5 rfl dX2_readMemberHead_112 ?_
          refine lv_iconst (v := 2) hx hb dX2_readMemberHead_115 (by decide) ?_
          refine lv_iload_n hx hb dX2_readMemberHead_116 rfl (lv_at hl 3 rfl) ?_
          have kb_2 : bd 2 2 (2 : Int32) := ⟨by decide, by decide⟩
          refine g_callv (va_runV (As := [.int 2, .int r_5]) (rest := []) ⟨hx, hb, hml, hown, hts⟩ (r_X8_fail_3 l dC dI L kd tys fr_13 H.size g.2.2.2.1 q0_ mq0_ kq0_ 2 kb_2 r_5 x_2 h_3 (g.fcts [4] rfl)) (cwV 2 hts (gV_ t_1122 t_1107 t_1108 t_184 t_1109) rfl rfl rfl (by decide +kernel) ⟨(Nat.le_of_ble_eq_true rfl), (Nat.le_of_ble_eq_true rfl)⟩) (pre3V g hK mq0_ kq0_ (by decide) (q := (RX8, TX8, 10)) rfl) rfl rfl hl.1 rfl (lv_room (Nat.le_of_ble_eq_true rfl)) dX2_readMemberHead_117 ⟨(Nat.le_of_ble_eq_true rfl), (Nat.le_of_ble_eq_true rfl)⟩) g hK (by decide) (by decide) (fx' := [(5, 2, q1_, .int x_21), (6, 2, a_19, .int x_20), (7, 2, q2_, .ref a_18), (9, 9, q3_, .ref a_11), (2, 0, a0_, .ref q0_), (2, 1, a0_, .ref q1_), (2, 3, a0_, .ref q2_), (2, 4, a0_, .ref q3_), (2, 5, a0_, .ref q4_), (5, 1, q1_, .ref q5_)]) rfl (fun fr_110 H locs hp hMr_110 g => ?_)
          obtain ⟨x_111, h_112, hF_113⟩ := hp
          have g := g.more hF_113
          refine lv_goto (tgt := 161) hx hb dX2_readMemberHead_120 (by decide) ?_
          refine lv_aload_n hx hb dX2_readMemberHead_161 rfl (lv_at hl 4 rfl) ?_
          refine g_getk (C := RX2) (T := TX2) (N := 16) hx hb hts (mc_ inX2) hown hK g rfl 0 (by decide) rfl (hts _ (List.mem_cons_of_mem _ t_416)) (fun _ h9 => h9) 6 rfl dX2_readMemberHead_162 ?_
          refine g_callv (va_runV (As := []) (rest := []) ⟨hx, hb, hml, hown, hts⟩ (r_X8_next l dC dI L kd tys fr_110 H.size g.2.2.2.1 q0_ mq0_ kq0_) (cwV 0 hts (gV_ t_1131 t_1103 t_1104 t_184 t_1105) rfl rfl rfl (by decide +kernel) ⟨(Nat.le_of_ble_eq_true rfl), (Nat.le_of_ble_eq_true rfl)⟩) (pre3V g hK mq0_ kq0_ (by decide) (q := (RX8, TX8, 10)) rfl) rfl rfl hl.1 rfl (lv_room (Nat.le_of_ble_eq_true rfl)) dX2_readMemberHead_165 ⟨(Nat.le_of_ble_eq_true rfl), (Nat.le_of_ble_eq_true rfl)⟩) g hK (by decide) (by decide) (fx' := [(8, 8, q0_, .int x_111), (5, 2, q1_, .int x_21), (6, 2, a_19, .int x_20), (7, 2, q2_, .ref a_18), (9, 9, q3_, .ref a_11), (2, 0, a0_, .ref q0_), (2, 1, a0_, .ref q1_), (2, 3, a0_, .ref q2_), (2, 4, a0_, .ref q3_), (2, 5, a0_, .ref q4_), (5, 1, q1_, .ref q5_)]) rfl (fun fr_114 H locs hp hMr_114 g => ?_)
          obtain ⟨x_115, h_116, hF_117⟩ := hp
          have g := g.more hF_117
          refine lv_aload_n hx hb dX2_readMemberHead_168 rfl (lv_at hl 4 rfl) ?_
          refine g_getk (C := RX2) (T := TX2) (N := 16) hx hb hts (mc_ inX2) hown hK g rfl 0 (by decide) rfl (hts _ (List.mem_cons_of_mem _ t_416)) (fun _ h9 => h9) 6 rfl dX2_readMemberHead_169 ?_
          refine lv_bipush (v := 40) hx hb dX2_readMemberHead_172 (by decide) ?_
          have gr_118 := g
          refine g_callv (va_runV (As := [.int 40]) (rest := []) ⟨hx, hb, hml, hown, hts⟩ (r_X8_take l dC dI L kd tys fr_114 H.size g.2.2.2.1 q0_ mq0_ kq0_ 40) (cwV 1 hts (gV_ t_1098 t_1099 t_1100 t_184 t_1101) rfl rfl rfl (by decide +kernel) ⟨(Nat.le_of_ble_eq_true rfl), (Nat.le_of_ble_eq_true rfl)⟩) (pre3V g hK mq0_ kq0_ (by decide) (q := (RX8, TX8, 10)) rfl) rfl rfl hl.1 rfl (lv_room (Nat.le_of_ble_eq_true rfl)) dX2_readMemberHead_174 ⟨(Nat.le_of_ble_eq_true rfl), (Nat.le_of_ble_eq_true rfl)⟩) g hK (by decide) (by decide) (fx' := [(5, 2, q1_, .int x_21), (6, 2, a_19, .int x_20), (7, 2, q2_, .ref a_18), (9, 9, q3_, .ref a_11), (2, 0, a0_, .ref q0_), (2, 1, a0_, .ref q1_), (2, 3, a0_, .ref q2_), (2, 4, a0_, .ref q3_), (2, 5, a0_, .ref q4_), (5, 1, q1_, .ref q5_)]) rfl (fun fr_118 H locs hp hMr_118 g => ?_)
          obtain ⟨x_119, bx_119, hFx_119⟩ := stk2 gr_118.2.2.2.2.1 hMr_118 g (by decide) 1 rfl h_112 (by decide)
          have g := g.more hFx_119
          obtain ⟨x_120, h_121, hF_122⟩ := hp
          have g := g.more hF_122
          refine lv_aload_n hx hb dX2_readMemberHead_177 rfl (lv_at hl 4 rfl) ?_
          refine g_getk (C := RX2) (T := TX2) (N := 16) hx hb hts (mc_ inX2) hown hK g rfl 0 (by decide) rfl (hts _ (List.mem_cons_of_mem _ t_416)) (fun _ h9 => h9) 6 rfl dX2_readMemberHead_178 ?_
          refine g_calli (va_runV (As := []) (rest := []) ⟨hx, hb, hml, hown, hts⟩ (r_X8_kind l dC dI L kd tys fr_118 H.size g.2.2.2.1 q0_ mq0_ kq0_) (cwV 0 hts (gV_ t_1118 t_1119 t_1120 t_184 t_1121) rfl rfl rfl (by decide +kernel) ⟨(Nat.le_of_ble_eq_true rfl), (Nat.le_of_ble_eq_true rfl)⟩) (pre3V g hK mq0_ kq0_ (by decide) (q := (RX8, TX8, 10)) rfl) rfl rfl hl.1 rfl (lv_room (Nat.le_of_ble_eq_true rfl)) dX2_readMemberHead_181 ⟨(Nat.le_of_ble_eq_true rfl), (Nat.le_of_ble_eq_true rfl)⟩) g hK (by decide) (by decide) (fx' := [(8, 6, q0_, .int x_120), (8, 8, q0_, .int x_119), (5, 2, q1_, .int x_21), (6, 2, a_19, .int x_20), (7, 2, q2_, .ref a_18), (9, 9, q3_, .ref a_11), (2, 0, a0_, .ref q0_), (2, 1, a0_, .ref q1_), (2, 3, a0_, .ref q2_), (2, 4, a0_, .ref q3_), (2, 5, a0_, .ref q4_), (5, 1, q1_, .ref q5_)]) rfl (fun r_123 fr_123 H locs hp hMr_123 g => ?_)
          refine lv_bipush (v := 41) hx hb dX2_readMemberHead_184 (by decide) ?_
          have kb_41 : bd 41 41 (41 : Int32) := ⟨by decide, by decide⟩
          refine lv_icmp_eq (tgt := 193) hx hb dX2_readMemberHead_186 (by decide) (fun c_124 => ?_) (fun c_124 => ?_)
          · have fc_124 := eq_f c_124
            have b_125 : bd 41 41 r_123 := eqX fc_124 (bdT r_123) kb_41 (by decide)
            refine lv_iconst (v := 0) hx hb dX2_readMemberHead_193 (by decide) ?_
            refine lv_istore (lv' := [(6, .int 0), (5, .int x_12), (4, .int r_7), (2, .long r_6), (1, .int r_5), (0, .ref a0_)]) hx hb dX2_readMemberHead_194 hl (by decide) rfl (fun ls hl => ?_)
            refine lv_iconst (v := 0) hx hb dX2_readMemberHead_196 (by decide) ?_
            refine lv_istore (lv' := [(7, .int 0), (6, .int 0), (5, .int x_12), (4, .int r_7), (2, .long r_6), (1, .int r_5), (0, .ref a0_)]) hx hb dX2_readMemberHead_197 hl (by decide) rfl (fun ls hl => ?_)
            refine lv_iload hx hb dX2_readMemberHead_199 (lv_at hl 0 rfl) ?_
            refine lv_iconst (v := 3) hx hb dX2_readMemberHead_201 (by decide) ?_
            refine lv_icmp_gt (tgt := 251) hx hb dX2_readMemberHead_202 (by decide) (fun c_ => absurd c_ (by decide)) (fun c_ => ?_)
            refine lv_iload hx hb dX2_readMemberHead_205 (lv_at hl 1 rfl) ?_
            refine lv_if_eq (tgt := 251) hx hb dX2_readMemberHead_207 (by decide) (fun c_ => ?_) (fun c_ => absurd (by decide) c_)
            refine lv_aload_n hx hb dX2_readMemberHead_251 rfl (lv_at hl 6 rfl) ?_
            refine g_getk (C := RX2) (T := TX2) (N := 16) hx hb hts (mc_ inX2) hown hK g rfl 0 (by decide) rfl (hts _ (List.mem_cons_of_mem _ t_416)) (fun _ h9 => h9) 6 rfl dX2_readMemberHead_252 ?_
            refine g_calli (va_runV (As := []) (rest := []) ⟨hx, hb, hml, hown, hts⟩ (r_X8_place l dC dI L kd tys fr_123 H.size g.2.2.2.1 q0_ mq0_ kq0_) (cwV 0 hts (gV_ t_1110 t_1111 t_1112 t_184 t_1113) rfl rfl rfl (by decide +kernel) ⟨(Nat.le_of_ble_eq_true rfl), (Nat.le_of_ble_eq_true rfl)⟩) (pre3V g hK mq0_ kq0_ (by decide) (q := (RX8, TX8, 10)) rfl) rfl rfl hl.1 rfl (lv_room (Nat.le_of_ble_eq_true rfl)) dX2_readMemberHead_255 ⟨(Nat.le_of_ble_eq_true rfl), (Nat.le_of_ble_eq_true rfl)⟩) g hK (by decide) (by decide) (fx' := [(8, 6, q0_, .int x_120), (8, 8, q0_, .int x_119), (5, 2, q1_, .int x_21), (6, 2, a_19, .int x_20), (7, 2, q2_, .ref a_18), (9, 9, q3_, .ref a_11), (2, 0, a0_, .ref q0_), (2, 1, a0_, .ref q1_), (2, 3, a0_, .ref q2_), (2, 4, a0_, .ref q3_), (2, 5, a0_, .ref q4_), (5, 1, q1_, .ref q5_)]) rfl (fun r_126 fr_126 H locs hp hMr_126 g => ?_)
            refine lv_istore (lv' := [(7, .int r_126), (6, .int 0), (5, .int x_12), (4, .int r_7), (2, .long r_6), (1, .int r_5), (0, .ref a0_)]) hx hb dX2_readMemberHead_258 hl (by decide) rfl (fun ls hl => ?_)
            refine lv_aload_n hx hb dX2_readMemberHead_260 rfl (lv_at hl 6 rfl) ?_
            refine g_getk (C := RX2) (T := TX2) (N := 16) hx hb hts (mc_ inX2) hown hK g rfl 0 (by decide) rfl (hts _ (List.mem_cons_of_mem _ t_416)) (fun _ h9 => h9) 6 rfl dX2_readMemberHead_261 ?_
            refine lv_bipush (v := 41) hx hb dX2_readMemberHead_264 (by decide) ?_
            have gr_127 := g
            refine g_callv (va_runV (As := [.int 41]) (rest := []) ⟨hx, hb, hml, hown, hts⟩ (r_X8_take l dC dI L kd tys fr_126 H.size g.2.2.2.1 q0_ mq0_ kq0_ 41) (cwV 1 hts (gV_ t_1098 t_1099 t_1100 t_184 t_1101) rfl rfl rfl (by decide +kernel) ⟨(Nat.le_of_ble_eq_true rfl), (Nat.le_of_ble_eq_true rfl)⟩) (pre3V g hK mq0_ kq0_ (by decide) (q := (RX8, TX8, 10)) rfl) rfl rfl hl.1 rfl (lv_room (Nat.le_of_ble_eq_true rfl)) dX2_readMemberHead_266 ⟨(Nat.le_of_ble_eq_true rfl), (Nat.le_of_ble_eq_true rfl)⟩) g hK (by decide) (by decide) (fx' := [(5, 2, q1_, .int x_21), (6, 2, a_19, .int x_20), (7, 2, q2_, .ref a_18), (9, 9, q3_, .ref a_11), (2, 0, a0_, .ref q0_), (2, 1, a0_, .ref q1_), (2, 3, a0_, .ref q2_), (2, 4, a0_, .ref q3_), (2, 5, a0_, .ref q4_), (5, 1, q1_, .ref q5_)]) rfl (fun fr_127 H locs hp hMr_127 g => ?_)
            obtain ⟨x_128, bx_128, hFx_128⟩ := stk2 gr_127.2.2.2.2.1 hMr_127 g (by decide) 1 rfl bx_119 (by decide)
            have g := g.more hFx_128
            obtain ⟨x_129, h_130, hF_131⟩ := hp
            have g := g.more hF_131
            refine lv_iload hx hb dX2_readMemberHead_269 (lv_at hl 2 rfl) ?_
            refine lv_iconst (v := (-1)) hx hb dX2_readMemberHead_271 (by decide) ?_
            refine lv_icmp_eq (tgt := 308) hx hb dX2_readMemberHead_272 (by decide) (fun c_132 => ?_) (fun c_132 => ?_)
            · have fc_132 := eq_f c_132
              have b_133 : bd 0 (-1) x_12 := eqX fc_132 bx_12 kb_m1 (by decide)
              exact bd_no b_133 (by decide)
            · have fc_132 := neq_f c_132
              refine lv_aload_n hx hb dX2_readMemberHead_275 rfl (lv_at hl 6 rfl) ?_
              refine g_getk (C := RX2) (T := TX2) (N := 16) hx hb hts (mc_ inX2) hown hK g rfl 3 (by decide) rfl (hts _ (List.mem_cons_of_mem _ t_419)) (fun _ h9 => h9) 8 rfl dX2_readMemberHead_276 ?_
              refine g_getk (C := RX7) (T := TX7) (N := 19) hx hb hts (mc_ inX7) hown hK g rfl 2 (by decide) rfl (hts _ (List.mem_cons_of_mem _ t_630)) (fun _ h9 => h9) 4 rfl dX2_readMemberHead_279 ?_
              refine lv_iload hx hb dX2_readMemberHead_282 (lv_at hl 2 rfl) ?_
              refine g_aald hx hb hK g ma_18 ka_18 (by decide) rfl (by decide) (in_bd bx_12 (by decide)) dX2_readMemberHead_284 (fun a_134 ma_134 ua_134 wa_134 => ?_)
              have ka_134 : kd a_134 = 6 := by omega
              refine g_geti (C := RX6) (T := TX6) (N := 13) hx hb hts (mc_ inX6) hown hK g ma_134 ka_134 (by decide) rfl 3 (by decide) rfl (hts _ (List.mem_cons_of_mem _ t_568)) (fun _ h9 => h9) rfl dX2_readMemberHead_285 (fun x_135 bx_135 g => ?_)
              refine lv_aload_n hx hb dX2_readMemberHead_288 rfl (lv_at hl 6 rfl) ?_
              refine g_getk (C := RX2) (T := TX2) (N := 16) hx hb hts (mc_ inX2) hown hK g rfl 5 (by decide) rfl (hts _ (List.mem_cons_of_mem _ t_421)) (fun _ h9 => h9) 11 rfl dX2_readMemberHead_289 ?_
              refine g_geti (C := RX6) (T := TX6) (N := 13) hx hb hts (mc_ inX6) hown hK g mq4_ kq4_ (by decide) rfl 3 (by decide) rfl (hts _ (List.mem_cons_of_mem _ t_568)) (fun _ h9 => h9) rfl dX2_readMemberHead_292 (fun x_136 bx_136 g => ?_)
              refine lv_icmp_eq (tgt := 308) hx hb dX2_readMemberHead_295 (by decide) (fun c_137 => ?_) (fun c_137 => ?_)
              · have fc_137 := eq_f c_137
                subst hQ
                exact W.vret hx hb hr (fun t ht hW => ⟨⟨_, rfl, ⟨x_129, h_130, q4_, ⟨mq4_, kq4_⟩, (g.fcts [2, 12] rfl)⟩, q3_of g hK ht hW⟩, g.2.2.1.F ht⟩) g.2.2.1.2.2 dX2_readMemberHead_308
              · have fc_137 := neq_f c_137
                refine lv_aload_n hx hb dX2_readMemberHead_298 rfl (lv_at hl 6 rfl) ?_
                refine g_getk (C := RX2) (T := TX2) (N := 16) hx hb hts (mc_ inX2) hown hK g rfl 0 (by decide) rfl (hts _ (List.mem_cons_of_mem _ t_416)) (fun _ h9 => h9) 8 rfl dX2_readMemberHead_299 ?_
                refine lv_iconst (v := 5) hx hb dX2_readMemberHead_302 (by decide) ?_
                refine lv_iload hx hb dX2_readMemberHead_303 (lv_at hl 0 rfl) ?_
                have kb_5 : bd 5 5 (5 : Int32) := ⟨by decide, by decide⟩
                refine g_callv (va_runV (As := [.int 5, .int r_126]) (rest := []) ⟨hx, hb, hml, hown, hts⟩ (r_X8_fail_15 l dC dI L kd tys fr_127 H.size g.2.2.2.1 q0_ mq0_ kq0_ 5 kb_5 r_126 x_129 h_130 x_128 bx_128 (g.fcts [2, 3] rfl)) (cwV 2 hts (gV_ t_1122 t_1107 t_1108 t_184 t_1109) rfl rfl rfl (by decide +kernel) ⟨(Nat.le_of_ble_eq_true rfl), (Nat.le_of_ble_eq_true rfl)⟩) (pre3V g hK mq0_ kq0_ (by decide) (q := (RX8, TX8, 10)) rfl) rfl rfl hl.1 rfl (lv_room (Nat.le_of_ble_eq_true rfl)) dX2_readMemberHead_305 ⟨(Nat.le_of_ble_eq_true rfl), (Nat.le_of_ble_eq_true rfl)⟩) g hK (by decide) (by decide) (fx' := [(6, 3, q4_, .int x_136), (6, 3, a_134, .int x_135), (8, 8, q0_, .int x_128), (5, 2, q1_, .int x_21), (6, 2, a_19, .int x_20), (7, 2, q2_, .ref a_18), (9, 9, q3_, .ref a_11), (2, 0, a0_, .ref q0_), (2, 1, a0_, .ref q1_), (2, 3, a0_, .ref q2_), (2, 4, a0_, .ref q3_), (2, 5, a0_, .ref q4_), (5, 1, q1_, .ref q5_)]) rfl (fun fr_138 H locs hp hMr_138 g => ?_)
                have hF_139 := hp
                have g := g.more hF_139
                have kb_1201 : bd 1201 1201 (1201 : Int32) := ⟨by decide, by decide⟩
                subst hQ
                exact W.vret hx hb hr (fun t ht hW => ⟨⟨_, rfl, ⟨1201, (bd_sub kb_1201 (by decide)), q4_, ⟨mq4_, kq4_⟩, (g.fcts [0, 12] rfl)⟩, q3_of g hK ht hW⟩, g.2.2.1.F ht⟩) g.2.2.1.2.2 dX2_readMemberHead_308
          · have fc_124 := neq_f c_124
            refine lv_iconst (v := 1) hx hb dX2_readMemberHead_189 (by decide) ?_
            refine lv_goto (tgt := 194) hx hb dX2_readMemberHead_190 (by decide) ?_
            refine lv_istore (lv' := [(6, .int 1), (5, .int x_12), (4, .int r_7), (2, .long r_6), (1, .int r_5), (0, .ref a0_)]) hx hb dX2_readMemberHead_194 hl (by decide) rfl (fun ls hl => ?_)
            refine lv_iconst (v := 0) hx hb dX2_readMemberHead_196 (by decide) ?_
            refine lv_istore (lv' := [(7, .int 0), (6, .int 1), (5, .int x_12), (4, .int r_7), (2, .long r_6), (1, .int r_5), (0, .ref a0_)]) hx hb dX2_readMemberHead_197 hl (by decide) rfl (fun ls hl => ?_)
            have loop_140 : ∀ (n : Nat) (v199_7 : Int32) (v199_6 : Int32) (w199_8_6_q0_ : Int32) (w199_8_8_q0_ : Int32), bd 0 4 v199_7 → bd 0 1 v199_6 → bd 1 1201 w199_8_6_q0_ → bd 1 7 w199_8_8_q0_ → (4 - v199_7.toInt < (n : Int)) → ∀ (f : Nat → va_E) (H : Heap) (locs : List Loc) (ls : Array Slot), G3 (dC, dI) L kd tys s f0 [(2, 5), (2, 6), (5, 4), (6, 0), (6, 1), (6, 2), (6, 3), (6, 6), (6, 7), (6, 8), (6, 9), (6, 10), (6, 11), (6, 12), (7, 3), (8, 6), (8, 8), (8, 9), (9, 8)] [132, 134, 135, 156] f H locs [(8, 6, q0_, .int w199_8_6_q0_), (8, 8, q0_, .int w199_8_8_q0_), (5, 2, q1_, .int x_21), (6, 2, a_19, .int x_20), (7, 2, q2_, .ref a_18), (9, 9, q3_, .ref a_11), (2, 0, a0_, .ref q0_), (2, 1, a0_, .ref q1_), (2, 3, a0_, .ref q2_), (2, 4, a0_, .ref q3_), (2, 5, a0_, .ref q4_), (5, 1, q1_, .ref q5_)] → lv_has ls 8 [(7, .int v199_7), (6, .int v199_6), (5, .int x_12), (4, .int r_7), (2, .long r_6), (1, .int r_5), (0, .ref a0_)] → W p l e ({ frames := 3, cells := 0, slots := 0, locals := 72 } : Room) s m [.ref a0_].toArray below meth c H locs 0 0 Q (F0 m 199 ls []) := by
              intro n199
              induction n199 with
              | zero =>
                intro v199_7 v199_6 w199_8_6_q0_ w199_8_8_q0_ bv199_7 bv199_6 bw199_8_6_q0_ bw199_8_8_q0_ hm199 f H locs ls g  hl
                exact absurd hm199 (by have h9_v199_7 := bv199_7; unfold bd at h9_v199_7; have h9_v199_6 := bv199_6; unfold bd at h9_v199_6; have h9_w199_8_6_q0_ := bw199_8_6_q0_; unfold bd at h9_w199_8_6_q0_; have h9_w199_8_8_q0_ := bw199_8_8_q0_; unfold bd at h9_w199_8_8_q0_; omega)
              | succ n199 ih199 =>
                intro v199_7 v199_6 w199_8_6_q0_ w199_8_8_q0_ bv199_7 bv199_6 bw199_8_6_q0_ bw199_8_8_q0_ hm199 f H locs ls g  hl
                refine lv_iload hx hb dX2_readMemberHead_199 (lv_at hl 0 rfl) ?_
                refine lv_iconst (v := 3) hx hb dX2_readMemberHead_201 (by decide) ?_
                refine lv_icmp_gt (tgt := 251) hx hb dX2_readMemberHead_202 (by decide) (fun c_141 => ?_) (fun c_141 => ?_)
                · have fc_141 := lt_f c_141
                  have b_142 : bd 4 4 v199_7 := ltR fc_141 kb_3 bv199_7 (by decide)
                  refine lv_aload_n hx hb dX2_readMemberHead_251 rfl (lv_at hl 6 rfl) ?_
                  refine g_getk (C := RX2) (T := TX2) (N := 16) hx hb hts (mc_ inX2) hown hK g rfl 0 (by decide) rfl (hts _ (List.mem_cons_of_mem _ t_416)) (fun _ h9 => h9) 6 rfl dX2_readMemberHead_252 ?_
                  refine g_calli (va_runV (As := []) (rest := []) ⟨hx, hb, hml, hown, hts⟩ (r_X8_place l dC dI L kd tys f H.size g.2.2.2.1 q0_ mq0_ kq0_) (cwV 0 hts (gV_ t_1110 t_1111 t_1112 t_184 t_1113) rfl rfl rfl (by decide +kernel) ⟨(Nat.le_of_ble_eq_true rfl), (Nat.le_of_ble_eq_true rfl)⟩) (pre3V g hK mq0_ kq0_ (by decide) (q := (RX8, TX8, 10)) rfl) rfl rfl hl.1 rfl (lv_room (Nat.le_of_ble_eq_true rfl)) dX2_readMemberHead_255 ⟨(Nat.le_of_ble_eq_true rfl), (Nat.le_of_ble_eq_true rfl)⟩) g hK (by decide) (by decide) (fx' := [(8, 6, q0_, .int w199_8_6_q0_), (8, 8, q0_, .int w199_8_8_q0_), (5, 2, q1_, .int x_21), (6, 2, a_19, .int x_20), (7, 2, q2_, .ref a_18), (9, 9, q3_, .ref a_11), (2, 0, a0_, .ref q0_), (2, 1, a0_, .ref q1_), (2, 3, a0_, .ref q2_), (2, 4, a0_, .ref q3_), (2, 5, a0_, .ref q4_), (5, 1, q1_, .ref q5_)]) rfl (fun r_143 fr_143 H locs hp hMr_143 g => ?_)
                  refine lv_istore (lv' := [(7, .int r_143), (6, .int v199_6), (5, .int x_12), (4, .int r_7), (2, .long r_6), (1, .int r_5), (0, .ref a0_)]) hx hb dX2_readMemberHead_258 hl (by decide) rfl (fun ls hl => ?_)
                  refine lv_aload_n hx hb dX2_readMemberHead_260 rfl (lv_at hl 6 rfl) ?_
                  refine g_getk (C := RX2) (T := TX2) (N := 16) hx hb hts (mc_ inX2) hown hK g rfl 0 (by decide) rfl (hts _ (List.mem_cons_of_mem _ t_416)) (fun _ h9 => h9) 6 rfl dX2_readMemberHead_261 ?_
                  refine lv_bipush (v := 41) hx hb dX2_readMemberHead_264 (by decide) ?_
                  have gr_144 := g
                  refine g_callv (va_runV (As := [.int 41]) (rest := []) ⟨hx, hb, hml, hown, hts⟩ (r_X8_take l dC dI L kd tys fr_143 H.size g.2.2.2.1 q0_ mq0_ kq0_ 41) (cwV 1 hts (gV_ t_1098 t_1099 t_1100 t_184 t_1101) rfl rfl rfl (by decide +kernel) ⟨(Nat.le_of_ble_eq_true rfl), (Nat.le_of_ble_eq_true rfl)⟩) (pre3V g hK mq0_ kq0_ (by decide) (q := (RX8, TX8, 10)) rfl) rfl rfl hl.1 rfl (lv_room (Nat.le_of_ble_eq_true rfl)) dX2_readMemberHead_266 ⟨(Nat.le_of_ble_eq_true rfl), (Nat.le_of_ble_eq_true rfl)⟩) g hK (by decide) (by decide) (fx' := [(5, 2, q1_, .int x_21), (6, 2, a_19, .int x_20), (7, 2, q2_, .ref a_18), (9, 9, q3_, .ref a_11), (2, 0, a0_, .ref q0_), (2, 1, a0_, .ref q1_), (2, 3, a0_, .ref q2_), (2, 4, a0_, .ref q3_), (2, 5, a0_, .ref q4_), (5, 1, q1_, .ref q5_)]) rfl (fun fr_144 H locs hp hMr_144 g => ?_)
                  obtain ⟨x_145, bx_145, hFx_145⟩ := stk2 gr_144.2.2.2.2.1 hMr_144 g (by decide) 1 rfl bw199_8_8_q0_ (by decide)
                  have g := g.more hFx_145
                  obtain ⟨x_146, h_147, hF_148⟩ := hp
                  have g := g.more hF_148
                  refine lv_iload hx hb dX2_readMemberHead_269 (lv_at hl 2 rfl) ?_
                  refine lv_iconst (v := (-1)) hx hb dX2_readMemberHead_271 (by decide) ?_
                  refine lv_icmp_eq (tgt := 308) hx hb dX2_readMemberHead_272 (by decide) (fun c_149 => ?_) (fun c_149 => ?_)
                  · have fc_149 := eq_f c_149
                    have b_150 : bd 0 (-1) x_12 := eqX fc_149 bx_12 kb_m1 (by decide)
                    exact bd_no b_150 (by decide)
                  · have fc_149 := neq_f c_149
                    refine lv_aload_n hx hb dX2_readMemberHead_275 rfl (lv_at hl 6 rfl) ?_
                    refine g_getk (C := RX2) (T := TX2) (N := 16) hx hb hts (mc_ inX2) hown hK g rfl 3 (by decide) rfl (hts _ (List.mem_cons_of_mem _ t_419)) (fun _ h9 => h9) 8 rfl dX2_readMemberHead_276 ?_
                    refine g_getk (C := RX7) (T := TX7) (N := 19) hx hb hts (mc_ inX7) hown hK g rfl 2 (by decide) rfl (hts _ (List.mem_cons_of_mem _ t_630)) (fun _ h9 => h9) 4 rfl dX2_readMemberHead_279 ?_
                    refine lv_iload hx hb dX2_readMemberHead_282 (lv_at hl 2 rfl) ?_
                    refine g_aald hx hb hK g ma_18 ka_18 (by decide) rfl (by decide) (in_bd bx_12 (by decide)) dX2_readMemberHead_284 (fun a_151 ma_151 ua_151 wa_151 => ?_)
                    have ka_151 : kd a_151 = 6 := by omega
                    refine g_geti (C := RX6) (T := TX6) (N := 13) hx hb hts (mc_ inX6) hown hK g ma_151 ka_151 (by decide) rfl 3 (by decide) rfl (hts _ (List.mem_cons_of_mem _ t_568)) (fun _ h9 => h9) rfl dX2_readMemberHead_285 (fun x_152 bx_152 g => ?_)
                    refine lv_aload_n hx hb dX2_readMemberHead_288 rfl (lv_at hl 6 rfl) ?_
                    refine g_getk (C := RX2) (T := TX2) (N := 16) hx hb hts (mc_ inX2) hown hK g rfl 5 (by decide) rfl (hts _ (List.mem_cons_of_mem _ t_421)) (fun _ h9 => h9) 11 rfl dX2_readMemberHead_289 ?_
                    refine g_geti (C := RX6) (T := TX6) (N := 13) hx hb hts (mc_ inX6) hown hK g mq4_ kq4_ (by decide) rfl 3 (by decide) rfl (hts _ (List.mem_cons_of_mem _ t_568)) (fun _ h9 => h9) rfl dX2_readMemberHead_292 (fun x_153 bx_153 g => ?_)
                    refine lv_icmp_eq (tgt := 308) hx hb dX2_readMemberHead_295 (by decide) (fun c_154 => ?_) (fun c_154 => ?_)
                    · have fc_154 := eq_f c_154
                      subst hQ
                      exact W.vret hx hb hr (fun t ht hW => ⟨⟨_, rfl, ⟨x_146, h_147, q4_, ⟨mq4_, kq4_⟩, (g.fcts [2, 12] rfl)⟩, q3_of g hK ht hW⟩, g.2.2.1.F ht⟩) g.2.2.1.2.2 dX2_readMemberHead_308
                    · have fc_154 := neq_f c_154
                      refine lv_aload_n hx hb dX2_readMemberHead_298 rfl (lv_at hl 6 rfl) ?_
                      refine g_getk (C := RX2) (T := TX2) (N := 16) hx hb hts (mc_ inX2) hown hK g rfl 0 (by decide) rfl (hts _ (List.mem_cons_of_mem _ t_416)) (fun _ h9 => h9) 8 rfl dX2_readMemberHead_299 ?_
                      refine lv_iconst (v := 5) hx hb dX2_readMemberHead_302 (by decide) ?_
                      refine lv_iload hx hb dX2_readMemberHead_303 (lv_at hl 0 rfl) ?_
                      have kb_5 : bd 5 5 (5 : Int32) := ⟨by decide, by decide⟩
                      refine g_callv (va_runV (As := [.int 5, .int r_143]) (rest := []) ⟨hx, hb, hml, hown, hts⟩ (r_X8_fail_15 l dC dI L kd tys fr_144 H.size g.2.2.2.1 q0_ mq0_ kq0_ 5 kb_5 r_143 x_146 h_147 x_145 bx_145 (g.fcts [2, 3] rfl)) (cwV 2 hts (gV_ t_1122 t_1107 t_1108 t_184 t_1109) rfl rfl rfl (by decide +kernel) ⟨(Nat.le_of_ble_eq_true rfl), (Nat.le_of_ble_eq_true rfl)⟩) (pre3V g hK mq0_ kq0_ (by decide) (q := (RX8, TX8, 10)) rfl) rfl rfl hl.1 rfl (lv_room (Nat.le_of_ble_eq_true rfl)) dX2_readMemberHead_305 ⟨(Nat.le_of_ble_eq_true rfl), (Nat.le_of_ble_eq_true rfl)⟩) g hK (by decide) (by decide) (fx' := [(6, 3, q4_, .int x_153), (6, 3, a_151, .int x_152), (8, 8, q0_, .int x_145), (5, 2, q1_, .int x_21), (6, 2, a_19, .int x_20), (7, 2, q2_, .ref a_18), (9, 9, q3_, .ref a_11), (2, 0, a0_, .ref q0_), (2, 1, a0_, .ref q1_), (2, 3, a0_, .ref q2_), (2, 4, a0_, .ref q3_), (2, 5, a0_, .ref q4_), (5, 1, q1_, .ref q5_)]) rfl (fun fr_155 H locs hp hMr_155 g => ?_)
                      have hF_156 := hp
                      have g := g.more hF_156
                      have kb_1201 : bd 1201 1201 (1201 : Int32) := ⟨by decide, by decide⟩
                      subst hQ
                      exact W.vret hx hb hr (fun t ht hW => ⟨⟨_, rfl, ⟨1201, (bd_sub kb_1201 (by decide)), q4_, ⟨mq4_, kq4_⟩, (g.fcts [0, 12] rfl)⟩, q3_of g hK ht hW⟩, g.2.2.1.F ht⟩) g.2.2.1.2.2 dX2_readMemberHead_308
                · have fc_141 := nlt_f c_141
                  have b_157 : bd 0 3 v199_7 := leL fc_141 bv199_7 kb_3 (by decide)
                  refine lv_iload hx hb dX2_readMemberHead_205 (lv_at hl 1 rfl) ?_
                  have kb_0 : bd 0 0 (0 : Int32) := ⟨by decide, by decide⟩
                  refine lv_if_eq (tgt := 251) hx hb dX2_readMemberHead_207 (by decide) (fun c_158 => ?_) (fun c_158 => ?_)
                  · have fc_158 := eq_f c_158
                    have b_159 : bd 0 0 v199_6 := eqX fc_158 bv199_6 kb_0 (by decide)
                    refine lv_aload_n hx hb dX2_readMemberHead_251 rfl (lv_at hl 6 rfl) ?_
                    refine g_getk (C := RX2) (T := TX2) (N := 16) hx hb hts (mc_ inX2) hown hK g rfl 0 (by decide) rfl (hts _ (List.mem_cons_of_mem _ t_416)) (fun _ h9 => h9) 6 rfl dX2_readMemberHead_252 ?_
                    refine g_calli (va_runV (As := []) (rest := []) ⟨hx, hb, hml, hown, hts⟩ (r_X8_place l dC dI L kd tys f H.size g.2.2.2.1 q0_ mq0_ kq0_) (cwV 0 hts (gV_ t_1110 t_1111 t_1112 t_184 t_1113) rfl rfl rfl (by decide +kernel) ⟨(Nat.le_of_ble_eq_true rfl), (Nat.le_of_ble_eq_true rfl)⟩) (pre3V g hK mq0_ kq0_ (by decide) (q := (RX8, TX8, 10)) rfl) rfl rfl hl.1 rfl (lv_room (Nat.le_of_ble_eq_true rfl)) dX2_readMemberHead_255 ⟨(Nat.le_of_ble_eq_true rfl), (Nat.le_of_ble_eq_true rfl)⟩) g hK (by decide) (by decide) (fx' := [(8, 6, q0_, .int w199_8_6_q0_), (8, 8, q0_, .int w199_8_8_q0_), (5, 2, q1_, .int x_21), (6, 2, a_19, .int x_20), (7, 2, q2_, .ref a_18), (9, 9, q3_, .ref a_11), (2, 0, a0_, .ref q0_), (2, 1, a0_, .ref q1_), (2, 3, a0_, .ref q2_), (2, 4, a0_, .ref q3_), (2, 5, a0_, .ref q4_), (5, 1, q1_, .ref q5_)]) rfl (fun r_160 fr_160 H locs hp hMr_160 g => ?_)
                    refine lv_istore (lv' := [(7, .int r_160), (6, .int v199_6), (5, .int x_12), (4, .int r_7), (2, .long r_6), (1, .int r_5), (0, .ref a0_)]) hx hb dX2_readMemberHead_258 hl (by decide) rfl (fun ls hl => ?_)
                    refine lv_aload_n hx hb dX2_readMemberHead_260 rfl (lv_at hl 6 rfl) ?_
                    refine g_getk (C := RX2) (T := TX2) (N := 16) hx hb hts (mc_ inX2) hown hK g rfl 0 (by decide) rfl (hts _ (List.mem_cons_of_mem _ t_416)) (fun _ h9 => h9) 6 rfl dX2_readMemberHead_261 ?_
                    refine lv_bipush (v := 41) hx hb dX2_readMemberHead_264 (by decide) ?_
                    have gr_161 := g
                    refine g_callv (va_runV (As := [.int 41]) (rest := []) ⟨hx, hb, hml, hown, hts⟩ (r_X8_take l dC dI L kd tys fr_160 H.size g.2.2.2.1 q0_ mq0_ kq0_ 41) (cwV 1 hts (gV_ t_1098 t_1099 t_1100 t_184 t_1101) rfl rfl rfl (by decide +kernel) ⟨(Nat.le_of_ble_eq_true rfl), (Nat.le_of_ble_eq_true rfl)⟩) (pre3V g hK mq0_ kq0_ (by decide) (q := (RX8, TX8, 10)) rfl) rfl rfl hl.1 rfl (lv_room (Nat.le_of_ble_eq_true rfl)) dX2_readMemberHead_266 ⟨(Nat.le_of_ble_eq_true rfl), (Nat.le_of_ble_eq_true rfl)⟩) g hK (by decide) (by decide) (fx' := [(5, 2, q1_, .int x_21), (6, 2, a_19, .int x_20), (7, 2, q2_, .ref a_18), (9, 9, q3_, .ref a_11), (2, 0, a0_, .ref q0_), (2, 1, a0_, .ref q1_), (2, 3, a0_, .ref q2_), (2, 4, a0_, .ref q3_), (2, 5, a0_, .ref q4_), (5, 1, q1_, .ref q5_)]) rfl (fun fr_161 H locs hp hMr_161 g => ?_)
                    obtain ⟨x_162, bx_162, hFx_162⟩ := stk2 gr_161.2.2.2.2.1 hMr_161 g (by decide) 1 rfl bw199_8_8_q0_ (by decide)
                    have g := g.more hFx_162
                    obtain ⟨x_163, h_164, hF_165⟩ := hp
                    have g := g.more hF_165
                    refine lv_iload hx hb dX2_readMemberHead_269 (lv_at hl 2 rfl) ?_
                    refine lv_iconst (v := (-1)) hx hb dX2_readMemberHead_271 (by decide) ?_
                    refine lv_icmp_eq (tgt := 308) hx hb dX2_readMemberHead_272 (by decide) (fun c_166 => ?_) (fun c_166 => ?_)
                    · have fc_166 := eq_f c_166
                      have b_167 : bd 0 (-1) x_12 := eqX fc_166 bx_12 kb_m1 (by decide)
                      exact bd_no b_167 (by decide)
                    · have fc_166 := neq_f c_166
                      refine lv_aload_n hx hb dX2_readMemberHead_275 rfl (lv_at hl 6 rfl) ?_
                      refine g_getk (C := RX2) (T := TX2) (N := 16) hx hb hts (mc_ inX2) hown hK g rfl 3 (by decide) rfl (hts _ (List.mem_cons_of_mem _ t_419)) (fun _ h9 => h9) 8 rfl dX2_readMemberHead_276 ?_
                      refine g_getk (C := RX7) (T := TX7) (N := 19) hx hb hts (mc_ inX7) hown hK g rfl 2 (by decide) rfl (hts _ (List.mem_cons_of_mem _ t_630)) (fun _ h9 => h9) 4 rfl dX2_readMemberHead_279 ?_
                      refine lv_iload hx hb dX2_readMemberHead_282 (lv_at hl 2 rfl) ?_
                      refine g_aald hx hb hK g ma_18 ka_18 (by decide) rfl (by decide) (in_bd bx_12 (by decide)) dX2_readMemberHead_284 (fun a_168 ma_168 ua_168 wa_168 => ?_)
                      have ka_168 : kd a_168 = 6 := by omega
                      refine g_geti (C := RX6) (T := TX6) (N := 13) hx hb hts (mc_ inX6) hown hK g ma_168 ka_168 (by decide) rfl 3 (by decide) rfl (hts _ (List.mem_cons_of_mem _ t_568)) (fun _ h9 => h9) rfl dX2_readMemberHead_285 (fun x_169 bx_169 g => ?_)
                      refine lv_aload_n hx hb dX2_readMemberHead_288 rfl (lv_at hl 6 rfl) ?_
                      refine g_getk (C := RX2) (T := TX2) (N := 16) hx hb hts (mc_ inX2) hown hK g rfl 5 (by decide) rfl (hts _ (List.mem_cons_of_mem _ t_421)) (fun _ h9 => h9) 11 rfl dX2_readMemberHead_289 ?_
                      refine g_geti (C := RX6) (T := TX6) (N := 13) hx hb hts (mc_ inX6) hown hK g mq4_ kq4_ (by decide) rfl 3 (by decide) rfl (hts _ (List.mem_cons_of_mem _ t_568)) (fun _ h9 => h9) rfl dX2_readMemberHead_292 (fun x_170 bx_170 g => ?_)
                      refine lv_icmp_eq (tgt := 308) hx hb dX2_readMemberHead_295 (by decide) (fun c_171 => ?_) (fun c_171 => ?_)
                      · have fc_171 := eq_f c_171
                        subst hQ
                        exact W.vret hx hb hr (fun t ht hW => ⟨⟨_, rfl, ⟨x_163, h_164, q4_, ⟨mq4_, kq4_⟩, (g.fcts [2, 12] rfl)⟩, q3_of g hK ht hW⟩, g.2.2.1.F ht⟩) g.2.2.1.2.2 dX2_readMemberHead_308
                      · have fc_171 := neq_f c_171
                        refine lv_aload_n hx hb dX2_readMemberHead_298 rfl (lv_at hl 6 rfl) ?_
                        refine g_getk (C := RX2) (T := TX2) (N := 16) hx hb hts (mc_ inX2) hown hK g rfl 0 (by decide) rfl (hts _ (List.mem_cons_of_mem _ t_416)) (fun _ h9 => h9) 8 rfl dX2_readMemberHead_299 ?_
                        refine lv_iconst (v := 5) hx hb dX2_readMemberHead_302 (by decide) ?_
                        refine lv_iload hx hb dX2_readMemberHead_303 (lv_at hl 0 rfl) ?_
                        have kb_5 : bd 5 5 (5 : Int32) := ⟨by decide, by decide⟩
                        refine g_callv (va_runV (As := [.int 5, .int r_160]) (rest := []) ⟨hx, hb, hml, hown, hts⟩ (r_X8_fail_15 l dC dI L kd tys fr_161 H.size g.2.2.2.1 q0_ mq0_ kq0_ 5 kb_5 r_160 x_163 h_164 x_162 bx_162 (g.fcts [2, 3] rfl)) (cwV 2 hts (gV_ t_1122 t_1107 t_1108 t_184 t_1109) rfl rfl rfl (by decide +kernel) ⟨(Nat.le_of_ble_eq_true rfl), (Nat.le_of_ble_eq_true rfl)⟩) (pre3V g hK mq0_ kq0_ (by decide) (q := (RX8, TX8, 10)) rfl) rfl rfl hl.1 rfl (lv_room (Nat.le_of_ble_eq_true rfl)) dX2_readMemberHead_305 ⟨(Nat.le_of_ble_eq_true rfl), (Nat.le_of_ble_eq_true rfl)⟩) g hK (by decide) (by decide) (fx' := [(6, 3, q4_, .int x_170), (6, 3, a_168, .int x_169), (8, 8, q0_, .int x_162), (5, 2, q1_, .int x_21), (6, 2, a_19, .int x_20), (7, 2, q2_, .ref a_18), (9, 9, q3_, .ref a_11), (2, 0, a0_, .ref q0_), (2, 1, a0_, .ref q1_), (2, 3, a0_, .ref q2_), (2, 4, a0_, .ref q3_), (2, 5, a0_, .ref q4_), (5, 1, q1_, .ref q5_)]) rfl (fun fr_172 H locs hp hMr_172 g => ?_)
                        have hF_173 := hp
                        have g := g.more hF_173
                        have kb_1201 : bd 1201 1201 (1201 : Int32) := ⟨by decide, by decide⟩
                        subst hQ
                        exact W.vret hx hb hr (fun t ht hW => ⟨⟨_, rfl, ⟨1201, (bd_sub kb_1201 (by decide)), q4_, ⟨mq4_, kq4_⟩, (g.fcts [0, 12] rfl)⟩, q3_of g hK ht hW⟩, g.2.2.1.F ht⟩) g.2.2.1.2.2 dX2_readMemberHead_308
                  · have fc_158 := neq_f c_158
                    have b_174 : bd 1 1 v199_6 := neX fc_158 bv199_6 kb_0 (by decide)
                    refine lv_aload_n hx hb dX2_readMemberHead_210 rfl (lv_at hl 6 rfl) ?_
                    have gr_175 := g
                    refine g_callv (va_runV (As := []) (rest := []) ⟨hx, hb, hml, hown, hts⟩ (r_X2_readParam l dC dI L kd tys f H.size g.2.2.2.1 a0_ ma0_ ka0_ q0_ mq0_ kq0_ q1_ mq1_ kq1_ q4_ mq4_ kq4_ q5_ mq5_ kq5_ (g.fcts [6, 7, 10, 11] rfl)) (cwV 0 hts (gV_ t_1313 t_1315 t_34 t_183 t_1316) rfl rfl rfl (by decide +kernel) ⟨(Nat.le_of_ble_eq_true rfl), (Nat.le_of_ble_eq_true rfl)⟩) (pre3V g hK ma0_ ka0_ (by decide) (q := (RX2, TX2, 16)) rfl) rfl rfl hl.1 rfl (lv_room (Nat.le_of_ble_eq_true rfl)) dX2_readMemberHead_211 ⟨(Nat.le_of_ble_eq_true rfl), (Nat.le_of_ble_eq_true rfl)⟩) g hK (by decide) (by decide) (fx' := [(5, 2, q1_, .int x_21), (6, 2, a_19, .int x_20), (7, 2, q2_, .ref a_18), (9, 9, q3_, .ref a_11), (2, 0, a0_, .ref q0_), (2, 1, a0_, .ref q1_), (2, 3, a0_, .ref q2_), (2, 4, a0_, .ref q3_), (2, 5, a0_, .ref q4_), (5, 1, q1_, .ref q5_)]) rfl (fun fr_175 H locs hp hMr_175 g => ?_)
                    obtain ⟨x_176, bx_176, hFx_176⟩ := stk2 gr_175.2.2.2.2.1 hMr_175 g (by decide) 1 rfl bw199_8_8_q0_ (by decide)
                    have g := g.more hFx_176
                    obtain ⟨x_177, h_178, hF_179⟩ := hp
                    have g := g.more hF_179
                    refine lv_aload_n hx hb dX2_readMemberHead_214 rfl (lv_at hl 6 rfl) ?_
                    refine g_getk (C := RX2) (T := TX2) (N := 16) hx hb hts (mc_ inX2) hown hK g rfl 0 (by decide) rfl (hts _ (List.mem_cons_of_mem _ t_416)) (fun _ h9 => h9) 6 rfl dX2_readMemberHead_215 ?_
                    refine g_calli (va_runV (As := []) (rest := []) ⟨hx, hb, hml, hown, hts⟩ (r_X8_kind l dC dI L kd tys fr_175 H.size g.2.2.2.1 q0_ mq0_ kq0_) (cwV 0 hts (gV_ t_1118 t_1119 t_1120 t_184 t_1121) rfl rfl rfl (by decide +kernel) ⟨(Nat.le_of_ble_eq_true rfl), (Nat.le_of_ble_eq_true rfl)⟩) (pre3V g hK mq0_ kq0_ (by decide) (q := (RX8, TX8, 10)) rfl) rfl rfl hl.1 rfl (lv_room (Nat.le_of_ble_eq_true rfl)) dX2_readMemberHead_218 ⟨(Nat.le_of_ble_eq_true rfl), (Nat.le_of_ble_eq_true rfl)⟩) g hK (by decide) (by decide) (fx' := [(8, 6, q0_, .int x_177), (8, 8, q0_, .int x_176), (5, 2, q1_, .int x_21), (6, 2, a_19, .int x_20), (7, 2, q2_, .ref a_18), (9, 9, q3_, .ref a_11), (2, 0, a0_, .ref q0_), (2, 1, a0_, .ref q1_), (2, 3, a0_, .ref q2_), (2, 4, a0_, .ref q3_), (2, 5, a0_, .ref q4_), (5, 1, q1_, .ref q5_)]) rfl (fun r_180 fr_180 H locs hp hMr_180 g => ?_)
                    refine lv_bipush (v := 44) hx hb dX2_readMemberHead_221 (by decide) ?_
                    have kb_44 : bd 44 44 (44 : Int32) := ⟨by decide, by decide⟩
                    refine lv_icmp_ne (tgt := 230) hx hb dX2_readMemberHead_223 (by decide) (fun c_181 => ?_) (fun c_181 => ?_)
                    · have fc_181 := neq_f c_181
                      refine lv_iconst (v := 0) hx hb dX2_readMemberHead_230 (by decide) ?_
                      refine lv_istore (lv' := [(6, .int 0), (7, .int v199_7), (5, .int x_12), (4, .int r_7), (2, .long r_6), (1, .int r_5), (0, .ref a0_)]) hx hb dX2_readMemberHead_231 hl (by decide) rfl (fun ls hl => ?_)
                      refine lv_iload hx hb dX2_readMemberHead_233 (lv_at hl 0 rfl) ?_
                      refine lv_if_eq (tgt := 245) hx hb dX2_readMemberHead_235 (by decide) (fun c_ => ?_) (fun c_ => absurd (by decide) c_)
                      have kb_1 : bd 1 1 (1 : Int32) := ⟨by decide, by decide⟩
                      obtain ⟨y_182, ey_182⟩ : ∃ z : Int32, z = v199_7 + 1 := ⟨_, rfl⟩
                      refine lv_iinc (v := y_182) (lv' := [(7, .int y_182), (6, .int 0), (5, .int x_12), (4, .int r_7), (2, .long r_6), (1, .int r_5), (0, .ref a0_)]) hx hb dX2_readMemberHead_245 hl (k := 1) rfl (by rw [ey_182]; rfl) (by decide) rfl (fun ls hl => ?_)
                      have ty_182 := add_bd ey_182 b_157 kb_1 (by decide)
                      have b_183 : bd 1 4 y_182 := add_rg ty_182 b_157 kb_1 (by decide)
                      refine lv_goto (tgt := 199) hx hb dX2_readMemberHead_248 (by decide) ?_
                      have hl9 := lv_sub hl [0, 1, 2, 3, 4, 5, 6] (by rfl : lv_pick [(7, .int y_182), (6, .int 0), (5, .int x_12), (4, .int r_7), (2, .long r_6), (1, .int r_5), (0, .ref a0_)] [0, 1, 2, 3, 4, 5, 6] = [(7, .int y_182), (6, .int 0), (5, .int x_12), (4, .int r_7), (2, .long r_6), (1, .int r_5), (0, .ref a0_)])
                      have g9 := g.sub (fx' := [(8, 6, q0_, .int x_177), (8, 8, q0_, .int x_176), (5, 2, q1_, .int x_21), (6, 2, a_19, .int x_20), (7, 2, q2_, .ref a_18), (9, 9, q3_, .ref a_11), (2, 0, a0_, .ref q0_), (2, 1, a0_, .ref q1_), (2, 3, a0_, .ref q2_), (2, 4, a0_, .ref q3_), (2, 5, a0_, .ref q4_), (5, 1, q1_, .ref q5_)]) [0, 1, 2, 3, 4, 5, 6, 7, 8, 9, 10, 11] rfl
                      exact ih199  y_182 0 x_177 x_176 (bd_sub b_183 (by decide)) (bd_sub kb_0 (by decide)) h_178 bx_176 (by have h9_0 := b_183; unfold bd at h9_0; have h9_1 := bv199_6; unfold bd at h9_1; have h9_2 := bv199_7; unfold bd at h9_2; have h9_3 := bw199_8_6_q0_; unfold bd at h9_3; have h9_4 := bw199_8_8_q0_; unfold bd at h9_4; have h9_5 := bx_176; unfold bd at h9_5; have h9_6 := h_178; unfold bd at h9_6; have h9_7 := kb_0; unfold bd at h9_7; have h9_8 := kb_1; unfold bd at h9_8; have h9_9 := kb_2; unfold bd at h9_9; have h9_10 := kb_3; unfold bd at h9_10; have h9_11 := kb_41; unfold bd at h9_11; have h9_12 := kb_44; unfold bd at h9_12; have h9_13 := kb_m1; unfold bd at h9_13; omega) _ _ _ _ g9  hl9
                    · have fc_181 := eq_f c_181
                      have b_184 : bd 44 44 r_180 := eqX fc_181 (bdT r_180) kb_44 (by decide)
                      refine lv_iconst (v := 1) hx hb dX2_readMemberHead_226 (by decide) ?_
                      refine lv_goto (tgt := 231) hx hb dX2_readMemberHead_227 (by decide) ?_
                      refine lv_istore (lv' := [(6, .int 1), (7, .int v199_7), (5, .int x_12), (4, .int r_7), (2, .long r_6), (1, .int r_5), (0, .ref a0_)]) hx hb dX2_readMemberHead_231 hl (by decide) rfl (fun ls hl => ?_)
                      refine lv_iload hx hb dX2_readMemberHead_233 (lv_at hl 0 rfl) ?_
                      refine lv_if_eq (tgt := 245) hx hb dX2_readMemberHead_235 (by decide) (fun c_ => absurd c_ (by decide)) (fun c_ => ?_)
                      refine lv_aload_n hx hb dX2_readMemberHead_238 rfl (lv_at hl 6 rfl) ?_
                      refine g_getk (C := RX2) (T := TX2) (N := 16) hx hb hts (mc_ inX2) hown hK g rfl 0 (by decide) rfl (hts _ (List.mem_cons_of_mem _ t_416)) (fun _ h9 => h9) 6 rfl dX2_readMemberHead_239 ?_
                      refine g_callv (va_runV (As := []) (rest := []) ⟨hx, hb, hml, hown, hts⟩ (r_X8_next l dC dI L kd tys fr_180 H.size g.2.2.2.1 q0_ mq0_ kq0_) (cwV 0 hts (gV_ t_1131 t_1103 t_1104 t_184 t_1105) rfl rfl rfl (by decide +kernel) ⟨(Nat.le_of_ble_eq_true rfl), (Nat.le_of_ble_eq_true rfl)⟩) (pre3V g hK mq0_ kq0_ (by decide) (q := (RX8, TX8, 10)) rfl) rfl rfl hl.1 rfl (lv_room (Nat.le_of_ble_eq_true rfl)) dX2_readMemberHead_242 ⟨(Nat.le_of_ble_eq_true rfl), (Nat.le_of_ble_eq_true rfl)⟩) g hK (by decide) (by decide) (fx' := [(8, 8, q0_, .int x_176), (5, 2, q1_, .int x_21), (6, 2, a_19, .int x_20), (7, 2, q2_, .ref a_18), (9, 9, q3_, .ref a_11), (2, 0, a0_, .ref q0_), (2, 1, a0_, .ref q1_), (2, 3, a0_, .ref q2_), (2, 4, a0_, .ref q3_), (2, 5, a0_, .ref q4_), (5, 1, q1_, .ref q5_)]) rfl (fun fr_185 H locs hp hMr_185 g => ?_)
                      obtain ⟨x_186, h_187, hF_188⟩ := hp
                      have g := g.more hF_188
                      have kb_1 : bd 1 1 (1 : Int32) := ⟨by decide, by decide⟩
                      obtain ⟨y_189, ey_189⟩ : ∃ z : Int32, z = v199_7 + 1 := ⟨_, rfl⟩
                      refine lv_iinc (v := y_189) (lv' := [(7, .int y_189), (6, .int 1), (5, .int x_12), (4, .int r_7), (2, .long r_6), (1, .int r_5), (0, .ref a0_)]) hx hb dX2_readMemberHead_245 hl (k := 1) rfl (by rw [ey_189]; rfl) (by decide) rfl (fun ls hl => ?_)
                      have ty_189 := add_bd ey_189 b_157 kb_1 (by decide)
                      have b_190 : bd 1 4 y_189 := add_rg ty_189 b_157 kb_1 (by decide)
                      refine lv_goto (tgt := 199) hx hb dX2_readMemberHead_248 (by decide) ?_
                      have hl9 := lv_sub hl [0, 1, 2, 3, 4, 5, 6] (by rfl : lv_pick [(7, .int y_189), (6, .int 1), (5, .int x_12), (4, .int r_7), (2, .long r_6), (1, .int r_5), (0, .ref a0_)] [0, 1, 2, 3, 4, 5, 6] = [(7, .int y_189), (6, .int 1), (5, .int x_12), (4, .int r_7), (2, .long r_6), (1, .int r_5), (0, .ref a0_)])
                      have g9 := g.sub (fx' := [(8, 6, q0_, .int x_186), (8, 8, q0_, .int x_176), (5, 2, q1_, .int x_21), (6, 2, a_19, .int x_20), (7, 2, q2_, .ref a_18), (9, 9, q3_, .ref a_11), (2, 0, a0_, .ref q0_), (2, 1, a0_, .ref q1_), (2, 3, a0_, .ref q2_), (2, 4, a0_, .ref q3_), (2, 5, a0_, .ref q4_), (5, 1, q1_, .ref q5_)]) [0, 1, 2, 3, 4, 5, 6, 7, 8, 9, 10, 11] rfl
                      exact ih199  y_189 1 x_186 x_176 (bd_sub b_190 (by decide)) (bd_sub kb_1 (by decide)) h_187 bx_176 (by have h9_0 := b_190; unfold bd at h9_0; have h9_1 := bv199_6; unfold bd at h9_1; have h9_2 := bv199_7; unfold bd at h9_2; have h9_3 := bw199_8_6_q0_; unfold bd at h9_3; have h9_4 := bw199_8_8_q0_; unfold bd at h9_4; have h9_5 := bx_176; unfold bd at h9_5; have h9_6 := h_187; unfold bd at h9_6; have h9_7 := kb_0; unfold bd at h9_7; have h9_8 := kb_1; unfold bd at h9_8; have h9_9 := kb_2; unfold bd at h9_9; have h9_10 := kb_3; unfold bd at h9_10; have h9_11 := kb_41; unfold bd at h9_11; have h9_12 := kb_44; unfold bd at h9_12; have h9_13 := kb_m1; unfold bd at h9_13; omega) _ _ _ _ g9  hl9
            have kb_0 : bd 0 0 (0 : Int32) := ⟨by decide, by decide⟩
            have kb_1 : bd 1 1 (1 : Int32) := ⟨by decide, by decide⟩
            have hl9 := lv_sub hl [0, 1, 2, 3, 4, 5, 6] (by rfl : lv_pick [(7, .int 0), (6, .int 1), (5, .int x_12), (4, .int r_7), (2, .long r_6), (1, .int r_5), (0, .ref a0_)] [0, 1, 2, 3, 4, 5, 6] = [(7, .int 0), (6, .int 1), (5, .int x_12), (4, .int r_7), (2, .long r_6), (1, .int r_5), (0, .ref a0_)])
            have g9 := g.sub (fx' := [(8, 6, q0_, .int x_120), (8, 8, q0_, .int x_119), (5, 2, q1_, .int x_21), (6, 2, a_19, .int x_20), (7, 2, q2_, .ref a_18), (9, 9, q3_, .ref a_11), (2, 0, a0_, .ref q0_), (2, 1, a0_, .ref q1_), (2, 3, a0_, .ref q2_), (2, 4, a0_, .ref q3_), (2, 5, a0_, .ref q4_), (5, 1, q1_, .ref q5_)]) [0, 1, 2, 3, 4, 5, 6, 7, 8, 9, 10, 11] rfl
            exact loop_140 (11) 0 1 x_120 x_119 (bd_sub kb_0 (by decide)) (bd_sub kb_1 (by decide)) h_121 bx_119 (by have h9_0 := bx_119; unfold bd at h9_0; have h9_1 := h_121; unfold bd at h9_1; have h9_2 := kb_0; unfold bd at h9_2; have h9_3 := kb_1; unfold bd at h9_3; have h9_4 := kb_2; unfold bd at h9_4; have h9_5 := kb_3; unfold bd at h9_5; have h9_6 := kb_41; unfold bd at h9_6; have h9_7 := kb_m1; unfold bd at h9_7; omega) _ _ _ _ g9  hl9
    · have fc_14 := neq_f c_14
      refine lv_aload_n hx hb dX2_readMemberHead_70 rfl (lv_at hl 4 rfl) ?_
      refine g_getk (C := RX2) (T := TX2) (N := 16) hx hb hts (mc_ inX2) hown hK g rfl 0 (by decide) rfl (hts _ (List.mem_cons_of_mem _ t_416)) (fun _ h9 => h9) 2 rfl dX2_readMemberHead_71 ?_
      refine lv_iconst (v := 1) hx hb dX2_readMemberHead_74 (by decide) ?_
      refine lv_iload_n hx hb dX2_readMemberHead_75 rfl (lv_at hl 3 rfl) ?_
      have kb_1 : bd 1 1 (1 : Int32) := ⟨by decide, by decide⟩
      refine g_callv (va_runV (As := [.int 1, .int r_5]) (rest := []) ⟨hx, hb, hml, hown, hts⟩ (r_X8_fail_7 l dC dI L kd tys fr_13 H.size g.2.2.2.1 q0_ mq0_ kq0_ 1 kb_1 r_5 x_2 h_3 (g.fcts [1] rfl)) (cwV 2 hts (gV_ t_1122 t_1107 t_1108 t_184 t_1109) rfl rfl rfl (by decide +kernel) ⟨(Nat.le_of_ble_eq_true rfl), (Nat.le_of_ble_eq_true rfl)⟩) (pre3V g hK mq0_ kq0_ (by decide) (q := (RX8, TX8, 10)) rfl) rfl rfl hl.1 rfl (lv_room (Nat.le_of_ble_eq_true rfl)) dX2_readMemberHead_76 ⟨(Nat.le_of_ble_eq_true rfl), (Nat.le_of_ble_eq_true rfl)⟩) g hK (by decide) (by decide) (fx' := [(9, 9, q3_, .ref a_11), (2, 0, a0_, .ref q0_), (2, 1, a0_, .ref q1_), (2, 3, a0_, .ref q2_), (2, 4, a0_, .ref q3_), (2, 5, a0_, .ref q4_), (5, 1, q1_, .ref q5_)]) rfl (fun fr_191 H locs hp hMr_191 g => ?_)
      obtain ⟨x_192, h_193, hF_194⟩ := hp
      have g := g.more hF_194
      refine lv_goto (tgt := 161) hx hb dX2_readMemberHead_79 (by decide) ?_
      refine lv_aload_n hx hb dX2_readMemberHead_161 rfl (lv_at hl 4 rfl) ?_
      refine g_getk (C := RX2) (T := TX2) (N := 16) hx hb hts (mc_ inX2) hown hK g rfl 0 (by decide) rfl (hts _ (List.mem_cons_of_mem _ t_416)) (fun _ h9 => h9) 3 rfl dX2_readMemberHead_162 ?_
      refine g_callv (va_runV (As := []) (rest := []) ⟨hx, hb, hml, hown, hts⟩ (r_X8_next l dC dI L kd tys fr_191 H.size g.2.2.2.1 q0_ mq0_ kq0_) (cwV 0 hts (gV_ t_1131 t_1103 t_1104 t_184 t_1105) rfl rfl rfl (by decide +kernel) ⟨(Nat.le_of_ble_eq_true rfl), (Nat.le_of_ble_eq_true rfl)⟩) (pre3V g hK mq0_ kq0_ (by decide) (q := (RX8, TX8, 10)) rfl) rfl rfl hl.1 rfl (lv_room (Nat.le_of_ble_eq_true rfl)) dX2_readMemberHead_165 ⟨(Nat.le_of_ble_eq_true rfl), (Nat.le_of_ble_eq_true rfl)⟩) g hK (by decide) (by decide) (fx' := [(8, 8, q0_, .int x_192), (9, 9, q3_, .ref a_11), (2, 0, a0_, .ref q0_), (2, 1, a0_, .ref q1_), (2, 3, a0_, .ref q2_), (2, 4, a0_, .ref q3_), (2, 5, a0_, .ref q4_), (5, 1, q1_, .ref q5_)]) rfl (fun fr_195 H locs hp hMr_195 g => ?_)
      obtain ⟨x_196, h_197, hF_198⟩ := hp
      have g := g.more hF_198
      refine lv_aload_n hx hb dX2_readMemberHead_168 rfl (lv_at hl 4 rfl) ?_
      refine g_getk (C := RX2) (T := TX2) (N := 16) hx hb hts (mc_ inX2) hown hK g rfl 0 (by decide) rfl (hts _ (List.mem_cons_of_mem _ t_416)) (fun _ h9 => h9) 3 rfl dX2_readMemberHead_169 ?_
      refine lv_bipush (v := 40) hx hb dX2_readMemberHead_172 (by decide) ?_
      have gr_199 := g
      refine g_callv (va_runV (As := [.int 40]) (rest := []) ⟨hx, hb, hml, hown, hts⟩ (r_X8_take l dC dI L kd tys fr_195 H.size g.2.2.2.1 q0_ mq0_ kq0_ 40) (cwV 1 hts (gV_ t_1098 t_1099 t_1100 t_184 t_1101) rfl rfl rfl (by decide +kernel) ⟨(Nat.le_of_ble_eq_true rfl), (Nat.le_of_ble_eq_true rfl)⟩) (pre3V g hK mq0_ kq0_ (by decide) (q := (RX8, TX8, 10)) rfl) rfl rfl hl.1 rfl (lv_room (Nat.le_of_ble_eq_true rfl)) dX2_readMemberHead_174 ⟨(Nat.le_of_ble_eq_true rfl), (Nat.le_of_ble_eq_true rfl)⟩) g hK (by decide) (by decide) (fx' := [(9, 9, q3_, .ref a_11), (2, 0, a0_, .ref q0_), (2, 1, a0_, .ref q1_), (2, 3, a0_, .ref q2_), (2, 4, a0_, .ref q3_), (2, 5, a0_, .ref q4_), (5, 1, q1_, .ref q5_)]) rfl (fun fr_199 H locs hp hMr_199 g => ?_)
      obtain ⟨x_200, bx_200, hFx_200⟩ := stk2 gr_199.2.2.2.2.1 hMr_199 g (by decide) 1 rfl h_193 (by decide)
      have g := g.more hFx_200
      obtain ⟨x_201, h_202, hF_203⟩ := hp
      have g := g.more hF_203
      refine lv_aload_n hx hb dX2_readMemberHead_177 rfl (lv_at hl 4 rfl) ?_
      refine g_getk (C := RX2) (T := TX2) (N := 16) hx hb hts (mc_ inX2) hown hK g rfl 0 (by decide) rfl (hts _ (List.mem_cons_of_mem _ t_416)) (fun _ h9 => h9) 3 rfl dX2_readMemberHead_178 ?_
      refine g_calli (va_runV (As := []) (rest := []) ⟨hx, hb, hml, hown, hts⟩ (r_X8_kind l dC dI L kd tys fr_199 H.size g.2.2.2.1 q0_ mq0_ kq0_) (cwV 0 hts (gV_ t_1118 t_1119 t_1120 t_184 t_1121) rfl rfl rfl (by decide +kernel) ⟨(Nat.le_of_ble_eq_true rfl), (Nat.le_of_ble_eq_true rfl)⟩) (pre3V g hK mq0_ kq0_ (by decide) (q := (RX8, TX8, 10)) rfl) rfl rfl hl.1 rfl (lv_room (Nat.le_of_ble_eq_true rfl)) dX2_readMemberHead_181 ⟨(Nat.le_of_ble_eq_true rfl), (Nat.le_of_ble_eq_true rfl)⟩) g hK (by decide) (by decide) (fx' := [(8, 6, q0_, .int x_201), (8, 8, q0_, .int x_200), (9, 9, q3_, .ref a_11), (2, 0, a0_, .ref q0_), (2, 1, a0_, .ref q1_), (2, 3, a0_, .ref q2_), (2, 4, a0_, .ref q3_), (2, 5, a0_, .ref q4_), (5, 1, q1_, .ref q5_)]) rfl (fun r_204 fr_204 H locs hp hMr_204 g => ?_)
      refine lv_bipush (v := 41) hx hb dX2_readMemberHead_184 (by decide) ?_
      have kb_41 : bd 41 41 (41 : Int32) := ⟨by decide, by decide⟩
      refine lv_icmp_eq (tgt := 193) hx hb dX2_readMemberHead_186 (by decide) (fun c_205 => ?_) (fun c_205 => ?_)
      · have fc_205 := eq_f c_205
        have b_206 : bd 41 41 r_204 := eqX fc_205 (bdT r_204) kb_41 (by decide)
        refine lv_iconst (v := 0) hx hb dX2_readMemberHead_193 (by decide) ?_
        refine lv_istore (lv' := [(6, .int 0), (5, .int x_12), (4, .int r_7), (2, .long r_6), (1, .int r_5), (0, .ref a0_)]) hx hb dX2_readMemberHead_194 hl (by decide) rfl (fun ls hl => ?_)
        refine lv_iconst (v := 0) hx hb dX2_readMemberHead_196 (by decide) ?_
        refine lv_istore (lv' := [(7, .int 0), (6, .int 0), (5, .int x_12), (4, .int r_7), (2, .long r_6), (1, .int r_5), (0, .ref a0_)]) hx hb dX2_readMemberHead_197 hl (by decide) rfl (fun ls hl => ?_)
        refine lv_iload hx hb dX2_readMemberHead_199 (lv_at hl 0 rfl) ?_
        refine lv_iconst (v := 3) hx hb dX2_readMemberHead_201 (by decide) ?_
        refine lv_icmp_gt (tgt := 251) hx hb dX2_readMemberHead_202 (by decide) (fun c_ => absurd c_ (by decide)) (fun c_ => ?_)
        refine lv_iload hx hb dX2_readMemberHead_205 (lv_at hl 1 rfl) ?_
        refine lv_if_eq (tgt := 251) hx hb dX2_readMemberHead_207 (by decide) (fun c_ => ?_) (fun c_ => absurd (by decide) c_)
        refine lv_aload_n hx hb dX2_readMemberHead_251 rfl (lv_at hl 6 rfl) ?_
        refine g_getk (C := RX2) (T := TX2) (N := 16) hx hb hts (mc_ inX2) hown hK g rfl 0 (by decide) rfl (hts _ (List.mem_cons_of_mem _ t_416)) (fun _ h9 => h9) 3 rfl dX2_readMemberHead_252 ?_
        refine g_calli (va_runV (As := []) (rest := []) ⟨hx, hb, hml, hown, hts⟩ (r_X8_place l dC dI L kd tys fr_204 H.size g.2.2.2.1 q0_ mq0_ kq0_) (cwV 0 hts (gV_ t_1110 t_1111 t_1112 t_184 t_1113) rfl rfl rfl (by decide +kernel) ⟨(Nat.le_of_ble_eq_true rfl), (Nat.le_of_ble_eq_true rfl)⟩) (pre3V g hK mq0_ kq0_ (by decide) (q := (RX8, TX8, 10)) rfl) rfl rfl hl.1 rfl (lv_room (Nat.le_of_ble_eq_true rfl)) dX2_readMemberHead_255 ⟨(Nat.le_of_ble_eq_true rfl), (Nat.le_of_ble_eq_true rfl)⟩) g hK (by decide) (by decide) (fx' := [(8, 6, q0_, .int x_201), (8, 8, q0_, .int x_200), (9, 9, q3_, .ref a_11), (2, 0, a0_, .ref q0_), (2, 1, a0_, .ref q1_), (2, 3, a0_, .ref q2_), (2, 4, a0_, .ref q3_), (2, 5, a0_, .ref q4_), (5, 1, q1_, .ref q5_)]) rfl (fun r_207 fr_207 H locs hp hMr_207 g => ?_)
        refine lv_istore (lv' := [(7, .int r_207), (6, .int 0), (5, .int x_12), (4, .int r_7), (2, .long r_6), (1, .int r_5), (0, .ref a0_)]) hx hb dX2_readMemberHead_258 hl (by decide) rfl (fun ls hl => ?_)
        refine lv_aload_n hx hb dX2_readMemberHead_260 rfl (lv_at hl 6 rfl) ?_
        refine g_getk (C := RX2) (T := TX2) (N := 16) hx hb hts (mc_ inX2) hown hK g rfl 0 (by decide) rfl (hts _ (List.mem_cons_of_mem _ t_416)) (fun _ h9 => h9) 3 rfl dX2_readMemberHead_261 ?_
        refine lv_bipush (v := 41) hx hb dX2_readMemberHead_264 (by decide) ?_
        have gr_208 := g
        refine g_callv (va_runV (As := [.int 41]) (rest := []) ⟨hx, hb, hml, hown, hts⟩ (r_X8_take l dC dI L kd tys fr_207 H.size g.2.2.2.1 q0_ mq0_ kq0_ 41) (cwV 1 hts (gV_ t_1098 t_1099 t_1100 t_184 t_1101) rfl rfl rfl (by decide +kernel) ⟨(Nat.le_of_ble_eq_true rfl), (Nat.le_of_ble_eq_true rfl)⟩) (pre3V g hK mq0_ kq0_ (by decide) (q := (RX8, TX8, 10)) rfl) rfl rfl hl.1 rfl (lv_room (Nat.le_of_ble_eq_true rfl)) dX2_readMemberHead_266 ⟨(Nat.le_of_ble_eq_true rfl), (Nat.le_of_ble_eq_true rfl)⟩) g hK (by decide) (by decide) (fx' := [(9, 9, q3_, .ref a_11), (2, 0, a0_, .ref q0_), (2, 1, a0_, .ref q1_), (2, 3, a0_, .ref q2_), (2, 4, a0_, .ref q3_), (2, 5, a0_, .ref q4_), (5, 1, q1_, .ref q5_)]) rfl (fun fr_208 H locs hp hMr_208 g => ?_)
        obtain ⟨x_209, bx_209, hFx_209⟩ := stk2 gr_208.2.2.2.2.1 hMr_208 g (by decide) 1 rfl bx_200 (by decide)
        have g := g.more hFx_209
        obtain ⟨x_210, h_211, hF_212⟩ := hp
        have g := g.more hF_212
        refine lv_iload hx hb dX2_readMemberHead_269 (lv_at hl 2 rfl) ?_
        refine lv_iconst (v := (-1)) hx hb dX2_readMemberHead_271 (by decide) ?_
        refine lv_icmp_eq (tgt := 308) hx hb dX2_readMemberHead_272 (by decide) (fun c_213 => ?_) (fun c_213 => ?_)
        · have fc_213 := eq_f c_213
          have b_214 : bd 0 (-1) x_12 := eqX fc_213 bx_12 kb_m1 (by decide)
          exact bd_no b_214 (by decide)
        · have fc_213 := neq_f c_213
          refine lv_aload_n hx hb dX2_readMemberHead_275 rfl (lv_at hl 6 rfl) ?_
          refine g_getk (C := RX2) (T := TX2) (N := 16) hx hb hts (mc_ inX2) hown hK g rfl 3 (by decide) rfl (hts _ (List.mem_cons_of_mem _ t_419)) (fun _ h9 => h9) 5 rfl dX2_readMemberHead_276 ?_
          refine g_getr (K := 137) (C := RX7) (T := TX7) (N := 19) hx hb hts (mc_ inX7) hown hK g mq2_ kq2_ (by decide) rfl 2 (by decide) rfl (hts _ (List.mem_cons_of_mem _ t_630)) (fun _ h9 => h9) rfl dX2_readMemberHead_279 (fun a_215 ma_215 ka_215 g => ?_)
          refine lv_iload hx hb dX2_readMemberHead_282 (lv_at hl 2 rfl) ?_
          refine g_aald hx hb hK g ma_215 ka_215 (by decide) rfl (by decide) (in_bd bx_12 (by decide)) dX2_readMemberHead_284 (fun a_216 ma_216 ua_216 wa_216 => ?_)
          have ka_216 : kd a_216 = 6 := by omega
          refine g_geti (C := RX6) (T := TX6) (N := 13) hx hb hts (mc_ inX6) hown hK g ma_216 ka_216 (by decide) rfl 3 (by decide) rfl (hts _ (List.mem_cons_of_mem _ t_568)) (fun _ h9 => h9) rfl dX2_readMemberHead_285 (fun x_217 bx_217 g => ?_)
          refine lv_aload_n hx hb dX2_readMemberHead_288 rfl (lv_at hl 6 rfl) ?_
          refine g_getk (C := RX2) (T := TX2) (N := 16) hx hb hts (mc_ inX2) hown hK g rfl 5 (by decide) rfl (hts _ (List.mem_cons_of_mem _ t_421)) (fun _ h9 => h9) 9 rfl dX2_readMemberHead_289 ?_
          refine g_geti (C := RX6) (T := TX6) (N := 13) hx hb hts (mc_ inX6) hown hK g mq4_ kq4_ (by decide) rfl 3 (by decide) rfl (hts _ (List.mem_cons_of_mem _ t_568)) (fun _ h9 => h9) rfl dX2_readMemberHead_292 (fun x_218 bx_218 g => ?_)
          refine lv_icmp_eq (tgt := 308) hx hb dX2_readMemberHead_295 (by decide) (fun c_219 => ?_) (fun c_219 => ?_)
          · have fc_219 := eq_f c_219
            subst hQ
            exact W.vret hx hb hr (fun t ht hW => ⟨⟨_, rfl, ⟨x_210, h_211, q4_, ⟨mq4_, kq4_⟩, (g.fcts [3, 10] rfl)⟩, q3_of g hK ht hW⟩, g.2.2.1.F ht⟩) g.2.2.1.2.2 dX2_readMemberHead_308
          · have fc_219 := neq_f c_219
            refine lv_aload_n hx hb dX2_readMemberHead_298 rfl (lv_at hl 6 rfl) ?_
            refine g_getk (C := RX2) (T := TX2) (N := 16) hx hb hts (mc_ inX2) hown hK g rfl 0 (by decide) rfl (hts _ (List.mem_cons_of_mem _ t_416)) (fun _ h9 => h9) 6 rfl dX2_readMemberHead_299 ?_
            refine lv_iconst (v := 5) hx hb dX2_readMemberHead_302 (by decide) ?_
            refine lv_iload hx hb dX2_readMemberHead_303 (lv_at hl 0 rfl) ?_
            have kb_5 : bd 5 5 (5 : Int32) := ⟨by decide, by decide⟩
            refine g_callv (va_runV (As := [.int 5, .int r_207]) (rest := []) ⟨hx, hb, hml, hown, hts⟩ (r_X8_fail_15 l dC dI L kd tys fr_208 H.size g.2.2.2.1 q0_ mq0_ kq0_ 5 kb_5 r_207 x_210 h_211 x_209 bx_209 (g.fcts [3, 4] rfl)) (cwV 2 hts (gV_ t_1122 t_1107 t_1108 t_184 t_1109) rfl rfl rfl (by decide +kernel) ⟨(Nat.le_of_ble_eq_true rfl), (Nat.le_of_ble_eq_true rfl)⟩) (pre3V g hK mq0_ kq0_ (by decide) (q := (RX8, TX8, 10)) rfl) rfl rfl hl.1 rfl (lv_room (Nat.le_of_ble_eq_true rfl)) dX2_readMemberHead_305 ⟨(Nat.le_of_ble_eq_true rfl), (Nat.le_of_ble_eq_true rfl)⟩) g hK (by decide) (by decide) (fx' := [(6, 3, q4_, .int x_218), (6, 3, a_216, .int x_217), (7, 2, q2_, .ref a_215), (8, 8, q0_, .int x_209), (9, 9, q3_, .ref a_11), (2, 0, a0_, .ref q0_), (2, 1, a0_, .ref q1_), (2, 3, a0_, .ref q2_), (2, 4, a0_, .ref q3_), (2, 5, a0_, .ref q4_), (5, 1, q1_, .ref q5_)]) rfl (fun fr_220 H locs hp hMr_220 g => ?_)
            have hF_221 := hp
            have g := g.more hF_221
            have kb_1201 : bd 1201 1201 (1201 : Int32) := ⟨by decide, by decide⟩
            subst hQ
            exact W.vret hx hb hr (fun t ht hW => ⟨⟨_, rfl, ⟨1201, (bd_sub kb_1201 (by decide)), q4_, ⟨mq4_, kq4_⟩, (g.fcts [0, 10] rfl)⟩, q3_of g hK ht hW⟩, g.2.2.1.F ht⟩) g.2.2.1.2.2 dX2_readMemberHead_308
      · have fc_205 := neq_f c_205
        refine lv_iconst (v := 1) hx hb dX2_readMemberHead_189 (by decide) ?_
        refine lv_goto (tgt := 194) hx hb dX2_readMemberHead_190 (by decide) ?_
        refine lv_istore (lv' := [(6, .int 1), (5, .int x_12), (4, .int r_7), (2, .long r_6), (1, .int r_5), (0, .ref a0_)]) hx hb dX2_readMemberHead_194 hl (by decide) rfl (fun ls hl => ?_)
        refine lv_iconst (v := 0) hx hb dX2_readMemberHead_196 (by decide) ?_
        refine lv_istore (lv' := [(7, .int 0), (6, .int 1), (5, .int x_12), (4, .int r_7), (2, .long r_6), (1, .int r_5), (0, .ref a0_)]) hx hb dX2_readMemberHead_197 hl (by decide) rfl (fun ls hl => ?_)
        have loop_222 : ∀ (n : Nat) (v199_7 : Int32) (v199_6 : Int32) (w199_8_6_q0_ : Int32) (w199_8_8_q0_ : Int32), bd 0 4 v199_7 → bd 0 1 v199_6 → bd 1 1201 w199_8_6_q0_ → bd 1 7 w199_8_8_q0_ → (4 - v199_7.toInt < (n : Int)) → ∀ (f : Nat → va_E) (H : Heap) (locs : List Loc) (ls : Array Slot), G3 (dC, dI) L kd tys s f0 [(2, 5), (2, 6), (5, 4), (6, 0), (6, 1), (6, 2), (6, 3), (6, 6), (6, 7), (6, 8), (6, 9), (6, 10), (6, 11), (6, 12), (7, 3), (8, 6), (8, 8), (8, 9), (9, 8)] [132, 134, 135, 156] f H locs [(8, 6, q0_, .int w199_8_6_q0_), (8, 8, q0_, .int w199_8_8_q0_), (9, 9, q3_, .ref a_11), (2, 0, a0_, .ref q0_), (2, 1, a0_, .ref q1_), (2, 3, a0_, .ref q2_), (2, 4, a0_, .ref q3_), (2, 5, a0_, .ref q4_), (5, 1, q1_, .ref q5_)] → lv_has ls 8 [(7, .int v199_7), (6, .int v199_6), (5, .int x_12), (4, .int r_7), (2, .long r_6), (1, .int r_5), (0, .ref a0_)] → W p l e ({ frames := 3, cells := 0, slots := 0, locals := 72 } : Room) s m [.ref a0_].toArray below meth c H locs 0 0 Q (F0 m 199 ls []) := by
          intro n199
          induction n199 with
          | zero =>
            intro v199_7 v199_6 w199_8_6_q0_ w199_8_8_q0_ bv199_7 bv199_6 bw199_8_6_q0_ bw199_8_8_q0_ hm199 f H locs ls g  hl
            exact absurd hm199 (by have h9_v199_7 := bv199_7; unfold bd at h9_v199_7; have h9_v199_6 := bv199_6; unfold bd at h9_v199_6; have h9_w199_8_6_q0_ := bw199_8_6_q0_; unfold bd at h9_w199_8_6_q0_; have h9_w199_8_8_q0_ := bw199_8_8_q0_; unfold bd at h9_w199_8_8_q0_; omega)
          | succ n199 ih199 =>
            intro v199_7 v199_6 w199_8_6_q0_ w199_8_8_q0_ bv199_7 bv199_6 bw199_8_6_q0_ bw199_8_8_q0_ hm199 f H locs ls g  hl
            refine lv_iload hx hb dX2_readMemberHead_199 (lv_at hl 0 rfl) ?_
            refine lv_iconst (v := 3) hx hb dX2_readMemberHead_201 (by decide) ?_
            refine lv_icmp_gt (tgt := 251) hx hb dX2_readMemberHead_202 (by decide) (fun c_223 => ?_) (fun c_223 => ?_)
            · have fc_223 := lt_f c_223
              have b_224 : bd 4 4 v199_7 := ltR fc_223 kb_3 bv199_7 (by decide)
              refine lv_aload_n hx hb dX2_readMemberHead_251 rfl (lv_at hl 6 rfl) ?_
              refine g_getk (C := RX2) (T := TX2) (N := 16) hx hb hts (mc_ inX2) hown hK g rfl 0 (by decide) rfl (hts _ (List.mem_cons_of_mem _ t_416)) (fun _ h9 => h9) 3 rfl dX2_readMemberHead_252 ?_
              refine g_calli (va_runV (As := []) (rest := []) ⟨hx, hb, hml, hown, hts⟩ (r_X8_place l dC dI L kd tys f H.size g.2.2.2.1 q0_ mq0_ kq0_) (cwV 0 hts (gV_ t_1110 t_1111 t_1112 t_184 t_1113) rfl rfl rfl (by decide +kernel) ⟨(Nat.le_of_ble_eq_true rfl), (Nat.le_of_ble_eq_true rfl)⟩) (pre3V g hK mq0_ kq0_ (by decide) (q := (RX8, TX8, 10)) rfl) rfl rfl hl.1 rfl (lv_room (Nat.le_of_ble_eq_true rfl)) dX2_readMemberHead_255 ⟨(Nat.le_of_ble_eq_true rfl), (Nat.le_of_ble_eq_true rfl)⟩) g hK (by decide) (by decide) (fx' := [(8, 6, q0_, .int w199_8_6_q0_), (8, 8, q0_, .int w199_8_8_q0_), (9, 9, q3_, .ref a_11), (2, 0, a0_, .ref q0_), (2, 1, a0_, .ref q1_), (2, 3, a0_, .ref q2_), (2, 4, a0_, .ref q3_), (2, 5, a0_, .ref q4_), (5, 1, q1_, .ref q5_)]) rfl (fun r_225 fr_225 H locs hp hMr_225 g => ?_)
              refine lv_istore (lv' := [(7, .int r_225), (6, .int v199_6), (5, .int x_12), (4, .int r_7), (2, .long r_6), (1, .int r_5), (0, .ref a0_)]) hx hb dX2_readMemberHead_258 hl (by decide) rfl (fun ls hl => ?_)
              refine lv_aload_n hx hb dX2_readMemberHead_260 rfl (lv_at hl 6 rfl) ?_
              refine g_getk (C := RX2) (T := TX2) (N := 16) hx hb hts (mc_ inX2) hown hK g rfl 0 (by decide) rfl (hts _ (List.mem_cons_of_mem _ t_416)) (fun _ h9 => h9) 3 rfl dX2_readMemberHead_261 ?_
              refine lv_bipush (v := 41) hx hb dX2_readMemberHead_264 (by decide) ?_
              have gr_226 := g
              refine g_callv (va_runV (As := [.int 41]) (rest := []) ⟨hx, hb, hml, hown, hts⟩ (r_X8_take l dC dI L kd tys fr_225 H.size g.2.2.2.1 q0_ mq0_ kq0_ 41) (cwV 1 hts (gV_ t_1098 t_1099 t_1100 t_184 t_1101) rfl rfl rfl (by decide +kernel) ⟨(Nat.le_of_ble_eq_true rfl), (Nat.le_of_ble_eq_true rfl)⟩) (pre3V g hK mq0_ kq0_ (by decide) (q := (RX8, TX8, 10)) rfl) rfl rfl hl.1 rfl (lv_room (Nat.le_of_ble_eq_true rfl)) dX2_readMemberHead_266 ⟨(Nat.le_of_ble_eq_true rfl), (Nat.le_of_ble_eq_true rfl)⟩) g hK (by decide) (by decide) (fx' := [(9, 9, q3_, .ref a_11), (2, 0, a0_, .ref q0_), (2, 1, a0_, .ref q1_), (2, 3, a0_, .ref q2_), (2, 4, a0_, .ref q3_), (2, 5, a0_, .ref q4_), (5, 1, q1_, .ref q5_)]) rfl (fun fr_226 H locs hp hMr_226 g => ?_)
              obtain ⟨x_227, bx_227, hFx_227⟩ := stk2 gr_226.2.2.2.2.1 hMr_226 g (by decide) 1 rfl bw199_8_8_q0_ (by decide)
              have g := g.more hFx_227
              obtain ⟨x_228, h_229, hF_230⟩ := hp
              have g := g.more hF_230
              refine lv_iload hx hb dX2_readMemberHead_269 (lv_at hl 2 rfl) ?_
              refine lv_iconst (v := (-1)) hx hb dX2_readMemberHead_271 (by decide) ?_
              refine lv_icmp_eq (tgt := 308) hx hb dX2_readMemberHead_272 (by decide) (fun c_231 => ?_) (fun c_231 => ?_)
              · have fc_231 := eq_f c_231
                have b_232 : bd 0 (-1) x_12 := eqX fc_231 bx_12 kb_m1 (by decide)
                exact bd_no b_232 (by decide)
              · have fc_231 := neq_f c_231
                refine lv_aload_n hx hb dX2_readMemberHead_275 rfl (lv_at hl 6 rfl) ?_
                refine g_getk (C := RX2) (T := TX2) (N := 16) hx hb hts (mc_ inX2) hown hK g rfl 3 (by decide) rfl (hts _ (List.mem_cons_of_mem _ t_419)) (fun _ h9 => h9) 5 rfl dX2_readMemberHead_276 ?_
                refine g_getr (K := 137) (C := RX7) (T := TX7) (N := 19) hx hb hts (mc_ inX7) hown hK g mq2_ kq2_ (by decide) rfl 2 (by decide) rfl (hts _ (List.mem_cons_of_mem _ t_630)) (fun _ h9 => h9) rfl dX2_readMemberHead_279 (fun a_233 ma_233 ka_233 g => ?_)
                refine lv_iload hx hb dX2_readMemberHead_282 (lv_at hl 2 rfl) ?_
                refine g_aald hx hb hK g ma_233 ka_233 (by decide) rfl (by decide) (in_bd bx_12 (by decide)) dX2_readMemberHead_284 (fun a_234 ma_234 ua_234 wa_234 => ?_)
                have ka_234 : kd a_234 = 6 := by omega
                refine g_geti (C := RX6) (T := TX6) (N := 13) hx hb hts (mc_ inX6) hown hK g ma_234 ka_234 (by decide) rfl 3 (by decide) rfl (hts _ (List.mem_cons_of_mem _ t_568)) (fun _ h9 => h9) rfl dX2_readMemberHead_285 (fun x_235 bx_235 g => ?_)
                refine lv_aload_n hx hb dX2_readMemberHead_288 rfl (lv_at hl 6 rfl) ?_
                refine g_getk (C := RX2) (T := TX2) (N := 16) hx hb hts (mc_ inX2) hown hK g rfl 5 (by decide) rfl (hts _ (List.mem_cons_of_mem _ t_421)) (fun _ h9 => h9) 9 rfl dX2_readMemberHead_289 ?_
                refine g_geti (C := RX6) (T := TX6) (N := 13) hx hb hts (mc_ inX6) hown hK g mq4_ kq4_ (by decide) rfl 3 (by decide) rfl (hts _ (List.mem_cons_of_mem _ t_568)) (fun _ h9 => h9) rfl dX2_readMemberHead_292 (fun x_236 bx_236 g => ?_)
                refine lv_icmp_eq (tgt := 308) hx hb dX2_readMemberHead_295 (by decide) (fun c_237 => ?_) (fun c_237 => ?_)
                · have fc_237 := eq_f c_237
                  subst hQ
                  exact W.vret hx hb hr (fun t ht hW => ⟨⟨_, rfl, ⟨x_228, h_229, q4_, ⟨mq4_, kq4_⟩, (g.fcts [3, 10] rfl)⟩, q3_of g hK ht hW⟩, g.2.2.1.F ht⟩) g.2.2.1.2.2 dX2_readMemberHead_308
                · have fc_237 := neq_f c_237
                  refine lv_aload_n hx hb dX2_readMemberHead_298 rfl (lv_at hl 6 rfl) ?_
                  refine g_getk (C := RX2) (T := TX2) (N := 16) hx hb hts (mc_ inX2) hown hK g rfl 0 (by decide) rfl (hts _ (List.mem_cons_of_mem _ t_416)) (fun _ h9 => h9) 6 rfl dX2_readMemberHead_299 ?_
                  refine lv_iconst (v := 5) hx hb dX2_readMemberHead_302 (by decide) ?_
                  refine lv_iload hx hb dX2_readMemberHead_303 (lv_at hl 0 rfl) ?_
                  have kb_5 : bd 5 5 (5 : Int32) := ⟨by decide, by decide⟩
                  refine g_callv (va_runV (As := [.int 5, .int r_225]) (rest := []) ⟨hx, hb, hml, hown, hts⟩ (r_X8_fail_15 l dC dI L kd tys fr_226 H.size g.2.2.2.1 q0_ mq0_ kq0_ 5 kb_5 r_225 x_228 h_229 x_227 bx_227 (g.fcts [3, 4] rfl)) (cwV 2 hts (gV_ t_1122 t_1107 t_1108 t_184 t_1109) rfl rfl rfl (by decide +kernel) ⟨(Nat.le_of_ble_eq_true rfl), (Nat.le_of_ble_eq_true rfl)⟩) (pre3V g hK mq0_ kq0_ (by decide) (q := (RX8, TX8, 10)) rfl) rfl rfl hl.1 rfl (lv_room (Nat.le_of_ble_eq_true rfl)) dX2_readMemberHead_305 ⟨(Nat.le_of_ble_eq_true rfl), (Nat.le_of_ble_eq_true rfl)⟩) g hK (by decide) (by decide) (fx' := [(6, 3, q4_, .int x_236), (6, 3, a_234, .int x_235), (7, 2, q2_, .ref a_233), (8, 8, q0_, .int x_227), (9, 9, q3_, .ref a_11), (2, 0, a0_, .ref q0_), (2, 1, a0_, .ref q1_), (2, 3, a0_, .ref q2_), (2, 4, a0_, .ref q3_), (2, 5, a0_, .ref q4_), (5, 1, q1_, .ref q5_)]) rfl (fun fr_238 H locs hp hMr_238 g => ?_)
                  have hF_239 := hp
                  have g := g.more hF_239
                  have kb_1201 : bd 1201 1201 (1201 : Int32) := ⟨by decide, by decide⟩
                  subst hQ
                  exact W.vret hx hb hr (fun t ht hW => ⟨⟨_, rfl, ⟨1201, (bd_sub kb_1201 (by decide)), q4_, ⟨mq4_, kq4_⟩, (g.fcts [0, 10] rfl)⟩, q3_of g hK ht hW⟩, g.2.2.1.F ht⟩) g.2.2.1.2.2 dX2_readMemberHead_308
            · have fc_223 := nlt_f c_223
              have b_240 : bd 0 3 v199_7 := leL fc_223 bv199_7 kb_3 (by decide)
              refine lv_iload hx hb dX2_readMemberHead_205 (lv_at hl 1 rfl) ?_
              have kb_0 : bd 0 0 (0 : Int32) := ⟨by decide, by decide⟩
              refine lv_if_eq (tgt := 251) hx hb dX2_readMemberHead_207 (by decide) (fun c_241 => ?_) (fun c_241 => ?_)
              · have fc_241 := eq_f c_241
                have b_242 : bd 0 0 v199_6 := eqX fc_241 bv199_6 kb_0 (by decide)
                refine lv_aload_n hx hb dX2_readMemberHead_251 rfl (lv_at hl 6 rfl) ?_
                refine g_getk (C := RX2) (T := TX2) (N := 16) hx hb hts (mc_ inX2) hown hK g rfl 0 (by decide) rfl (hts _ (List.mem_cons_of_mem _ t_416)) (fun _ h9 => h9) 3 rfl dX2_readMemberHead_252 ?_
                refine g_calli (va_runV (As := []) (rest := []) ⟨hx, hb, hml, hown, hts⟩ (r_X8_place l dC dI L kd tys f H.size g.2.2.2.1 q0_ mq0_ kq0_) (cwV 0 hts (gV_ t_1110 t_1111 t_1112 t_184 t_1113) rfl rfl rfl (by decide +kernel) ⟨(Nat.le_of_ble_eq_true rfl), (Nat.le_of_ble_eq_true rfl)⟩) (pre3V g hK mq0_ kq0_ (by decide) (q := (RX8, TX8, 10)) rfl) rfl rfl hl.1 rfl (lv_room (Nat.le_of_ble_eq_true rfl)) dX2_readMemberHead_255 ⟨(Nat.le_of_ble_eq_true rfl), (Nat.le_of_ble_eq_true rfl)⟩) g hK (by decide) (by decide) (fx' := [(8, 6, q0_, .int w199_8_6_q0_), (8, 8, q0_, .int w199_8_8_q0_), (9, 9, q3_, .ref a_11), (2, 0, a0_, .ref q0_), (2, 1, a0_, .ref q1_), (2, 3, a0_, .ref q2_), (2, 4, a0_, .ref q3_), (2, 5, a0_, .ref q4_), (5, 1, q1_, .ref q5_)]) rfl (fun r_243 fr_243 H locs hp hMr_243 g => ?_)
                refine lv_istore (lv' := [(7, .int r_243), (6, .int v199_6), (5, .int x_12), (4, .int r_7), (2, .long r_6), (1, .int r_5), (0, .ref a0_)]) hx hb dX2_readMemberHead_258 hl (by decide) rfl (fun ls hl => ?_)
                refine lv_aload_n hx hb dX2_readMemberHead_260 rfl (lv_at hl 6 rfl) ?_
                refine g_getk (C := RX2) (T := TX2) (N := 16) hx hb hts (mc_ inX2) hown hK g rfl 0 (by decide) rfl (hts _ (List.mem_cons_of_mem _ t_416)) (fun _ h9 => h9) 3 rfl dX2_readMemberHead_261 ?_
                refine lv_bipush (v := 41) hx hb dX2_readMemberHead_264 (by decide) ?_
                have gr_244 := g
                refine g_callv (va_runV (As := [.int 41]) (rest := []) ⟨hx, hb, hml, hown, hts⟩ (r_X8_take l dC dI L kd tys fr_243 H.size g.2.2.2.1 q0_ mq0_ kq0_ 41) (cwV 1 hts (gV_ t_1098 t_1099 t_1100 t_184 t_1101) rfl rfl rfl (by decide +kernel) ⟨(Nat.le_of_ble_eq_true rfl), (Nat.le_of_ble_eq_true rfl)⟩) (pre3V g hK mq0_ kq0_ (by decide) (q := (RX8, TX8, 10)) rfl) rfl rfl hl.1 rfl (lv_room (Nat.le_of_ble_eq_true rfl)) dX2_readMemberHead_266 ⟨(Nat.le_of_ble_eq_true rfl), (Nat.le_of_ble_eq_true rfl)⟩) g hK (by decide) (by decide) (fx' := [(9, 9, q3_, .ref a_11), (2, 0, a0_, .ref q0_), (2, 1, a0_, .ref q1_), (2, 3, a0_, .ref q2_), (2, 4, a0_, .ref q3_), (2, 5, a0_, .ref q4_), (5, 1, q1_, .ref q5_)]) rfl (fun fr_244 H locs hp hMr_244 g => ?_)
                obtain ⟨x_245, bx_245, hFx_245⟩ := stk2 gr_244.2.2.2.2.1 hMr_244 g (by decide) 1 rfl bw199_8_8_q0_ (by decide)
                have g := g.more hFx_245
                obtain ⟨x_246, h_247, hF_248⟩ := hp
                have g := g.more hF_248
                refine lv_iload hx hb dX2_readMemberHead_269 (lv_at hl 2 rfl) ?_
                refine lv_iconst (v := (-1)) hx hb dX2_readMemberHead_271 (by decide) ?_
                refine lv_icmp_eq (tgt := 308) hx hb dX2_readMemberHead_272 (by decide) (fun c_249 => ?_) (fun c_249 => ?_)
                · have fc_249 := eq_f c_249
                  have b_250 : bd 0 (-1) x_12 := eqX fc_249 bx_12 kb_m1 (by decide)
                  exact bd_no b_250 (by decide)
                · have fc_249 := neq_f c_249
                  refine lv_aload_n hx hb dX2_readMemberHead_275 rfl (lv_at hl 6 rfl) ?_
                  refine g_getk (C := RX2) (T := TX2) (N := 16) hx hb hts (mc_ inX2) hown hK g rfl 3 (by decide) rfl (hts _ (List.mem_cons_of_mem _ t_419)) (fun _ h9 => h9) 5 rfl dX2_readMemberHead_276 ?_
                  refine g_getr (K := 137) (C := RX7) (T := TX7) (N := 19) hx hb hts (mc_ inX7) hown hK g mq2_ kq2_ (by decide) rfl 2 (by decide) rfl (hts _ (List.mem_cons_of_mem _ t_630)) (fun _ h9 => h9) rfl dX2_readMemberHead_279 (fun a_251 ma_251 ka_251 g => ?_)
                  refine lv_iload hx hb dX2_readMemberHead_282 (lv_at hl 2 rfl) ?_
                  refine g_aald hx hb hK g ma_251 ka_251 (by decide) rfl (by decide) (in_bd bx_12 (by decide)) dX2_readMemberHead_284 (fun a_252 ma_252 ua_252 wa_252 => ?_)
                  have ka_252 : kd a_252 = 6 := by omega
                  refine g_geti (C := RX6) (T := TX6) (N := 13) hx hb hts (mc_ inX6) hown hK g ma_252 ka_252 (by decide) rfl 3 (by decide) rfl (hts _ (List.mem_cons_of_mem _ t_568)) (fun _ h9 => h9) rfl dX2_readMemberHead_285 (fun x_253 bx_253 g => ?_)
                  refine lv_aload_n hx hb dX2_readMemberHead_288 rfl (lv_at hl 6 rfl) ?_
                  refine g_getk (C := RX2) (T := TX2) (N := 16) hx hb hts (mc_ inX2) hown hK g rfl 5 (by decide) rfl (hts _ (List.mem_cons_of_mem _ t_421)) (fun _ h9 => h9) 9 rfl dX2_readMemberHead_289 ?_
                  refine g_geti (C := RX6) (T := TX6) (N := 13) hx hb hts (mc_ inX6) hown hK g mq4_ kq4_ (by decide) rfl 3 (by decide) rfl (hts _ (List.mem_cons_of_mem _ t_568)) (fun _ h9 => h9) rfl dX2_readMemberHead_292 (fun x_254 bx_254 g => ?_)
                  refine lv_icmp_eq (tgt := 308) hx hb dX2_readMemberHead_295 (by decide) (fun c_255 => ?_) (fun c_255 => ?_)
                  · have fc_255 := eq_f c_255
                    subst hQ
                    exact W.vret hx hb hr (fun t ht hW => ⟨⟨_, rfl, ⟨x_246, h_247, q4_, ⟨mq4_, kq4_⟩, (g.fcts [3, 10] rfl)⟩, q3_of g hK ht hW⟩, g.2.2.1.F ht⟩) g.2.2.1.2.2 dX2_readMemberHead_308
                  · have fc_255 := neq_f c_255
                    refine lv_aload_n hx hb dX2_readMemberHead_298 rfl (lv_at hl 6 rfl) ?_
                    refine g_getk (C := RX2) (T := TX2) (N := 16) hx hb hts (mc_ inX2) hown hK g rfl 0 (by decide) rfl (hts _ (List.mem_cons_of_mem _ t_416)) (fun _ h9 => h9) 6 rfl dX2_readMemberHead_299 ?_
                    refine lv_iconst (v := 5) hx hb dX2_readMemberHead_302 (by decide) ?_
                    refine lv_iload hx hb dX2_readMemberHead_303 (lv_at hl 0 rfl) ?_
                    have kb_5 : bd 5 5 (5 : Int32) := ⟨by decide, by decide⟩
                    refine g_callv (va_runV (As := [.int 5, .int r_243]) (rest := []) ⟨hx, hb, hml, hown, hts⟩ (r_X8_fail_15 l dC dI L kd tys fr_244 H.size g.2.2.2.1 q0_ mq0_ kq0_ 5 kb_5 r_243 x_246 h_247 x_245 bx_245 (g.fcts [3, 4] rfl)) (cwV 2 hts (gV_ t_1122 t_1107 t_1108 t_184 t_1109) rfl rfl rfl (by decide +kernel) ⟨(Nat.le_of_ble_eq_true rfl), (Nat.le_of_ble_eq_true rfl)⟩) (pre3V g hK mq0_ kq0_ (by decide) (q := (RX8, TX8, 10)) rfl) rfl rfl hl.1 rfl (lv_room (Nat.le_of_ble_eq_true rfl)) dX2_readMemberHead_305 ⟨(Nat.le_of_ble_eq_true rfl), (Nat.le_of_ble_eq_true rfl)⟩) g hK (by decide) (by decide) (fx' := [(6, 3, q4_, .int x_254), (6, 3, a_252, .int x_253), (7, 2, q2_, .ref a_251), (8, 8, q0_, .int x_245), (9, 9, q3_, .ref a_11), (2, 0, a0_, .ref q0_), (2, 1, a0_, .ref q1_), (2, 3, a0_, .ref q2_), (2, 4, a0_, .ref q3_), (2, 5, a0_, .ref q4_), (5, 1, q1_, .ref q5_)]) rfl (fun fr_256 H locs hp hMr_256 g => ?_)
                    have hF_257 := hp
                    have g := g.more hF_257
                    have kb_1201 : bd 1201 1201 (1201 : Int32) := ⟨by decide, by decide⟩
                    subst hQ
                    exact W.vret hx hb hr (fun t ht hW => ⟨⟨_, rfl, ⟨1201, (bd_sub kb_1201 (by decide)), q4_, ⟨mq4_, kq4_⟩, (g.fcts [0, 10] rfl)⟩, q3_of g hK ht hW⟩, g.2.2.1.F ht⟩) g.2.2.1.2.2 dX2_readMemberHead_308
              · have fc_241 := neq_f c_241
                have b_258 : bd 1 1 v199_6 := neX fc_241 bv199_6 kb_0 (by decide)
                refine lv_aload_n hx hb dX2_readMemberHead_210 rfl (lv_at hl 6 rfl) ?_
                have gr_259 := g
                refine g_callv (va_runV (As := []) (rest := []) ⟨hx, hb, hml, hown, hts⟩ (r_X2_readParam l dC dI L kd tys f H.size g.2.2.2.1 a0_ ma0_ ka0_ q0_ mq0_ kq0_ q1_ mq1_ kq1_ q4_ mq4_ kq4_ q5_ mq5_ kq5_ (g.fcts [3, 4, 7, 8] rfl)) (cwV 0 hts (gV_ t_1313 t_1315 t_34 t_183 t_1316) rfl rfl rfl (by decide +kernel) ⟨(Nat.le_of_ble_eq_true rfl), (Nat.le_of_ble_eq_true rfl)⟩) (pre3V g hK ma0_ ka0_ (by decide) (q := (RX2, TX2, 16)) rfl) rfl rfl hl.1 rfl (lv_room (Nat.le_of_ble_eq_true rfl)) dX2_readMemberHead_211 ⟨(Nat.le_of_ble_eq_true rfl), (Nat.le_of_ble_eq_true rfl)⟩) g hK (by decide) (by decide) (fx' := [(9, 9, q3_, .ref a_11), (2, 0, a0_, .ref q0_), (2, 1, a0_, .ref q1_), (2, 3, a0_, .ref q2_), (2, 4, a0_, .ref q3_), (2, 5, a0_, .ref q4_), (5, 1, q1_, .ref q5_)]) rfl (fun fr_259 H locs hp hMr_259 g => ?_)
                obtain ⟨x_260, bx_260, hFx_260⟩ := stk2 gr_259.2.2.2.2.1 hMr_259 g (by decide) 1 rfl bw199_8_8_q0_ (by decide)
                have g := g.more hFx_260
                obtain ⟨x_261, h_262, hF_263⟩ := hp
                have g := g.more hF_263
                refine lv_aload_n hx hb dX2_readMemberHead_214 rfl (lv_at hl 6 rfl) ?_
                refine g_getk (C := RX2) (T := TX2) (N := 16) hx hb hts (mc_ inX2) hown hK g rfl 0 (by decide) rfl (hts _ (List.mem_cons_of_mem _ t_416)) (fun _ h9 => h9) 3 rfl dX2_readMemberHead_215 ?_
                refine g_calli (va_runV (As := []) (rest := []) ⟨hx, hb, hml, hown, hts⟩ (r_X8_kind l dC dI L kd tys fr_259 H.size g.2.2.2.1 q0_ mq0_ kq0_) (cwV 0 hts (gV_ t_1118 t_1119 t_1120 t_184 t_1121) rfl rfl rfl (by decide +kernel) ⟨(Nat.le_of_ble_eq_true rfl), (Nat.le_of_ble_eq_true rfl)⟩) (pre3V g hK mq0_ kq0_ (by decide) (q := (RX8, TX8, 10)) rfl) rfl rfl hl.1 rfl (lv_room (Nat.le_of_ble_eq_true rfl)) dX2_readMemberHead_218 ⟨(Nat.le_of_ble_eq_true rfl), (Nat.le_of_ble_eq_true rfl)⟩) g hK (by decide) (by decide) (fx' := [(8, 6, q0_, .int x_261), (8, 8, q0_, .int x_260), (9, 9, q3_, .ref a_11), (2, 0, a0_, .ref q0_), (2, 1, a0_, .ref q1_), (2, 3, a0_, .ref q2_), (2, 4, a0_, .ref q3_), (2, 5, a0_, .ref q4_), (5, 1, q1_, .ref q5_)]) rfl (fun r_264 fr_264 H locs hp hMr_264 g => ?_)
                refine lv_bipush (v := 44) hx hb dX2_readMemberHead_221 (by decide) ?_
                have kb_44 : bd 44 44 (44 : Int32) := ⟨by decide, by decide⟩
                refine lv_icmp_ne (tgt := 230) hx hb dX2_readMemberHead_223 (by decide) (fun c_265 => ?_) (fun c_265 => ?_)
                · have fc_265 := neq_f c_265
                  refine lv_iconst (v := 0) hx hb dX2_readMemberHead_230 (by decide) ?_
                  refine lv_istore (lv' := [(6, .int 0), (7, .int v199_7), (5, .int x_12), (4, .int r_7), (2, .long r_6), (1, .int r_5), (0, .ref a0_)]) hx hb dX2_readMemberHead_231 hl (by decide) rfl (fun ls hl => ?_)
                  refine lv_iload hx hb dX2_readMemberHead_233 (lv_at hl 0 rfl) ?_
                  refine lv_if_eq (tgt := 245) hx hb dX2_readMemberHead_235 (by decide) (fun c_ => ?_) (fun c_ => absurd (by decide) c_)
                  obtain ⟨y_266, ey_266⟩ : ∃ z : Int32, z = v199_7 + 1 := ⟨_, rfl⟩
                  refine lv_iinc (v := y_266) (lv' := [(7, .int y_266), (6, .int 0), (5, .int x_12), (4, .int r_7), (2, .long r_6), (1, .int r_5), (0, .ref a0_)]) hx hb dX2_readMemberHead_245 hl (k := 1) rfl (by rw [ey_266]; rfl) (by decide) rfl (fun ls hl => ?_)
                  have ty_266 := add_bd ey_266 b_240 kb_1 (by decide)
                  have b_267 : bd 1 4 y_266 := add_rg ty_266 b_240 kb_1 (by decide)
                  refine lv_goto (tgt := 199) hx hb dX2_readMemberHead_248 (by decide) ?_
                  have hl9 := lv_sub hl [0, 1, 2, 3, 4, 5, 6] (by rfl : lv_pick [(7, .int y_266), (6, .int 0), (5, .int x_12), (4, .int r_7), (2, .long r_6), (1, .int r_5), (0, .ref a0_)] [0, 1, 2, 3, 4, 5, 6] = [(7, .int y_266), (6, .int 0), (5, .int x_12), (4, .int r_7), (2, .long r_6), (1, .int r_5), (0, .ref a0_)])
                  have g9 := g.sub (fx' := [(8, 6, q0_, .int x_261), (8, 8, q0_, .int x_260), (9, 9, q3_, .ref a_11), (2, 0, a0_, .ref q0_), (2, 1, a0_, .ref q1_), (2, 3, a0_, .ref q2_), (2, 4, a0_, .ref q3_), (2, 5, a0_, .ref q4_), (5, 1, q1_, .ref q5_)]) [0, 1, 2, 3, 4, 5, 6, 7, 8] rfl
                  exact ih199  y_266 0 x_261 x_260 (bd_sub b_267 (by decide)) (bd_sub kb_0 (by decide)) h_262 bx_260 (by have h9_0 := b_267; unfold bd at h9_0; have h9_1 := bv199_6; unfold bd at h9_1; have h9_2 := bv199_7; unfold bd at h9_2; have h9_3 := bw199_8_6_q0_; unfold bd at h9_3; have h9_4 := bw199_8_8_q0_; unfold bd at h9_4; have h9_5 := bx_260; unfold bd at h9_5; have h9_6 := h_262; unfold bd at h9_6; have h9_7 := kb_0; unfold bd at h9_7; have h9_8 := kb_1; unfold bd at h9_8; have h9_9 := kb_3; unfold bd at h9_9; have h9_10 := kb_41; unfold bd at h9_10; have h9_11 := kb_44; unfold bd at h9_11; have h9_12 := kb_m1; unfold bd at h9_12; omega) _ _ _ _ g9  hl9
                · have fc_265 := eq_f c_265
                  have b_268 : bd 44 44 r_264 := eqX fc_265 (bdT r_264) kb_44 (by decide)
                  refine lv_iconst (v := 1) hx hb dX2_readMemberHead_226 (by decide) ?_
                  refine lv_goto (tgt := 231) hx hb dX2_readMemberHead_227 (by decide) ?_
                  refine lv_istore (lv' := [(6, .int 1), (7, .int v199_7), (5, .int x_12), (4, .int r_7), (2, .long r_6), (1, .int r_5), (0, .ref a0_)]) hx hb dX2_readMemberHead_231 hl (by decide) rfl (fun ls hl => ?_)
                  refine lv_iload hx hb dX2_readMemberHead_233 (lv_at hl 0 rfl) ?_
                  refine lv_if_eq (tgt := 245) hx hb dX2_readMemberHead_235 (by decide) (fun c_ => absurd c_ (by decide)) (fun c_ => ?_)
                  refine lv_aload_n hx hb dX2_readMemberHead_238 rfl (lv_at hl 6 rfl) ?_
                  refine g_getk (C := RX2) (T := TX2) (N := 16) hx hb hts (mc_ inX2) hown hK g rfl 0 (by decide) rfl (hts _ (List.mem_cons_of_mem _ t_416)) (fun _ h9 => h9) 3 rfl dX2_readMemberHead_239 ?_
                  refine g_callv (va_runV (As := []) (rest := []) ⟨hx, hb, hml, hown, hts⟩ (r_X8_next l dC dI L kd tys fr_264 H.size g.2.2.2.1 q0_ mq0_ kq0_) (cwV 0 hts (gV_ t_1131 t_1103 t_1104 t_184 t_1105) rfl rfl rfl (by decide +kernel) ⟨(Nat.le_of_ble_eq_true rfl), (Nat.le_of_ble_eq_true rfl)⟩) (pre3V g hK mq0_ kq0_ (by decide) (q := (RX8, TX8, 10)) rfl) rfl rfl hl.1 rfl (lv_room (Nat.le_of_ble_eq_true rfl)) dX2_readMemberHead_242 ⟨(Nat.le_of_ble_eq_true rfl), (Nat.le_of_ble_eq_true rfl)⟩) g hK (by decide) (by decide) (fx' := [(8, 8, q0_, .int x_260), (9, 9, q3_, .ref a_11), (2, 0, a0_, .ref q0_), (2, 1, a0_, .ref q1_), (2, 3, a0_, .ref q2_), (2, 4, a0_, .ref q3_), (2, 5, a0_, .ref q4_), (5, 1, q1_, .ref q5_)]) rfl (fun fr_269 H locs hp hMr_269 g => ?_)
                  obtain ⟨x_270, h_271, hF_272⟩ := hp
                  have g := g.more hF_272
                  obtain ⟨y_273, ey_273⟩ : ∃ z : Int32, z = v199_7 + 1 := ⟨_, rfl⟩
                  refine lv_iinc (v := y_273) (lv' := [(7, .int y_273), (6, .int 1), (5, .int x_12), (4, .int r_7), (2, .long r_6), (1, .int r_5), (0, .ref a0_)]) hx hb dX2_readMemberHead_245 hl (k := 1) rfl (by rw [ey_273]; rfl) (by decide) rfl (fun ls hl => ?_)
                  have ty_273 := add_bd ey_273 b_240 kb_1 (by decide)
                  have b_274 : bd 1 4 y_273 := add_rg ty_273 b_240 kb_1 (by decide)
                  refine lv_goto (tgt := 199) hx hb dX2_readMemberHead_248 (by decide) ?_
                  have hl9 := lv_sub hl [0, 1, 2, 3, 4, 5, 6] (by rfl : lv_pick [(7, .int y_273), (6, .int 1), (5, .int x_12), (4, .int r_7), (2, .long r_6), (1, .int r_5), (0, .ref a0_)] [0, 1, 2, 3, 4, 5, 6] = [(7, .int y_273), (6, .int 1), (5, .int x_12), (4, .int r_7), (2, .long r_6), (1, .int r_5), (0, .ref a0_)])
                  have g9 := g.sub (fx' := [(8, 6, q0_, .int x_270), (8, 8, q0_, .int x_260), (9, 9, q3_, .ref a_11), (2, 0, a0_, .ref q0_), (2, 1, a0_, .ref q1_), (2, 3, a0_, .ref q2_), (2, 4, a0_, .ref q3_), (2, 5, a0_, .ref q4_), (5, 1, q1_, .ref q5_)]) [0, 1, 2, 3, 4, 5, 6, 7, 8] rfl
                  exact ih199  y_273 1 x_270 x_260 (bd_sub b_274 (by decide)) (bd_sub kb_1 (by decide)) h_271 bx_260 (by have h9_0 := b_274; unfold bd at h9_0; have h9_1 := bv199_6; unfold bd at h9_1; have h9_2 := bv199_7; unfold bd at h9_2; have h9_3 := bw199_8_6_q0_; unfold bd at h9_3; have h9_4 := bw199_8_8_q0_; unfold bd at h9_4; have h9_5 := bx_260; unfold bd at h9_5; have h9_6 := h_271; unfold bd at h9_6; have h9_7 := kb_0; unfold bd at h9_7; have h9_8 := kb_1; unfold bd at h9_8; have h9_9 := kb_3; unfold bd at h9_9; have h9_10 := kb_41; unfold bd at h9_10; have h9_11 := kb_44; unfold bd at h9_11; have h9_12 := kb_m1; unfold bd at h9_12; omega) _ _ _ _ g9  hl9
        have kb_0 : bd 0 0 (0 : Int32) := ⟨by decide, by decide⟩
        have hl9 := lv_sub hl [0, 1, 2, 3, 4, 5, 6] (by rfl : lv_pick [(7, .int 0), (6, .int 1), (5, .int x_12), (4, .int r_7), (2, .long r_6), (1, .int r_5), (0, .ref a0_)] [0, 1, 2, 3, 4, 5, 6] = [(7, .int 0), (6, .int 1), (5, .int x_12), (4, .int r_7), (2, .long r_6), (1, .int r_5), (0, .ref a0_)])
        have g9 := g.sub (fx' := [(8, 6, q0_, .int x_201), (8, 8, q0_, .int x_200), (9, 9, q3_, .ref a_11), (2, 0, a0_, .ref q0_), (2, 1, a0_, .ref q1_), (2, 3, a0_, .ref q2_), (2, 4, a0_, .ref q3_), (2, 5, a0_, .ref q4_), (5, 1, q1_, .ref q5_)]) [0, 1, 2, 3, 4, 5, 6, 7, 8] rfl
        exact loop_222 (11) 0 1 x_201 x_200 (bd_sub kb_0 (by decide)) (bd_sub kb_1 (by decide)) h_202 bx_200 (by have h9_0 := bx_200; unfold bd at h9_0; have h9_1 := h_202; unfold bd at h9_1; have h9_2 := kb_0; unfold bd at h9_2; have h9_3 := kb_1; unfold bd at h9_3; have h9_4 := kb_3; unfold bd at h9_4; have h9_5 := kb_41; unfold bd at h9_5; have h9_6 := kb_m1; unfold bd at h9_6; omega) _ _ _ _ g9  hl9
  · have fc_9 := eq_f c_9
    have b_275 : bd (-1) (-1) r_7 := eqX fc_9 h_8 kb_m1 (by decide)
    refine lv_iconst (v := (-1)) hx hb dX2_readMemberHead_43 (by decide) ?_
    refine lv_goto (tgt := 57) hx hb dX2_readMemberHead_44 (by decide) ?_
    refine lv_istore (lv' := [(5, .int (-1)), (4, .int r_7), (2, .long r_6), (1, .int r_5), (0, .ref a0_)]) hx hb dX2_readMemberHead_57 hl (by decide) rfl (fun ls hl => ?_)
    refine lv_aload_n hx hb dX2_readMemberHead_59 rfl (lv_at hl 4 rfl) ?_
    refine g_getk (C := RX2) (T := TX2) (N := 16) hx hb hts (mc_ inX2) hown hK g rfl 0 (by decide) rfl (hts _ (List.mem_cons_of_mem _ t_416)) (fun _ h9 => h9) 1 rfl dX2_readMemberHead_60 ?_
    refine g_calli (va_runV (As := []) (rest := []) ⟨hx, hb, hml, hown, hts⟩ (r_X8_kind l dC dI L kd tys fr_7 H.size g.2.2.2.1 q0_ mq0_ kq0_) (cwV 0 hts (gV_ t_1118 t_1119 t_1120 t_184 t_1121) rfl rfl rfl (by decide +kernel) ⟨(Nat.le_of_ble_eq_true rfl), (Nat.le_of_ble_eq_true rfl)⟩) (pre3V g hK mq0_ kq0_ (by decide) (q := (RX8, TX8, 10)) rfl) rfl rfl hl.1 rfl (lv_room (Nat.le_of_ble_eq_true rfl)) dX2_readMemberHead_63 ⟨(Nat.le_of_ble_eq_true rfl), (Nat.le_of_ble_eq_true rfl)⟩) g hK (by decide) (by decide) (fx' := [(8, 6, q0_, .int x_2), (2, 0, a0_, .ref q0_), (2, 1, a0_, .ref q1_), (2, 3, a0_, .ref q2_), (2, 4, a0_, .ref q3_), (2, 5, a0_, .ref q4_), (5, 1, q1_, .ref q5_)]) rfl (fun r_276 fr_276 H locs hp hMr_276 g => ?_)
    refine lv_iconst (v := 3) hx hb dX2_readMemberHead_66 (by decide) ?_
    have kb_3 : bd 3 3 (3 : Int32) := ⟨by decide, by decide⟩
    refine lv_icmp_eq (tgt := 82) hx hb dX2_readMemberHead_67 (by decide) (fun c_277 => ?_) (fun c_277 => ?_)
    · have fc_277 := eq_f c_277
      have b_278 : bd 3 3 r_276 := eqX fc_277 (bdT r_276) kb_3 (by decide)
      refine lv_iload hx hb dX2_readMemberHead_82 (lv_at hl 0 rfl) ?_
      refine lv_iconst (v := (-1)) hx hb dX2_readMemberHead_84 (by decide) ?_
      refine lv_icmp_eq (tgt := 123) hx hb dX2_readMemberHead_85 (by decide) (fun c_ => ?_) (fun c_ => absurd (by decide) c_)
      refine lv_iload hx hb dX2_readMemberHead_123 (lv_at hl 0 rfl) ?_
      refine lv_iconst (v := (-1)) hx hb dX2_readMemberHead_125 (by decide) ?_
      refine lv_icmp_ne (tgt := 153) hx hb dX2_readMemberHead_126 (by decide) (fun c_ => absurd c_ (by decide)) (fun c_ => ?_)
      refine lv_aload_n hx hb dX2_readMemberHead_129 rfl (lv_at hl 4 rfl) ?_
      refine g_getk (C := RX2) (T := TX2) (N := 16) hx hb hts (mc_ inX2) hown hK g rfl 4 (by decide) rfl (hts _ (List.mem_cons_of_mem _ t_420)) (fun _ h9 => h9) 4 rfl dX2_readMemberHead_130 ?_
      refine g_geti (C := RX9) (T := TX9) (N := 13) hx hb hts (mc_ inX9) hown hK g mq3_ kq3_ (by decide) rfl 8 (by decide) rfl (hts _ (List.mem_cons_of_mem _ t_502)) (fun _ h9 => h9) rfl dX2_readMemberHead_133 (fun x_279 bx_279 g => ?_)
      refine lv_bipush (v := 12) hx hb dX2_readMemberHead_136 (by decide) ?_
      have kb_12 : bd 12 12 (12 : Int32) := ⟨by decide, by decide⟩
      refine lv_icmp_lt (tgt := 153) hx hb dX2_readMemberHead_138 (by decide) (fun c_280 => ?_) (fun c_280 => ?_)
      · have fc_280 := lt_f c_280
        have b_281 : bd 0 11 x_279 := ltL fc_280 bx_279 kb_12 (by decide)
        refine lv_aload_n hx hb dX2_readMemberHead_153 rfl (lv_at hl 4 rfl) ?_
        refine lv_lload_n hx hb dX2_readMemberHead_154 rfl (lv_at hl 2 rfl) ?_
        refine lv_iload_n hx hb dX2_readMemberHead_155 rfl (lv_at hl 3 rfl) ?_
        refine lv_iload hx hb dX2_readMemberHead_156 (lv_at hl 1 rfl) ?_
        refine g_callv (va_runV (As := [.long r_6, .int r_5, .int r_7]) (rest := []) ⟨hx, hb, hml, hown, hts⟩ (r_X2_beginTelling_2 l dC dI L kd tys fr_276 H.size g.2.2.2.1 a0_ ma0_ ka0_ r_6 r_5 r_7 b_275 q2_ mq2_ kq2_ q3_ mq3_ kq3_ x_279 b_281 (g.fcts [4, 5, 0] rfl)) (cwV 3 hts (gV_ t_1307 t_1309 t_33 t_183 t_1310) rfl rfl rfl (by decide +kernel) ⟨(Nat.le_of_ble_eq_true rfl), (Nat.le_of_ble_eq_true rfl)⟩) (pre3V g hK ma0_ ka0_ (by decide) (q := (RX2, TX2, 16)) rfl) rfl rfl hl.1 rfl (lv_room (Nat.le_of_ble_eq_true rfl)) dX2_readMemberHead_158 ⟨(Nat.le_of_ble_eq_true rfl), (Nat.le_of_ble_eq_true rfl)⟩) g hK (by decide) (by decide) (fx' := [(8, 6, q0_, .int x_2), (2, 0, a0_, .ref q0_), (2, 1, a0_, .ref q1_), (2, 3, a0_, .ref q2_), (2, 4, a0_, .ref q3_), (5, 1, q1_, .ref q5_)]) rfl (fun fr_282 H locs hp hMr_282 g => ?_)
        obtain ⟨x_283, h_284, a_285, ⟨ma_285, ka_285⟩, x_286, h_287, hF_288⟩ := hp
        have g := g.more hF_288
        refine lv_aload_n hx hb dX2_readMemberHead_161 rfl (lv_at hl 4 rfl) ?_
        refine g_getk (C := RX2) (T := TX2) (N := 16) hx hb hts (mc_ inX2) hown hK g rfl 0 (by decide) rfl (hts _ (List.mem_cons_of_mem _ t_416)) (fun _ h9 => h9) 5 rfl dX2_readMemberHead_162 ?_
        refine g_callv (va_runV (As := []) (rest := []) ⟨hx, hb, hml, hown, hts⟩ (r_X8_next l dC dI L kd tys fr_282 H.size g.2.2.2.1 q0_ mq0_ kq0_) (cwV 0 hts (gV_ t_1131 t_1103 t_1104 t_184 t_1105) rfl rfl rfl (by decide +kernel) ⟨(Nat.le_of_ble_eq_true rfl), (Nat.le_of_ble_eq_true rfl)⟩) (pre3V g hK mq0_ kq0_ (by decide) (q := (RX8, TX8, 10)) rfl) rfl rfl hl.1 rfl (lv_room (Nat.le_of_ble_eq_true rfl)) dX2_readMemberHead_165 ⟨(Nat.le_of_ble_eq_true rfl), (Nat.le_of_ble_eq_true rfl)⟩) g hK (by decide) (by decide) (fx' := [(2, 6, a0_, .int 0), (9, 8, q3_, .int x_283), (2, 5, a0_, .ref a_285), (7, 3, q2_, .int x_286), (2, 0, a0_, .ref q0_), (2, 1, a0_, .ref q1_), (2, 3, a0_, .ref q2_), (2, 4, a0_, .ref q3_), (5, 1, q1_, .ref q5_)]) rfl (fun fr_289 H locs hp hMr_289 g => ?_)
        obtain ⟨x_290, h_291, hF_292⟩ := hp
        have g := g.more hF_292
        refine lv_aload_n hx hb dX2_readMemberHead_168 rfl (lv_at hl 4 rfl) ?_
        refine g_getk (C := RX2) (T := TX2) (N := 16) hx hb hts (mc_ inX2) hown hK g rfl 0 (by decide) rfl (hts _ (List.mem_cons_of_mem _ t_416)) (fun _ h9 => h9) 5 rfl dX2_readMemberHead_169 ?_
        refine lv_bipush (v := 40) hx hb dX2_readMemberHead_172 (by decide) ?_
        refine g_callv (va_runV (As := [.int 40]) (rest := []) ⟨hx, hb, hml, hown, hts⟩ (r_X8_take l dC dI L kd tys fr_289 H.size g.2.2.2.1 q0_ mq0_ kq0_ 40) (cwV 1 hts (gV_ t_1098 t_1099 t_1100 t_184 t_1101) rfl rfl rfl (by decide +kernel) ⟨(Nat.le_of_ble_eq_true rfl), (Nat.le_of_ble_eq_true rfl)⟩) (pre3V g hK mq0_ kq0_ (by decide) (q := (RX8, TX8, 10)) rfl) rfl rfl hl.1 rfl (lv_room (Nat.le_of_ble_eq_true rfl)) dX2_readMemberHead_174 ⟨(Nat.le_of_ble_eq_true rfl), (Nat.le_of_ble_eq_true rfl)⟩) g hK (by decide) (by decide) (fx' := [(2, 6, a0_, .int 0), (9, 8, q3_, .int x_283), (2, 5, a0_, .ref a_285), (7, 3, q2_, .int x_286), (2, 0, a0_, .ref q0_), (2, 1, a0_, .ref q1_), (2, 3, a0_, .ref q2_), (2, 4, a0_, .ref q3_), (5, 1, q1_, .ref q5_)]) rfl (fun fr_293 H locs hp hMr_293 g => ?_)
        obtain ⟨x_294, h_295, hF_296⟩ := hp
        have g := g.more hF_296
        refine lv_aload_n hx hb dX2_readMemberHead_177 rfl (lv_at hl 4 rfl) ?_
        refine g_getk (C := RX2) (T := TX2) (N := 16) hx hb hts (mc_ inX2) hown hK g rfl 0 (by decide) rfl (hts _ (List.mem_cons_of_mem _ t_416)) (fun _ h9 => h9) 5 rfl dX2_readMemberHead_178 ?_
        refine g_calli (va_runV (As := []) (rest := []) ⟨hx, hb, hml, hown, hts⟩ (r_X8_kind l dC dI L kd tys fr_293 H.size g.2.2.2.1 q0_ mq0_ kq0_) (cwV 0 hts (gV_ t_1118 t_1119 t_1120 t_184 t_1121) rfl rfl rfl (by decide +kernel) ⟨(Nat.le_of_ble_eq_true rfl), (Nat.le_of_ble_eq_true rfl)⟩) (pre3V g hK mq0_ kq0_ (by decide) (q := (RX8, TX8, 10)) rfl) rfl rfl hl.1 rfl (lv_room (Nat.le_of_ble_eq_true rfl)) dX2_readMemberHead_181 ⟨(Nat.le_of_ble_eq_true rfl), (Nat.le_of_ble_eq_true rfl)⟩) g hK (by decide) (by decide) (fx' := [(8, 6, q0_, .int x_294), (2, 6, a0_, .int 0), (9, 8, q3_, .int x_283), (2, 5, a0_, .ref a_285), (7, 3, q2_, .int x_286), (2, 0, a0_, .ref q0_), (2, 1, a0_, .ref q1_), (2, 3, a0_, .ref q2_), (2, 4, a0_, .ref q3_), (5, 1, q1_, .ref q5_)]) rfl (fun r_297 fr_297 H locs hp hMr_297 g => ?_)
        refine lv_bipush (v := 41) hx hb dX2_readMemberHead_184 (by decide) ?_
        have kb_41 : bd 41 41 (41 : Int32) := ⟨by decide, by decide⟩
        refine lv_icmp_eq (tgt := 193) hx hb dX2_readMemberHead_186 (by decide) (fun c_298 => ?_) (fun c_298 => ?_)
        · have fc_298 := eq_f c_298
          have b_299 : bd 41 41 r_297 := eqX fc_298 (bdT r_297) kb_41 (by decide)
          refine lv_iconst (v := 0) hx hb dX2_readMemberHead_193 (by decide) ?_
          refine lv_istore (lv' := [(6, .int 0), (5, .int (-1)), (4, .int r_7), (2, .long r_6), (1, .int r_5), (0, .ref a0_)]) hx hb dX2_readMemberHead_194 hl (by decide) rfl (fun ls hl => ?_)
          refine lv_iconst (v := 0) hx hb dX2_readMemberHead_196 (by decide) ?_
          refine lv_istore (lv' := [(7, .int 0), (6, .int 0), (5, .int (-1)), (4, .int r_7), (2, .long r_6), (1, .int r_5), (0, .ref a0_)]) hx hb dX2_readMemberHead_197 hl (by decide) rfl (fun ls hl => ?_)
          refine lv_iload hx hb dX2_readMemberHead_199 (lv_at hl 0 rfl) ?_
          refine lv_iconst (v := 3) hx hb dX2_readMemberHead_201 (by decide) ?_
          refine lv_icmp_gt (tgt := 251) hx hb dX2_readMemberHead_202 (by decide) (fun c_ => absurd c_ (by decide)) (fun c_ => ?_)
          refine lv_iload hx hb dX2_readMemberHead_205 (lv_at hl 1 rfl) ?_
          refine lv_if_eq (tgt := 251) hx hb dX2_readMemberHead_207 (by decide) (fun c_ => ?_) (fun c_ => absurd (by decide) c_)
          refine lv_aload_n hx hb dX2_readMemberHead_251 rfl (lv_at hl 6 rfl) ?_
          refine g_getk (C := RX2) (T := TX2) (N := 16) hx hb hts (mc_ inX2) hown hK g rfl 0 (by decide) rfl (hts _ (List.mem_cons_of_mem _ t_416)) (fun _ h9 => h9) 5 rfl dX2_readMemberHead_252 ?_
          refine g_calli (va_runV (As := []) (rest := []) ⟨hx, hb, hml, hown, hts⟩ (r_X8_place l dC dI L kd tys fr_297 H.size g.2.2.2.1 q0_ mq0_ kq0_) (cwV 0 hts (gV_ t_1110 t_1111 t_1112 t_184 t_1113) rfl rfl rfl (by decide +kernel) ⟨(Nat.le_of_ble_eq_true rfl), (Nat.le_of_ble_eq_true rfl)⟩) (pre3V g hK mq0_ kq0_ (by decide) (q := (RX8, TX8, 10)) rfl) rfl rfl hl.1 rfl (lv_room (Nat.le_of_ble_eq_true rfl)) dX2_readMemberHead_255 ⟨(Nat.le_of_ble_eq_true rfl), (Nat.le_of_ble_eq_true rfl)⟩) g hK (by decide) (by decide) (fx' := [(8, 6, q0_, .int x_294), (2, 6, a0_, .int 0), (9, 8, q3_, .int x_283), (2, 5, a0_, .ref a_285), (7, 3, q2_, .int x_286), (2, 0, a0_, .ref q0_), (2, 1, a0_, .ref q1_), (2, 3, a0_, .ref q2_), (2, 4, a0_, .ref q3_), (5, 1, q1_, .ref q5_)]) rfl (fun r_300 fr_300 H locs hp hMr_300 g => ?_)
          refine lv_istore (lv' := [(7, .int r_300), (6, .int 0), (5, .int (-1)), (4, .int r_7), (2, .long r_6), (1, .int r_5), (0, .ref a0_)]) hx hb dX2_readMemberHead_258 hl (by decide) rfl (fun ls hl => ?_)
          refine lv_aload_n hx hb dX2_readMemberHead_260 rfl (lv_at hl 6 rfl) ?_
          refine g_getk (C := RX2) (T := TX2) (N := 16) hx hb hts (mc_ inX2) hown hK g rfl 0 (by decide) rfl (hts _ (List.mem_cons_of_mem _ t_416)) (fun _ h9 => h9) 5 rfl dX2_readMemberHead_261 ?_
          refine lv_bipush (v := 41) hx hb dX2_readMemberHead_264 (by decide) ?_
          refine g_callv (va_runV (As := [.int 41]) (rest := []) ⟨hx, hb, hml, hown, hts⟩ (r_X8_take l dC dI L kd tys fr_300 H.size g.2.2.2.1 q0_ mq0_ kq0_ 41) (cwV 1 hts (gV_ t_1098 t_1099 t_1100 t_184 t_1101) rfl rfl rfl (by decide +kernel) ⟨(Nat.le_of_ble_eq_true rfl), (Nat.le_of_ble_eq_true rfl)⟩) (pre3V g hK mq0_ kq0_ (by decide) (q := (RX8, TX8, 10)) rfl) rfl rfl hl.1 rfl (lv_room (Nat.le_of_ble_eq_true rfl)) dX2_readMemberHead_266 ⟨(Nat.le_of_ble_eq_true rfl), (Nat.le_of_ble_eq_true rfl)⟩) g hK (by decide) (by decide) (fx' := [(2, 6, a0_, .int 0), (9, 8, q3_, .int x_283), (2, 5, a0_, .ref a_285), (7, 3, q2_, .int x_286), (2, 0, a0_, .ref q0_), (2, 1, a0_, .ref q1_), (2, 3, a0_, .ref q2_), (2, 4, a0_, .ref q3_), (5, 1, q1_, .ref q5_)]) rfl (fun fr_301 H locs hp hMr_301 g => ?_)
          obtain ⟨x_302, h_303, hF_304⟩ := hp
          have g := g.more hF_304
          refine lv_iload hx hb dX2_readMemberHead_269 (lv_at hl 2 rfl) ?_
          refine lv_iconst (v := (-1)) hx hb dX2_readMemberHead_271 (by decide) ?_
          refine lv_icmp_eq (tgt := 308) hx hb dX2_readMemberHead_272 (by decide) (fun c_ => ?_) (fun c_ => absurd (by decide) c_)
          subst hQ
          exact W.vret hx hb hr (fun t ht hW => ⟨⟨_, rfl, ⟨x_302, h_303, a_285, ⟨ma_285, ka_285⟩, (g.fcts [0, 3] rfl)⟩, q3_of g hK ht hW⟩, g.2.2.1.F ht⟩) g.2.2.1.2.2 dX2_readMemberHead_308
        · have fc_298 := neq_f c_298
          refine lv_iconst (v := 1) hx hb dX2_readMemberHead_189 (by decide) ?_
          refine lv_goto (tgt := 194) hx hb dX2_readMemberHead_190 (by decide) ?_
          refine lv_istore (lv' := [(6, .int 1), (5, .int (-1)), (4, .int r_7), (2, .long r_6), (1, .int r_5), (0, .ref a0_)]) hx hb dX2_readMemberHead_194 hl (by decide) rfl (fun ls hl => ?_)
          refine lv_iconst (v := 0) hx hb dX2_readMemberHead_196 (by decide) ?_
          refine lv_istore (lv' := [(7, .int 0), (6, .int 1), (5, .int (-1)), (4, .int r_7), (2, .long r_6), (1, .int r_5), (0, .ref a0_)]) hx hb dX2_readMemberHead_197 hl (by decide) rfl (fun ls hl => ?_)
          have loop_305 : ∀ (n : Nat) (v199_7 : Int32) (v199_6 : Int32) (w199_8_6_q0_ : Int32), bd 0 4 v199_7 → bd 0 1 v199_6 → bd 1 1201 w199_8_6_q0_ → (4 - v199_7.toInt < (n : Int)) → ∀ (f : Nat → va_E) (H : Heap) (locs : List Loc) (ls : Array Slot), G3 (dC, dI) L kd tys s f0 [(2, 5), (2, 6), (5, 4), (6, 0), (6, 1), (6, 2), (6, 3), (6, 6), (6, 7), (6, 8), (6, 9), (6, 10), (6, 11), (6, 12), (7, 3), (8, 6), (8, 8), (8, 9), (9, 8)] [132, 134, 135, 156] f H locs [(8, 6, q0_, .int w199_8_6_q0_), (2, 6, a0_, .int 0), (9, 8, q3_, .int x_283), (2, 5, a0_, .ref a_285), (7, 3, q2_, .int x_286), (2, 0, a0_, .ref q0_), (2, 1, a0_, .ref q1_), (2, 3, a0_, .ref q2_), (2, 4, a0_, .ref q3_), (5, 1, q1_, .ref q5_)] → lv_has ls 8 [(7, .int v199_7), (6, .int v199_6), (5, .int (-1)), (4, .int r_7), (2, .long r_6), (1, .int r_5), (0, .ref a0_)] → W p l e ({ frames := 3, cells := 0, slots := 0, locals := 72 } : Room) s m [.ref a0_].toArray below meth c H locs 0 0 Q (F0 m 199 ls []) := by
            intro n199
            induction n199 with
            | zero =>
              intro v199_7 v199_6 w199_8_6_q0_ bv199_7 bv199_6 bw199_8_6_q0_ hm199 f H locs ls g  hl
              exact absurd hm199 (by have h9_v199_7 := bv199_7; unfold bd at h9_v199_7; have h9_v199_6 := bv199_6; unfold bd at h9_v199_6; have h9_w199_8_6_q0_ := bw199_8_6_q0_; unfold bd at h9_w199_8_6_q0_; omega)
            | succ n199 ih199 =>
              intro v199_7 v199_6 w199_8_6_q0_ bv199_7 bv199_6 bw199_8_6_q0_ hm199 f H locs ls g  hl
              refine lv_iload hx hb dX2_readMemberHead_199 (lv_at hl 0 rfl) ?_
              refine lv_iconst (v := 3) hx hb dX2_readMemberHead_201 (by decide) ?_
              refine lv_icmp_gt (tgt := 251) hx hb dX2_readMemberHead_202 (by decide) (fun c_306 => ?_) (fun c_306 => ?_)
              · have fc_306 := lt_f c_306
                have b_307 : bd 4 4 v199_7 := ltR fc_306 kb_3 bv199_7 (by decide)
                refine lv_aload_n hx hb dX2_readMemberHead_251 rfl (lv_at hl 6 rfl) ?_
                refine g_getk (C := RX2) (T := TX2) (N := 16) hx hb hts (mc_ inX2) hown hK g rfl 0 (by decide) rfl (hts _ (List.mem_cons_of_mem _ t_416)) (fun _ h9 => h9) 5 rfl dX2_readMemberHead_252 ?_
                refine g_calli (va_runV (As := []) (rest := []) ⟨hx, hb, hml, hown, hts⟩ (r_X8_place l dC dI L kd tys f H.size g.2.2.2.1 q0_ mq0_ kq0_) (cwV 0 hts (gV_ t_1110 t_1111 t_1112 t_184 t_1113) rfl rfl rfl (by decide +kernel) ⟨(Nat.le_of_ble_eq_true rfl), (Nat.le_of_ble_eq_true rfl)⟩) (pre3V g hK mq0_ kq0_ (by decide) (q := (RX8, TX8, 10)) rfl) rfl rfl hl.1 rfl (lv_room (Nat.le_of_ble_eq_true rfl)) dX2_readMemberHead_255 ⟨(Nat.le_of_ble_eq_true rfl), (Nat.le_of_ble_eq_true rfl)⟩) g hK (by decide) (by decide) (fx' := [(8, 6, q0_, .int w199_8_6_q0_), (2, 6, a0_, .int 0), (9, 8, q3_, .int x_283), (2, 5, a0_, .ref a_285), (7, 3, q2_, .int x_286), (2, 0, a0_, .ref q0_), (2, 1, a0_, .ref q1_), (2, 3, a0_, .ref q2_), (2, 4, a0_, .ref q3_), (5, 1, q1_, .ref q5_)]) rfl (fun r_308 fr_308 H locs hp hMr_308 g => ?_)
                refine lv_istore (lv' := [(7, .int r_308), (6, .int v199_6), (5, .int (-1)), (4, .int r_7), (2, .long r_6), (1, .int r_5), (0, .ref a0_)]) hx hb dX2_readMemberHead_258 hl (by decide) rfl (fun ls hl => ?_)
                refine lv_aload_n hx hb dX2_readMemberHead_260 rfl (lv_at hl 6 rfl) ?_
                refine g_getk (C := RX2) (T := TX2) (N := 16) hx hb hts (mc_ inX2) hown hK g rfl 0 (by decide) rfl (hts _ (List.mem_cons_of_mem _ t_416)) (fun _ h9 => h9) 5 rfl dX2_readMemberHead_261 ?_
                refine lv_bipush (v := 41) hx hb dX2_readMemberHead_264 (by decide) ?_
                refine g_callv (va_runV (As := [.int 41]) (rest := []) ⟨hx, hb, hml, hown, hts⟩ (r_X8_take l dC dI L kd tys fr_308 H.size g.2.2.2.1 q0_ mq0_ kq0_ 41) (cwV 1 hts (gV_ t_1098 t_1099 t_1100 t_184 t_1101) rfl rfl rfl (by decide +kernel) ⟨(Nat.le_of_ble_eq_true rfl), (Nat.le_of_ble_eq_true rfl)⟩) (pre3V g hK mq0_ kq0_ (by decide) (q := (RX8, TX8, 10)) rfl) rfl rfl hl.1 rfl (lv_room (Nat.le_of_ble_eq_true rfl)) dX2_readMemberHead_266 ⟨(Nat.le_of_ble_eq_true rfl), (Nat.le_of_ble_eq_true rfl)⟩) g hK (by decide) (by decide) (fx' := [(2, 6, a0_, .int 0), (9, 8, q3_, .int x_283), (2, 5, a0_, .ref a_285), (7, 3, q2_, .int x_286), (2, 0, a0_, .ref q0_), (2, 1, a0_, .ref q1_), (2, 3, a0_, .ref q2_), (2, 4, a0_, .ref q3_), (5, 1, q1_, .ref q5_)]) rfl (fun fr_309 H locs hp hMr_309 g => ?_)
                obtain ⟨x_310, h_311, hF_312⟩ := hp
                have g := g.more hF_312
                refine lv_iload hx hb dX2_readMemberHead_269 (lv_at hl 2 rfl) ?_
                refine lv_iconst (v := (-1)) hx hb dX2_readMemberHead_271 (by decide) ?_
                refine lv_icmp_eq (tgt := 308) hx hb dX2_readMemberHead_272 (by decide) (fun c_ => ?_) (fun c_ => absurd (by decide) c_)
                subst hQ
                exact W.vret hx hb hr (fun t ht hW => ⟨⟨_, rfl, ⟨x_310, h_311, a_285, ⟨ma_285, ka_285⟩, (g.fcts [0, 3] rfl)⟩, q3_of g hK ht hW⟩, g.2.2.1.F ht⟩) g.2.2.1.2.2 dX2_readMemberHead_308
              · have fc_306 := nlt_f c_306
                have b_313 : bd 0 3 v199_7 := leL fc_306 bv199_7 kb_3 (by decide)
                refine lv_iload hx hb dX2_readMemberHead_205 (lv_at hl 1 rfl) ?_
                have kb_0 : bd 0 0 (0 : Int32) := ⟨by decide, by decide⟩
                refine lv_if_eq (tgt := 251) hx hb dX2_readMemberHead_207 (by decide) (fun c_314 => ?_) (fun c_314 => ?_)
                · have fc_314 := eq_f c_314
                  have b_315 : bd 0 0 v199_6 := eqX fc_314 bv199_6 kb_0 (by decide)
                  refine lv_aload_n hx hb dX2_readMemberHead_251 rfl (lv_at hl 6 rfl) ?_
                  refine g_getk (C := RX2) (T := TX2) (N := 16) hx hb hts (mc_ inX2) hown hK g rfl 0 (by decide) rfl (hts _ (List.mem_cons_of_mem _ t_416)) (fun _ h9 => h9) 5 rfl dX2_readMemberHead_252 ?_
                  refine g_calli (va_runV (As := []) (rest := []) ⟨hx, hb, hml, hown, hts⟩ (r_X8_place l dC dI L kd tys f H.size g.2.2.2.1 q0_ mq0_ kq0_) (cwV 0 hts (gV_ t_1110 t_1111 t_1112 t_184 t_1113) rfl rfl rfl (by decide +kernel) ⟨(Nat.le_of_ble_eq_true rfl), (Nat.le_of_ble_eq_true rfl)⟩) (pre3V g hK mq0_ kq0_ (by decide) (q := (RX8, TX8, 10)) rfl) rfl rfl hl.1 rfl (lv_room (Nat.le_of_ble_eq_true rfl)) dX2_readMemberHead_255 ⟨(Nat.le_of_ble_eq_true rfl), (Nat.le_of_ble_eq_true rfl)⟩) g hK (by decide) (by decide) (fx' := [(8, 6, q0_, .int w199_8_6_q0_), (2, 6, a0_, .int 0), (9, 8, q3_, .int x_283), (2, 5, a0_, .ref a_285), (7, 3, q2_, .int x_286), (2, 0, a0_, .ref q0_), (2, 1, a0_, .ref q1_), (2, 3, a0_, .ref q2_), (2, 4, a0_, .ref q3_), (5, 1, q1_, .ref q5_)]) rfl (fun r_316 fr_316 H locs hp hMr_316 g => ?_)
                  refine lv_istore (lv' := [(7, .int r_316), (6, .int v199_6), (5, .int (-1)), (4, .int r_7), (2, .long r_6), (1, .int r_5), (0, .ref a0_)]) hx hb dX2_readMemberHead_258 hl (by decide) rfl (fun ls hl => ?_)
                  refine lv_aload_n hx hb dX2_readMemberHead_260 rfl (lv_at hl 6 rfl) ?_
                  refine g_getk (C := RX2) (T := TX2) (N := 16) hx hb hts (mc_ inX2) hown hK g rfl 0 (by decide) rfl (hts _ (List.mem_cons_of_mem _ t_416)) (fun _ h9 => h9) 5 rfl dX2_readMemberHead_261 ?_
                  refine lv_bipush (v := 41) hx hb dX2_readMemberHead_264 (by decide) ?_
                  refine g_callv (va_runV (As := [.int 41]) (rest := []) ⟨hx, hb, hml, hown, hts⟩ (r_X8_take l dC dI L kd tys fr_316 H.size g.2.2.2.1 q0_ mq0_ kq0_ 41) (cwV 1 hts (gV_ t_1098 t_1099 t_1100 t_184 t_1101) rfl rfl rfl (by decide +kernel) ⟨(Nat.le_of_ble_eq_true rfl), (Nat.le_of_ble_eq_true rfl)⟩) (pre3V g hK mq0_ kq0_ (by decide) (q := (RX8, TX8, 10)) rfl) rfl rfl hl.1 rfl (lv_room (Nat.le_of_ble_eq_true rfl)) dX2_readMemberHead_266 ⟨(Nat.le_of_ble_eq_true rfl), (Nat.le_of_ble_eq_true rfl)⟩) g hK (by decide) (by decide) (fx' := [(2, 6, a0_, .int 0), (9, 8, q3_, .int x_283), (2, 5, a0_, .ref a_285), (7, 3, q2_, .int x_286), (2, 0, a0_, .ref q0_), (2, 1, a0_, .ref q1_), (2, 3, a0_, .ref q2_), (2, 4, a0_, .ref q3_), (5, 1, q1_, .ref q5_)]) rfl (fun fr_317 H locs hp hMr_317 g => ?_)
                  obtain ⟨x_318, h_319, hF_320⟩ := hp
                  have g := g.more hF_320
                  refine lv_iload hx hb dX2_readMemberHead_269 (lv_at hl 2 rfl) ?_
                  refine lv_iconst (v := (-1)) hx hb dX2_readMemberHead_271 (by decide) ?_
                  refine lv_icmp_eq (tgt := 308) hx hb dX2_readMemberHead_272 (by decide) (fun c_ => ?_) (fun c_ => absurd (by decide) c_)
                  subst hQ
                  exact W.vret hx hb hr (fun t ht hW => ⟨⟨_, rfl, ⟨x_318, h_319, a_285, ⟨ma_285, ka_285⟩, (g.fcts [0, 3] rfl)⟩, q3_of g hK ht hW⟩, g.2.2.1.F ht⟩) g.2.2.1.2.2 dX2_readMemberHead_308
                · have fc_314 := neq_f c_314
                  have b_321 : bd 1 1 v199_6 := neX fc_314 bv199_6 kb_0 (by decide)
                  refine lv_aload_n hx hb dX2_readMemberHead_210 rfl (lv_at hl 6 rfl) ?_
                  refine g_callv (va_runV (As := []) (rest := []) ⟨hx, hb, hml, hown, hts⟩ (r_X2_readParam l dC dI L kd tys f H.size g.2.2.2.1 a0_ ma0_ ka0_ q0_ mq0_ kq0_ q1_ mq1_ kq1_ a_285 ma_285 ka_285 q5_ mq5_ kq5_ (g.fcts [5, 6, 3, 9] rfl)) (cwV 0 hts (gV_ t_1313 t_1315 t_34 t_183 t_1316) rfl rfl rfl (by decide +kernel) ⟨(Nat.le_of_ble_eq_true rfl), (Nat.le_of_ble_eq_true rfl)⟩) (pre3V g hK ma0_ ka0_ (by decide) (q := (RX2, TX2, 16)) rfl) rfl rfl hl.1 rfl (lv_room (Nat.le_of_ble_eq_true rfl)) dX2_readMemberHead_211 ⟨(Nat.le_of_ble_eq_true rfl), (Nat.le_of_ble_eq_true rfl)⟩) g hK (by decide) (by decide) (fx' := [(2, 6, a0_, .int 0), (9, 8, q3_, .int x_283), (2, 5, a0_, .ref a_285), (7, 3, q2_, .int x_286), (2, 0, a0_, .ref q0_), (2, 1, a0_, .ref q1_), (2, 3, a0_, .ref q2_), (2, 4, a0_, .ref q3_), (5, 1, q1_, .ref q5_)]) rfl (fun fr_322 H locs hp hMr_322 g => ?_)
                  obtain ⟨x_323, h_324, hF_325⟩ := hp
                  have g := g.more hF_325
                  refine lv_aload_n hx hb dX2_readMemberHead_214 rfl (lv_at hl 6 rfl) ?_
                  refine g_getk (C := RX2) (T := TX2) (N := 16) hx hb hts (mc_ inX2) hown hK g rfl 0 (by decide) rfl (hts _ (List.mem_cons_of_mem _ t_416)) (fun _ h9 => h9) 5 rfl dX2_readMemberHead_215 ?_
                  refine g_calli (va_runV (As := []) (rest := []) ⟨hx, hb, hml, hown, hts⟩ (r_X8_kind l dC dI L kd tys fr_322 H.size g.2.2.2.1 q0_ mq0_ kq0_) (cwV 0 hts (gV_ t_1118 t_1119 t_1120 t_184 t_1121) rfl rfl rfl (by decide +kernel) ⟨(Nat.le_of_ble_eq_true rfl), (Nat.le_of_ble_eq_true rfl)⟩) (pre3V g hK mq0_ kq0_ (by decide) (q := (RX8, TX8, 10)) rfl) rfl rfl hl.1 rfl (lv_room (Nat.le_of_ble_eq_true rfl)) dX2_readMemberHead_218 ⟨(Nat.le_of_ble_eq_true rfl), (Nat.le_of_ble_eq_true rfl)⟩) g hK (by decide) (by decide) (fx' := [(8, 6, q0_, .int x_323), (2, 6, a0_, .int 0), (9, 8, q3_, .int x_283), (2, 5, a0_, .ref a_285), (7, 3, q2_, .int x_286), (2, 0, a0_, .ref q0_), (2, 1, a0_, .ref q1_), (2, 3, a0_, .ref q2_), (2, 4, a0_, .ref q3_), (5, 1, q1_, .ref q5_)]) rfl (fun r_326 fr_326 H locs hp hMr_326 g => ?_)
                  refine lv_bipush (v := 44) hx hb dX2_readMemberHead_221 (by decide) ?_
                  have kb_44 : bd 44 44 (44 : Int32) := ⟨by decide, by decide⟩
                  refine lv_icmp_ne (tgt := 230) hx hb dX2_readMemberHead_223 (by decide) (fun c_327 => ?_) (fun c_327 => ?_)
                  · have fc_327 := neq_f c_327
                    refine lv_iconst (v := 0) hx hb dX2_readMemberHead_230 (by decide) ?_
                    refine lv_istore (lv' := [(6, .int 0), (7, .int v199_7), (5, .int (-1)), (4, .int r_7), (2, .long r_6), (1, .int r_5), (0, .ref a0_)]) hx hb dX2_readMemberHead_231 hl (by decide) rfl (fun ls hl => ?_)
                    refine lv_iload hx hb dX2_readMemberHead_233 (lv_at hl 0 rfl) ?_
                    refine lv_if_eq (tgt := 245) hx hb dX2_readMemberHead_235 (by decide) (fun c_ => ?_) (fun c_ => absurd (by decide) c_)
                    have kb_1 : bd 1 1 (1 : Int32) := ⟨by decide, by decide⟩
                    obtain ⟨y_328, ey_328⟩ : ∃ z : Int32, z = v199_7 + 1 := ⟨_, rfl⟩
                    refine lv_iinc (v := y_328) (lv' := [(7, .int y_328), (6, .int 0), (5, .int (-1)), (4, .int r_7), (2, .long r_6), (1, .int r_5), (0, .ref a0_)]) hx hb dX2_readMemberHead_245 hl (k := 1) rfl (by rw [ey_328]; rfl) (by decide) rfl (fun ls hl => ?_)
                    have ty_328 := add_bd ey_328 b_313 kb_1 (by decide)
                    have b_329 : bd 1 4 y_328 := add_rg ty_328 b_313 kb_1 (by decide)
                    refine lv_goto (tgt := 199) hx hb dX2_readMemberHead_248 (by decide) ?_
                    have hl9 := lv_sub hl [0, 1, 2, 3, 4, 5, 6] (by rfl : lv_pick [(7, .int y_328), (6, .int 0), (5, .int (-1)), (4, .int r_7), (2, .long r_6), (1, .int r_5), (0, .ref a0_)] [0, 1, 2, 3, 4, 5, 6] = [(7, .int y_328), (6, .int 0), (5, .int (-1)), (4, .int r_7), (2, .long r_6), (1, .int r_5), (0, .ref a0_)])
                    have g9 := g.sub (fx' := [(8, 6, q0_, .int x_323), (2, 6, a0_, .int 0), (9, 8, q3_, .int x_283), (2, 5, a0_, .ref a_285), (7, 3, q2_, .int x_286), (2, 0, a0_, .ref q0_), (2, 1, a0_, .ref q1_), (2, 3, a0_, .ref q2_), (2, 4, a0_, .ref q3_), (5, 1, q1_, .ref q5_)]) [0, 1, 2, 3, 4, 5, 6, 7, 8, 9] rfl
                    exact ih199  y_328 0 x_323 (bd_sub b_329 (by decide)) (bd_sub kb_0 (by decide)) h_324 (by have h9_0 := b_329; unfold bd at h9_0; have h9_1 := bv199_6; unfold bd at h9_1; have h9_2 := bv199_7; unfold bd at h9_2; have h9_3 := bw199_8_6_q0_; unfold bd at h9_3; have h9_4 := h_324; unfold bd at h9_4; have h9_5 := kb_0; unfold bd at h9_5; have h9_6 := kb_1; unfold bd at h9_6; have h9_7 := kb_12; unfold bd at h9_7; have h9_8 := kb_3; unfold bd at h9_8; have h9_9 := kb_41; unfold bd at h9_9; have h9_10 := kb_44; unfold bd at h9_10; have h9_11 := kb_m1; unfold bd at h9_11; omega) _ _ _ _ g9  hl9
                  · have fc_327 := eq_f c_327
                    have b_330 : bd 44 44 r_326 := eqX fc_327 (bdT r_326) kb_44 (by decide)
                    refine lv_iconst (v := 1) hx hb dX2_readMemberHead_226 (by decide) ?_
                    refine lv_goto (tgt := 231) hx hb dX2_readMemberHead_227 (by decide) ?_
                    refine lv_istore (lv' := [(6, .int 1), (7, .int v199_7), (5, .int (-1)), (4, .int r_7), (2, .long r_6), (1, .int r_5), (0, .ref a0_)]) hx hb dX2_readMemberHead_231 hl (by decide) rfl (fun ls hl => ?_)
                    refine lv_iload hx hb dX2_readMemberHead_233 (lv_at hl 0 rfl) ?_
                    refine lv_if_eq (tgt := 245) hx hb dX2_readMemberHead_235 (by decide) (fun c_ => absurd c_ (by decide)) (fun c_ => ?_)
                    refine lv_aload_n hx hb dX2_readMemberHead_238 rfl (lv_at hl 6 rfl) ?_
                    refine g_getk (C := RX2) (T := TX2) (N := 16) hx hb hts (mc_ inX2) hown hK g rfl 0 (by decide) rfl (hts _ (List.mem_cons_of_mem _ t_416)) (fun _ h9 => h9) 5 rfl dX2_readMemberHead_239 ?_
                    refine g_callv (va_runV (As := []) (rest := []) ⟨hx, hb, hml, hown, hts⟩ (r_X8_next l dC dI L kd tys fr_326 H.size g.2.2.2.1 q0_ mq0_ kq0_) (cwV 0 hts (gV_ t_1131 t_1103 t_1104 t_184 t_1105) rfl rfl rfl (by decide +kernel) ⟨(Nat.le_of_ble_eq_true rfl), (Nat.le_of_ble_eq_true rfl)⟩) (pre3V g hK mq0_ kq0_ (by decide) (q := (RX8, TX8, 10)) rfl) rfl rfl hl.1 rfl (lv_room (Nat.le_of_ble_eq_true rfl)) dX2_readMemberHead_242 ⟨(Nat.le_of_ble_eq_true rfl), (Nat.le_of_ble_eq_true rfl)⟩) g hK (by decide) (by decide) (fx' := [(2, 6, a0_, .int 0), (9, 8, q3_, .int x_283), (2, 5, a0_, .ref a_285), (7, 3, q2_, .int x_286), (2, 0, a0_, .ref q0_), (2, 1, a0_, .ref q1_), (2, 3, a0_, .ref q2_), (2, 4, a0_, .ref q3_), (5, 1, q1_, .ref q5_)]) rfl (fun fr_331 H locs hp hMr_331 g => ?_)
                    obtain ⟨x_332, h_333, hF_334⟩ := hp
                    have g := g.more hF_334
                    have kb_1 : bd 1 1 (1 : Int32) := ⟨by decide, by decide⟩
                    obtain ⟨y_335, ey_335⟩ : ∃ z : Int32, z = v199_7 + 1 := ⟨_, rfl⟩
                    refine lv_iinc (v := y_335) (lv' := [(7, .int y_335), (6, .int 1), (5, .int (-1)), (4, .int r_7), (2, .long r_6), (1, .int r_5), (0, .ref a0_)]) hx hb dX2_readMemberHead_245 hl (k := 1) rfl (by rw [ey_335]; rfl) (by decide) rfl (fun ls hl => ?_)
                    have ty_335 := add_bd ey_335 b_313 kb_1 (by decide)
                    have b_336 : bd 1 4 y_335 := add_rg ty_335 b_313 kb_1 (by decide)
                    refine lv_goto (tgt := 199) hx hb dX2_readMemberHead_248 (by decide) ?_
                    have hl9 := lv_sub hl [0, 1, 2, 3, 4, 5, 6] (by rfl : lv_pick [(7, .int y_335), (6, .int 1), (5, .int (-1)), (4, .int r_7), (2, .long r_6), (1, .int r_5), (0, .ref a0_)] [0, 1, 2, 3, 4, 5, 6] = [(7, .int y_335), (6, .int 1), (5, .int (-1)), (4, .int r_7), (2, .long r_6), (1, .int r_5), (0, .ref a0_)])
                    have g9 := g.sub (fx' := [(8, 6, q0_, .int x_332), (2, 6, a0_, .int 0), (9, 8, q3_, .int x_283), (2, 5, a0_, .ref a_285), (7, 3, q2_, .int x_286), (2, 0, a0_, .ref q0_), (2, 1, a0_, .ref q1_), (2, 3, a0_, .ref q2_), (2, 4, a0_, .ref q3_), (5, 1, q1_, .ref q5_)]) [0, 1, 2, 3, 4, 5, 6, 7, 8, 9] rfl
                    exact ih199  y_335 1 x_332 (bd_sub b_336 (by decide)) (bd_sub kb_1 (by decide)) h_333 (by have h9_0 := b_336; unfold bd at h9_0; have h9_1 := bv199_6; unfold bd at h9_1; have h9_2 := bv199_7; unfold bd at h9_2; have h9_3 := bw199_8_6_q0_; unfold bd at h9_3; have h9_4 := h_333; unfold bd at h9_4; have h9_5 := kb_0; unfold bd at h9_5; have h9_6 := kb_1; unfold bd at h9_6; have h9_7 := kb_12; unfold bd at h9_7; have h9_8 := kb_3; unfold bd at h9_8; have h9_9 := kb_41; unfold bd at h9_9; have h9_10 := kb_44; unfold bd at h9_10; have h9_11 := kb_m1; unfold bd at h9_11; omega) _ _ _ _ g9  hl9
          have kb_0 : bd 0 0 (0 : Int32) := ⟨by decide, by decide⟩
          have kb_1 : bd 1 1 (1 : Int32) := ⟨by decide, by decide⟩
          have hl9 := lv_sub hl [0, 1, 2, 3, 4, 5, 6] (by rfl : lv_pick [(7, .int 0), (6, .int 1), (5, .int (-1)), (4, .int r_7), (2, .long r_6), (1, .int r_5), (0, .ref a0_)] [0, 1, 2, 3, 4, 5, 6] = [(7, .int 0), (6, .int 1), (5, .int (-1)), (4, .int r_7), (2, .long r_6), (1, .int r_5), (0, .ref a0_)])
          have g9 := g.sub (fx' := [(8, 6, q0_, .int x_294), (2, 6, a0_, .int 0), (9, 8, q3_, .int x_283), (2, 5, a0_, .ref a_285), (7, 3, q2_, .int x_286), (2, 0, a0_, .ref q0_), (2, 1, a0_, .ref q1_), (2, 3, a0_, .ref q2_), (2, 4, a0_, .ref q3_), (5, 1, q1_, .ref q5_)]) [0, 1, 2, 3, 4, 5, 6, 7, 8, 9] rfl
          exact loop_305 (11) 0 1 x_294 (bd_sub kb_0 (by decide)) (bd_sub kb_1 (by decide)) h_295 (by have h9_0 := h_295; unfold bd at h9_0; have h9_1 := kb_0; unfold bd at h9_1; have h9_2 := kb_1; unfold bd at h9_2; have h9_3 := kb_12; unfold bd at h9_3; have h9_4 := kb_3; unfold bd at h9_4; have h9_5 := kb_41; unfold bd at h9_5; have h9_6 := kb_m1; unfold bd at h9_6; omega) _ _ _ _ g9  hl9
      · have fc_280 := nlt_f c_280
        have b_337 : bd 12 12 x_279 := leR fc_280 kb_12 bx_279 (by decide)
        refine lv_aload_n hx hb dX2_readMemberHead_141 rfl (lv_at hl 4 rfl) ?_
        refine g_getk (C := RX2) (T := TX2) (N := 16) hx hb hts (mc_ inX2) hown hK g rfl 0 (by decide) rfl (hts _ (List.mem_cons_of_mem _ t_416)) (fun _ h9 => h9) 2 rfl dX2_readMemberHead_142 ?_
        refine lv_iconst (v := 4) hx hb dX2_readMemberHead_145 (by decide) ?_
        refine lv_iload_n hx hb dX2_readMemberHead_146 rfl (lv_at hl 3 rfl) ?_
        have kb_4 : bd 4 4 (4 : Int32) := ⟨by decide, by decide⟩
        refine g_callv (va_runV (As := [.int 4, .int r_5]) (rest := []) ⟨hx, hb, hml, hown, hts⟩ (r_X8_fail_11 l dC dI L kd tys fr_276 H.size g.2.2.2.1 q0_ mq0_ kq0_ 4 kb_4 r_5 x_2 h_3 (g.fcts [1] rfl)) (cwV 2 hts (gV_ t_1122 t_1107 t_1108 t_184 t_1109) rfl rfl rfl (by decide +kernel) ⟨(Nat.le_of_ble_eq_true rfl), (Nat.le_of_ble_eq_true rfl)⟩) (pre3V g hK mq0_ kq0_ (by decide) (q := (RX8, TX8, 10)) rfl) rfl rfl hl.1 rfl (lv_room (Nat.le_of_ble_eq_true rfl)) dX2_readMemberHead_147 ⟨(Nat.le_of_ble_eq_true rfl), (Nat.le_of_ble_eq_true rfl)⟩) g hK (by decide) (by decide) (fx' := [(9, 8, q3_, .int x_279), (2, 0, a0_, .ref q0_), (2, 1, a0_, .ref q1_), (2, 3, a0_, .ref q2_), (2, 4, a0_, .ref q3_), (2, 5, a0_, .ref q4_), (5, 1, q1_, .ref q5_)]) rfl (fun fr_338 H locs hp hMr_338 g => ?_)
        obtain ⟨x_339, h_340, hF_341⟩ := hp
        have g := g.more hF_341
        refine lv_goto (tgt := 161) hx hb dX2_readMemberHead_150 (by decide) ?_
        refine lv_aload_n hx hb dX2_readMemberHead_161 rfl (lv_at hl 4 rfl) ?_
        refine g_getk (C := RX2) (T := TX2) (N := 16) hx hb hts (mc_ inX2) hown hK g rfl 0 (by decide) rfl (hts _ (List.mem_cons_of_mem _ t_416)) (fun _ h9 => h9) 3 rfl dX2_readMemberHead_162 ?_
        refine g_callv (va_runV (As := []) (rest := []) ⟨hx, hb, hml, hown, hts⟩ (r_X8_next l dC dI L kd tys fr_338 H.size g.2.2.2.1 q0_ mq0_ kq0_) (cwV 0 hts (gV_ t_1131 t_1103 t_1104 t_184 t_1105) rfl rfl rfl (by decide +kernel) ⟨(Nat.le_of_ble_eq_true rfl), (Nat.le_of_ble_eq_true rfl)⟩) (pre3V g hK mq0_ kq0_ (by decide) (q := (RX8, TX8, 10)) rfl) rfl rfl hl.1 rfl (lv_room (Nat.le_of_ble_eq_true rfl)) dX2_readMemberHead_165 ⟨(Nat.le_of_ble_eq_true rfl), (Nat.le_of_ble_eq_true rfl)⟩) g hK (by decide) (by decide) (fx' := [(8, 8, q0_, .int x_339), (9, 8, q3_, .int x_279), (2, 0, a0_, .ref q0_), (2, 1, a0_, .ref q1_), (2, 3, a0_, .ref q2_), (2, 4, a0_, .ref q3_), (2, 5, a0_, .ref q4_), (5, 1, q1_, .ref q5_)]) rfl (fun fr_342 H locs hp hMr_342 g => ?_)
        obtain ⟨x_343, h_344, hF_345⟩ := hp
        have g := g.more hF_345
        refine lv_aload_n hx hb dX2_readMemberHead_168 rfl (lv_at hl 4 rfl) ?_
        refine g_getk (C := RX2) (T := TX2) (N := 16) hx hb hts (mc_ inX2) hown hK g rfl 0 (by decide) rfl (hts _ (List.mem_cons_of_mem _ t_416)) (fun _ h9 => h9) 3 rfl dX2_readMemberHead_169 ?_
        refine lv_bipush (v := 40) hx hb dX2_readMemberHead_172 (by decide) ?_
        have gr_346 := g
        refine g_callv (va_runV (As := [.int 40]) (rest := []) ⟨hx, hb, hml, hown, hts⟩ (r_X8_take l dC dI L kd tys fr_342 H.size g.2.2.2.1 q0_ mq0_ kq0_ 40) (cwV 1 hts (gV_ t_1098 t_1099 t_1100 t_184 t_1101) rfl rfl rfl (by decide +kernel) ⟨(Nat.le_of_ble_eq_true rfl), (Nat.le_of_ble_eq_true rfl)⟩) (pre3V g hK mq0_ kq0_ (by decide) (q := (RX8, TX8, 10)) rfl) rfl rfl hl.1 rfl (lv_room (Nat.le_of_ble_eq_true rfl)) dX2_readMemberHead_174 ⟨(Nat.le_of_ble_eq_true rfl), (Nat.le_of_ble_eq_true rfl)⟩) g hK (by decide) (by decide) (fx' := [(9, 8, q3_, .int x_279), (2, 0, a0_, .ref q0_), (2, 1, a0_, .ref q1_), (2, 3, a0_, .ref q2_), (2, 4, a0_, .ref q3_), (2, 5, a0_, .ref q4_), (5, 1, q1_, .ref q5_)]) rfl (fun fr_346 H locs hp hMr_346 g => ?_)
        obtain ⟨x_347, bx_347, hFx_347⟩ := stk2 gr_346.2.2.2.2.1 hMr_346 g (by decide) 1 rfl h_340 (by decide)
        have g := g.more hFx_347
        obtain ⟨x_348, h_349, hF_350⟩ := hp
        have g := g.more hF_350
        refine lv_aload_n hx hb dX2_readMemberHead_177 rfl (lv_at hl 4 rfl) ?_
        refine g_getk (C := RX2) (T := TX2) (N := 16) hx hb hts (mc_ inX2) hown hK g rfl 0 (by decide) rfl (hts _ (List.mem_cons_of_mem _ t_416)) (fun _ h9 => h9) 3 rfl dX2_readMemberHead_178 ?_
        refine g_calli (va_runV (As := []) (rest := []) ⟨hx, hb, hml, hown, hts⟩ (r_X8_kind l dC dI L kd tys fr_346 H.size g.2.2.2.1 q0_ mq0_ kq0_) (cwV 0 hts (gV_ t_1118 t_1119 t_1120 t_184 t_1121) rfl rfl rfl (by decide +kernel) ⟨(Nat.le_of_ble_eq_true rfl), (Nat.le_of_ble_eq_true rfl)⟩) (pre3V g hK mq0_ kq0_ (by decide) (q := (RX8, TX8, 10)) rfl) rfl rfl hl.1 rfl (lv_room (Nat.le_of_ble_eq_true rfl)) dX2_readMemberHead_181 ⟨(Nat.le_of_ble_eq_true rfl), (Nat.le_of_ble_eq_true rfl)⟩) g hK (by decide) (by decide) (fx' := [(8, 6, q0_, .int x_348), (8, 8, q0_, .int x_347), (9, 8, q3_, .int x_279), (2, 0, a0_, .ref q0_), (2, 1, a0_, .ref q1_), (2, 3, a0_, .ref q2_), (2, 4, a0_, .ref q3_), (2, 5, a0_, .ref q4_), (5, 1, q1_, .ref q5_)]) rfl (fun r_351 fr_351 H locs hp hMr_351 g => ?_)
        refine lv_bipush (v := 41) hx hb dX2_readMemberHead_184 (by decide) ?_
        have kb_41 : bd 41 41 (41 : Int32) := ⟨by decide, by decide⟩
        refine lv_icmp_eq (tgt := 193) hx hb dX2_readMemberHead_186 (by decide) (fun c_352 => ?_) (fun c_352 => ?_)
        · have fc_352 := eq_f c_352
          have b_353 : bd 41 41 r_351 := eqX fc_352 (bdT r_351) kb_41 (by decide)
          refine lv_iconst (v := 0) hx hb dX2_readMemberHead_193 (by decide) ?_
          refine lv_istore (lv' := [(6, .int 0), (5, .int (-1)), (4, .int r_7), (2, .long r_6), (1, .int r_5), (0, .ref a0_)]) hx hb dX2_readMemberHead_194 hl (by decide) rfl (fun ls hl => ?_)
          refine lv_iconst (v := 0) hx hb dX2_readMemberHead_196 (by decide) ?_
          refine lv_istore (lv' := [(7, .int 0), (6, .int 0), (5, .int (-1)), (4, .int r_7), (2, .long r_6), (1, .int r_5), (0, .ref a0_)]) hx hb dX2_readMemberHead_197 hl (by decide) rfl (fun ls hl => ?_)
          refine lv_iload hx hb dX2_readMemberHead_199 (lv_at hl 0 rfl) ?_
          refine lv_iconst (v := 3) hx hb dX2_readMemberHead_201 (by decide) ?_
          refine lv_icmp_gt (tgt := 251) hx hb dX2_readMemberHead_202 (by decide) (fun c_ => absurd c_ (by decide)) (fun c_ => ?_)
          refine lv_iload hx hb dX2_readMemberHead_205 (lv_at hl 1 rfl) ?_
          refine lv_if_eq (tgt := 251) hx hb dX2_readMemberHead_207 (by decide) (fun c_ => ?_) (fun c_ => absurd (by decide) c_)
          refine lv_aload_n hx hb dX2_readMemberHead_251 rfl (lv_at hl 6 rfl) ?_
          refine g_getk (C := RX2) (T := TX2) (N := 16) hx hb hts (mc_ inX2) hown hK g rfl 0 (by decide) rfl (hts _ (List.mem_cons_of_mem _ t_416)) (fun _ h9 => h9) 3 rfl dX2_readMemberHead_252 ?_
          refine g_calli (va_runV (As := []) (rest := []) ⟨hx, hb, hml, hown, hts⟩ (r_X8_place l dC dI L kd tys fr_351 H.size g.2.2.2.1 q0_ mq0_ kq0_) (cwV 0 hts (gV_ t_1110 t_1111 t_1112 t_184 t_1113) rfl rfl rfl (by decide +kernel) ⟨(Nat.le_of_ble_eq_true rfl), (Nat.le_of_ble_eq_true rfl)⟩) (pre3V g hK mq0_ kq0_ (by decide) (q := (RX8, TX8, 10)) rfl) rfl rfl hl.1 rfl (lv_room (Nat.le_of_ble_eq_true rfl)) dX2_readMemberHead_255 ⟨(Nat.le_of_ble_eq_true rfl), (Nat.le_of_ble_eq_true rfl)⟩) g hK (by decide) (by decide) (fx' := [(8, 6, q0_, .int x_348), (8, 8, q0_, .int x_347), (9, 8, q3_, .int x_279), (2, 0, a0_, .ref q0_), (2, 1, a0_, .ref q1_), (2, 3, a0_, .ref q2_), (2, 4, a0_, .ref q3_), (2, 5, a0_, .ref q4_), (5, 1, q1_, .ref q5_)]) rfl (fun r_354 fr_354 H locs hp hMr_354 g => ?_)
          refine lv_istore (lv' := [(7, .int r_354), (6, .int 0), (5, .int (-1)), (4, .int r_7), (2, .long r_6), (1, .int r_5), (0, .ref a0_)]) hx hb dX2_readMemberHead_258 hl (by decide) rfl (fun ls hl => ?_)
          refine lv_aload_n hx hb dX2_readMemberHead_260 rfl (lv_at hl 6 rfl) ?_
          refine g_getk (C := RX2) (T := TX2) (N := 16) hx hb hts (mc_ inX2) hown hK g rfl 0 (by decide) rfl (hts _ (List.mem_cons_of_mem _ t_416)) (fun _ h9 => h9) 3 rfl dX2_readMemberHead_261 ?_
          refine lv_bipush (v := 41) hx hb dX2_readMemberHead_264 (by decide) ?_
          have gr_355 := g
          refine g_callv (va_runV (As := [.int 41]) (rest := []) ⟨hx, hb, hml, hown, hts⟩ (r_X8_take l dC dI L kd tys fr_354 H.size g.2.2.2.1 q0_ mq0_ kq0_ 41) (cwV 1 hts (gV_ t_1098 t_1099 t_1100 t_184 t_1101) rfl rfl rfl (by decide +kernel) ⟨(Nat.le_of_ble_eq_true rfl), (Nat.le_of_ble_eq_true rfl)⟩) (pre3V g hK mq0_ kq0_ (by decide) (q := (RX8, TX8, 10)) rfl) rfl rfl hl.1 rfl (lv_room (Nat.le_of_ble_eq_true rfl)) dX2_readMemberHead_266 ⟨(Nat.le_of_ble_eq_true rfl), (Nat.le_of_ble_eq_true rfl)⟩) g hK (by decide) (by decide) (fx' := [(9, 8, q3_, .int x_279), (2, 0, a0_, .ref q0_), (2, 1, a0_, .ref q1_), (2, 3, a0_, .ref q2_), (2, 4, a0_, .ref q3_), (2, 5, a0_, .ref q4_), (5, 1, q1_, .ref q5_)]) rfl (fun fr_355 H locs hp hMr_355 g => ?_)
          obtain ⟨x_356, bx_356, hFx_356⟩ := stk2 gr_355.2.2.2.2.1 hMr_355 g (by decide) 1 rfl bx_347 (by decide)
          have g := g.more hFx_356
          obtain ⟨x_357, h_358, hF_359⟩ := hp
          have g := g.more hF_359
          refine lv_iload hx hb dX2_readMemberHead_269 (lv_at hl 2 rfl) ?_
          refine lv_iconst (v := (-1)) hx hb dX2_readMemberHead_271 (by decide) ?_
          refine lv_icmp_eq (tgt := 308) hx hb dX2_readMemberHead_272 (by decide) (fun c_ => ?_) (fun c_ => absurd (by decide) c_)
          subst hQ
          exact W.vret hx hb hr (fun t ht hW => ⟨⟨_, rfl, ⟨x_357, h_358, q4_, ⟨mq4_, kq4_⟩, (g.fcts [0, 7] rfl)⟩, q3_of g hK ht hW⟩, g.2.2.1.F ht⟩) g.2.2.1.2.2 dX2_readMemberHead_308
        · have fc_352 := neq_f c_352
          refine lv_iconst (v := 1) hx hb dX2_readMemberHead_189 (by decide) ?_
          refine lv_goto (tgt := 194) hx hb dX2_readMemberHead_190 (by decide) ?_
          refine lv_istore (lv' := [(6, .int 1), (5, .int (-1)), (4, .int r_7), (2, .long r_6), (1, .int r_5), (0, .ref a0_)]) hx hb dX2_readMemberHead_194 hl (by decide) rfl (fun ls hl => ?_)
          refine lv_iconst (v := 0) hx hb dX2_readMemberHead_196 (by decide) ?_
          refine lv_istore (lv' := [(7, .int 0), (6, .int 1), (5, .int (-1)), (4, .int r_7), (2, .long r_6), (1, .int r_5), (0, .ref a0_)]) hx hb dX2_readMemberHead_197 hl (by decide) rfl (fun ls hl => ?_)
          have loop_360 : ∀ (n : Nat) (v199_7 : Int32) (v199_6 : Int32) (w199_8_6_q0_ : Int32) (w199_8_8_q0_ : Int32), bd 0 4 v199_7 → bd 0 1 v199_6 → bd 1 1201 w199_8_6_q0_ → bd 1 7 w199_8_8_q0_ → (4 - v199_7.toInt < (n : Int)) → ∀ (f : Nat → va_E) (H : Heap) (locs : List Loc) (ls : Array Slot), G3 (dC, dI) L kd tys s f0 [(2, 5), (2, 6), (5, 4), (6, 0), (6, 1), (6, 2), (6, 3), (6, 6), (6, 7), (6, 8), (6, 9), (6, 10), (6, 11), (6, 12), (7, 3), (8, 6), (8, 8), (8, 9), (9, 8)] [132, 134, 135, 156] f H locs [(8, 6, q0_, .int w199_8_6_q0_), (8, 8, q0_, .int w199_8_8_q0_), (9, 8, q3_, .int x_279), (2, 0, a0_, .ref q0_), (2, 1, a0_, .ref q1_), (2, 3, a0_, .ref q2_), (2, 4, a0_, .ref q3_), (2, 5, a0_, .ref q4_), (5, 1, q1_, .ref q5_)] → lv_has ls 8 [(7, .int v199_7), (6, .int v199_6), (5, .int (-1)), (4, .int r_7), (2, .long r_6), (1, .int r_5), (0, .ref a0_)] → W p l e ({ frames := 3, cells := 0, slots := 0, locals := 72 } : Room) s m [.ref a0_].toArray below meth c H locs 0 0 Q (F0 m 199 ls []) := by
            intro n199
            induction n199 with
            | zero =>
              intro v199_7 v199_6 w199_8_6_q0_ w199_8_8_q0_ bv199_7 bv199_6 bw199_8_6_q0_ bw199_8_8_q0_ hm199 f H locs ls g  hl
              exact absurd hm199 (by have h9_v199_7 := bv199_7; unfold bd at h9_v199_7; have h9_v199_6 := bv199_6; unfold bd at h9_v199_6; have h9_w199_8_6_q0_ := bw199_8_6_q0_; unfold bd at h9_w199_8_6_q0_; have h9_w199_8_8_q0_ := bw199_8_8_q0_; unfold bd at h9_w199_8_8_q0_; omega)
            | succ n199 ih199 =>
              intro v199_7 v199_6 w199_8_6_q0_ w199_8_8_q0_ bv199_7 bv199_6 bw199_8_6_q0_ bw199_8_8_q0_ hm199 f H locs ls g  hl
              refine lv_iload hx hb dX2_readMemberHead_199 (lv_at hl 0 rfl) ?_
              refine lv_iconst (v := 3) hx hb dX2_readMemberHead_201 (by decide) ?_
              refine lv_icmp_gt (tgt := 251) hx hb dX2_readMemberHead_202 (by decide) (fun c_361 => ?_) (fun c_361 => ?_)
              · have fc_361 := lt_f c_361
                have b_362 : bd 4 4 v199_7 := ltR fc_361 kb_3 bv199_7 (by decide)
                refine lv_aload_n hx hb dX2_readMemberHead_251 rfl (lv_at hl 6 rfl) ?_
                refine g_getk (C := RX2) (T := TX2) (N := 16) hx hb hts (mc_ inX2) hown hK g rfl 0 (by decide) rfl (hts _ (List.mem_cons_of_mem _ t_416)) (fun _ h9 => h9) 3 rfl dX2_readMemberHead_252 ?_
                refine g_calli (va_runV (As := []) (rest := []) ⟨hx, hb, hml, hown, hts⟩ (r_X8_place l dC dI L kd tys f H.size g.2.2.2.1 q0_ mq0_ kq0_) (cwV 0 hts (gV_ t_1110 t_1111 t_1112 t_184 t_1113) rfl rfl rfl (by decide +kernel) ⟨(Nat.le_of_ble_eq_true rfl), (Nat.le_of_ble_eq_true rfl)⟩) (pre3V g hK mq0_ kq0_ (by decide) (q := (RX8, TX8, 10)) rfl) rfl rfl hl.1 rfl (lv_room (Nat.le_of_ble_eq_true rfl)) dX2_readMemberHead_255 ⟨(Nat.le_of_ble_eq_true rfl), (Nat.le_of_ble_eq_true rfl)⟩) g hK (by decide) (by decide) (fx' := [(8, 6, q0_, .int w199_8_6_q0_), (8, 8, q0_, .int w199_8_8_q0_), (9, 8, q3_, .int x_279), (2, 0, a0_, .ref q0_), (2, 1, a0_, .ref q1_), (2, 3, a0_, .ref q2_), (2, 4, a0_, .ref q3_), (2, 5, a0_, .ref q4_), (5, 1, q1_, .ref q5_)]) rfl (fun r_363 fr_363 H locs hp hMr_363 g => ?_)
                refine lv_istore (lv' := [(7, .int r_363), (6, .int v199_6), (5, .int (-1)), (4, .int r_7), (2, .long r_6), (1, .int r_5), (0, .ref a0_)]) hx hb dX2_readMemberHead_258 hl (by decide) rfl (fun ls hl => ?_)
                refine lv_aload_n hx hb dX2_readMemberHead_260 rfl (lv_at hl 6 rfl) ?_
                refine g_getk (C := RX2) (T := TX2) (N := 16) hx hb hts (mc_ inX2) hown hK g rfl 0 (by decide) rfl (hts _ (List.mem_cons_of_mem _ t_416)) (fun _ h9 => h9) 3 rfl dX2_readMemberHead_261 ?_
                refine lv_bipush (v := 41) hx hb dX2_readMemberHead_264 (by decide) ?_
                have gr_364 := g
                refine g_callv (va_runV (As := [.int 41]) (rest := []) ⟨hx, hb, hml, hown, hts⟩ (r_X8_take l dC dI L kd tys fr_363 H.size g.2.2.2.1 q0_ mq0_ kq0_ 41) (cwV 1 hts (gV_ t_1098 t_1099 t_1100 t_184 t_1101) rfl rfl rfl (by decide +kernel) ⟨(Nat.le_of_ble_eq_true rfl), (Nat.le_of_ble_eq_true rfl)⟩) (pre3V g hK mq0_ kq0_ (by decide) (q := (RX8, TX8, 10)) rfl) rfl rfl hl.1 rfl (lv_room (Nat.le_of_ble_eq_true rfl)) dX2_readMemberHead_266 ⟨(Nat.le_of_ble_eq_true rfl), (Nat.le_of_ble_eq_true rfl)⟩) g hK (by decide) (by decide) (fx' := [(9, 8, q3_, .int x_279), (2, 0, a0_, .ref q0_), (2, 1, a0_, .ref q1_), (2, 3, a0_, .ref q2_), (2, 4, a0_, .ref q3_), (2, 5, a0_, .ref q4_), (5, 1, q1_, .ref q5_)]) rfl (fun fr_364 H locs hp hMr_364 g => ?_)
                obtain ⟨x_365, bx_365, hFx_365⟩ := stk2 gr_364.2.2.2.2.1 hMr_364 g (by decide) 1 rfl bw199_8_8_q0_ (by decide)
                have g := g.more hFx_365
                obtain ⟨x_366, h_367, hF_368⟩ := hp
                have g := g.more hF_368
                refine lv_iload hx hb dX2_readMemberHead_269 (lv_at hl 2 rfl) ?_
                refine lv_iconst (v := (-1)) hx hb dX2_readMemberHead_271 (by decide) ?_
                refine lv_icmp_eq (tgt := 308) hx hb dX2_readMemberHead_272 (by decide) (fun c_ => ?_) (fun c_ => absurd (by decide) c_)
                subst hQ
                exact W.vret hx hb hr (fun t ht hW => ⟨⟨_, rfl, ⟨x_366, h_367, q4_, ⟨mq4_, kq4_⟩, (g.fcts [0, 7] rfl)⟩, q3_of g hK ht hW⟩, g.2.2.1.F ht⟩) g.2.2.1.2.2 dX2_readMemberHead_308
              · have fc_361 := nlt_f c_361
                have b_369 : bd 0 3 v199_7 := leL fc_361 bv199_7 kb_3 (by decide)
                refine lv_iload hx hb dX2_readMemberHead_205 (lv_at hl 1 rfl) ?_
                have kb_0 : bd 0 0 (0 : Int32) := ⟨by decide, by decide⟩
                refine lv_if_eq (tgt := 251) hx hb dX2_readMemberHead_207 (by decide) (fun c_370 => ?_) (fun c_370 => ?_)
                · have fc_370 := eq_f c_370
                  have b_371 : bd 0 0 v199_6 := eqX fc_370 bv199_6 kb_0 (by decide)
                  refine lv_aload_n hx hb dX2_readMemberHead_251 rfl (lv_at hl 6 rfl) ?_
                  refine g_getk (C := RX2) (T := TX2) (N := 16) hx hb hts (mc_ inX2) hown hK g rfl 0 (by decide) rfl (hts _ (List.mem_cons_of_mem _ t_416)) (fun _ h9 => h9) 3 rfl dX2_readMemberHead_252 ?_
                  refine g_calli (va_runV (As := []) (rest := []) ⟨hx, hb, hml, hown, hts⟩ (r_X8_place l dC dI L kd tys f H.size g.2.2.2.1 q0_ mq0_ kq0_) (cwV 0 hts (gV_ t_1110 t_1111 t_1112 t_184 t_1113) rfl rfl rfl (by decide +kernel) ⟨(Nat.le_of_ble_eq_true rfl), (Nat.le_of_ble_eq_true rfl)⟩) (pre3V g hK mq0_ kq0_ (by decide) (q := (RX8, TX8, 10)) rfl) rfl rfl hl.1 rfl (lv_room (Nat.le_of_ble_eq_true rfl)) dX2_readMemberHead_255 ⟨(Nat.le_of_ble_eq_true rfl), (Nat.le_of_ble_eq_true rfl)⟩) g hK (by decide) (by decide) (fx' := [(8, 6, q0_, .int w199_8_6_q0_), (8, 8, q0_, .int w199_8_8_q0_), (9, 8, q3_, .int x_279), (2, 0, a0_, .ref q0_), (2, 1, a0_, .ref q1_), (2, 3, a0_, .ref q2_), (2, 4, a0_, .ref q3_), (2, 5, a0_, .ref q4_), (5, 1, q1_, .ref q5_)]) rfl (fun r_372 fr_372 H locs hp hMr_372 g => ?_)
                  refine lv_istore (lv' := [(7, .int r_372), (6, .int v199_6), (5, .int (-1)), (4, .int r_7), (2, .long r_6), (1, .int r_5), (0, .ref a0_)]) hx hb dX2_readMemberHead_258 hl (by decide) rfl (fun ls hl => ?_)
                  refine lv_aload_n hx hb dX2_readMemberHead_260 rfl (lv_at hl 6 rfl) ?_
                  refine g_getk (C := RX2) (T := TX2) (N := 16) hx hb hts (mc_ inX2) hown hK g rfl 0 (by decide) rfl (hts _ (List.mem_cons_of_mem _ t_416)) (fun _ h9 => h9) 3 rfl dX2_readMemberHead_261 ?_
                  refine lv_bipush (v := 41) hx hb dX2_readMemberHead_264 (by decide) ?_
                  have gr_373 := g
                  refine g_callv (va_runV (As := [.int 41]) (rest := []) ⟨hx, hb, hml, hown, hts⟩ (r_X8_take l dC dI L kd tys fr_372 H.size g.2.2.2.1 q0_ mq0_ kq0_ 41) (cwV 1 hts (gV_ t_1098 t_1099 t_1100 t_184 t_1101) rfl rfl rfl (by decide +kernel) ⟨(Nat.le_of_ble_eq_true rfl), (Nat.le_of_ble_eq_true rfl)⟩) (pre3V g hK mq0_ kq0_ (by decide) (q := (RX8, TX8, 10)) rfl) rfl rfl hl.1 rfl (lv_room (Nat.le_of_ble_eq_true rfl)) dX2_readMemberHead_266 ⟨(Nat.le_of_ble_eq_true rfl), (Nat.le_of_ble_eq_true rfl)⟩) g hK (by decide) (by decide) (fx' := [(9, 8, q3_, .int x_279), (2, 0, a0_, .ref q0_), (2, 1, a0_, .ref q1_), (2, 3, a0_, .ref q2_), (2, 4, a0_, .ref q3_), (2, 5, a0_, .ref q4_), (5, 1, q1_, .ref q5_)]) rfl (fun fr_373 H locs hp hMr_373 g => ?_)
                  obtain ⟨x_374, bx_374, hFx_374⟩ := stk2 gr_373.2.2.2.2.1 hMr_373 g (by decide) 1 rfl bw199_8_8_q0_ (by decide)
                  have g := g.more hFx_374
                  obtain ⟨x_375, h_376, hF_377⟩ := hp
                  have g := g.more hF_377
                  refine lv_iload hx hb dX2_readMemberHead_269 (lv_at hl 2 rfl) ?_
                  refine lv_iconst (v := (-1)) hx hb dX2_readMemberHead_271 (by decide) ?_
                  refine lv_icmp_eq (tgt := 308) hx hb dX2_readMemberHead_272 (by decide) (fun c_ => ?_) (fun c_ => absurd (by decide) c_)
                  subst hQ
                  exact W.vret hx hb hr (fun t ht hW => ⟨⟨_, rfl, ⟨x_375, h_376, q4_, ⟨mq4_, kq4_⟩, (g.fcts [0, 7] rfl)⟩, q3_of g hK ht hW⟩, g.2.2.1.F ht⟩) g.2.2.1.2.2 dX2_readMemberHead_308
                · have fc_370 := neq_f c_370
                  have b_378 : bd 1 1 v199_6 := neX fc_370 bv199_6 kb_0 (by decide)
                  refine lv_aload_n hx hb dX2_readMemberHead_210 rfl (lv_at hl 6 rfl) ?_
                  have gr_379 := g
                  refine g_callv (va_runV (As := []) (rest := []) ⟨hx, hb, hml, hown, hts⟩ (r_X2_readParam l dC dI L kd tys f H.size g.2.2.2.1 a0_ ma0_ ka0_ q0_ mq0_ kq0_ q1_ mq1_ kq1_ q4_ mq4_ kq4_ q5_ mq5_ kq5_ (g.fcts [3, 4, 7, 8] rfl)) (cwV 0 hts (gV_ t_1313 t_1315 t_34 t_183 t_1316) rfl rfl rfl (by decide +kernel) ⟨(Nat.le_of_ble_eq_true rfl), (Nat.le_of_ble_eq_true rfl)⟩) (pre3V g hK ma0_ ka0_ (by decide) (q := (RX2, TX2, 16)) rfl) rfl rfl hl.1 rfl (lv_room (Nat.le_of_ble_eq_true rfl)) dX2_readMemberHead_211 ⟨(Nat.le_of_ble_eq_true rfl), (Nat.le_of_ble_eq_true rfl)⟩) g hK (by decide) (by decide) (fx' := [(9, 8, q3_, .int x_279), (2, 0, a0_, .ref q0_), (2, 1, a0_, .ref q1_), (2, 3, a0_, .ref q2_), (2, 4, a0_, .ref q3_), (2, 5, a0_, .ref q4_), (5, 1, q1_, .ref q5_)]) rfl (fun fr_379 H locs hp hMr_379 g => ?_)
                  obtain ⟨x_380, bx_380, hFx_380⟩ := stk2 gr_379.2.2.2.2.1 hMr_379 g (by decide) 1 rfl bw199_8_8_q0_ (by decide)
                  have g := g.more hFx_380
                  obtain ⟨x_381, h_382, hF_383⟩ := hp
                  have g := g.more hF_383
                  refine lv_aload_n hx hb dX2_readMemberHead_214 rfl (lv_at hl 6 rfl) ?_
                  refine g_getk (C := RX2) (T := TX2) (N := 16) hx hb hts (mc_ inX2) hown hK g rfl 0 (by decide) rfl (hts _ (List.mem_cons_of_mem _ t_416)) (fun _ h9 => h9) 3 rfl dX2_readMemberHead_215 ?_
                  refine g_calli (va_runV (As := []) (rest := []) ⟨hx, hb, hml, hown, hts⟩ (r_X8_kind l dC dI L kd tys fr_379 H.size g.2.2.2.1 q0_ mq0_ kq0_) (cwV 0 hts (gV_ t_1118 t_1119 t_1120 t_184 t_1121) rfl rfl rfl (by decide +kernel) ⟨(Nat.le_of_ble_eq_true rfl), (Nat.le_of_ble_eq_true rfl)⟩) (pre3V g hK mq0_ kq0_ (by decide) (q := (RX8, TX8, 10)) rfl) rfl rfl hl.1 rfl (lv_room (Nat.le_of_ble_eq_true rfl)) dX2_readMemberHead_218 ⟨(Nat.le_of_ble_eq_true rfl), (Nat.le_of_ble_eq_true rfl)⟩) g hK (by decide) (by decide) (fx' := [(8, 6, q0_, .int x_381), (8, 8, q0_, .int x_380), (9, 8, q3_, .int x_279), (2, 0, a0_, .ref q0_), (2, 1, a0_, .ref q1_), (2, 3, a0_, .ref q2_), (2, 4, a0_, .ref q3_), (2, 5, a0_, .ref q4_), (5, 1, q1_, .ref q5_)]) rfl (fun r_384 fr_384 H locs hp hMr_384 g => ?_)
                  refine lv_bipush (v := 44) hx hb dX2_readMemberHead_221 (by decide) ?_
                  have kb_44 : bd 44 44 (44 : Int32) := ⟨by decide, by decide⟩
                  refine lv_icmp_ne (tgt := 230) hx hb dX2_readMemberHead_223 (by decide) (fun c_385 => ?_) (fun c_385 => ?_)
                  · have fc_385 := neq_f c_385
                    refine lv_iconst (v := 0) hx hb dX2_readMemberHead_230 (by decide) ?_
                    refine lv_istore (lv' := [(6, .int 0), (7, .int v199_7), (5, .int (-1)), (4, .int r_7), (2, .long r_6), (1, .int r_5), (0, .ref a0_)]) hx hb dX2_readMemberHead_231 hl (by decide) rfl (fun ls hl => ?_)
                    refine lv_iload hx hb dX2_readMemberHead_233 (lv_at hl 0 rfl) ?_
                    refine lv_if_eq (tgt := 245) hx hb dX2_readMemberHead_235 (by decide) (fun c_ => ?_) (fun c_ => absurd (by decide) c_)
                    have kb_1 : bd 1 1 (1 : Int32) := ⟨by decide, by decide⟩
                    obtain ⟨y_386, ey_386⟩ : ∃ z : Int32, z = v199_7 + 1 := ⟨_, rfl⟩
                    refine lv_iinc (v := y_386) (lv' := [(7, .int y_386), (6, .int 0), (5, .int (-1)), (4, .int r_7), (2, .long r_6), (1, .int r_5), (0, .ref a0_)]) hx hb dX2_readMemberHead_245 hl (k := 1) rfl (by rw [ey_386]; rfl) (by decide) rfl (fun ls hl => ?_)
                    have ty_386 := add_bd ey_386 b_369 kb_1 (by decide)
                    have b_387 : bd 1 4 y_386 := add_rg ty_386 b_369 kb_1 (by decide)
                    refine lv_goto (tgt := 199) hx hb dX2_readMemberHead_248 (by decide) ?_
                    have hl9 := lv_sub hl [0, 1, 2, 3, 4, 5, 6] (by rfl : lv_pick [(7, .int y_386), (6, .int 0), (5, .int (-1)), (4, .int r_7), (2, .long r_6), (1, .int r_5), (0, .ref a0_)] [0, 1, 2, 3, 4, 5, 6] = [(7, .int y_386), (6, .int 0), (5, .int (-1)), (4, .int r_7), (2, .long r_6), (1, .int r_5), (0, .ref a0_)])
                    have g9 := g.sub (fx' := [(8, 6, q0_, .int x_381), (8, 8, q0_, .int x_380), (9, 8, q3_, .int x_279), (2, 0, a0_, .ref q0_), (2, 1, a0_, .ref q1_), (2, 3, a0_, .ref q2_), (2, 4, a0_, .ref q3_), (2, 5, a0_, .ref q4_), (5, 1, q1_, .ref q5_)]) [0, 1, 2, 3, 4, 5, 6, 7, 8] rfl
                    exact ih199  y_386 0 x_381 x_380 (bd_sub b_387 (by decide)) (bd_sub kb_0 (by decide)) h_382 bx_380 (by have h9_0 := b_387; unfold bd at h9_0; have h9_1 := bv199_6; unfold bd at h9_1; have h9_2 := bv199_7; unfold bd at h9_2; have h9_3 := bw199_8_6_q0_; unfold bd at h9_3; have h9_4 := bw199_8_8_q0_; unfold bd at h9_4; have h9_5 := bx_380; unfold bd at h9_5; have h9_6 := h_382; unfold bd at h9_6; have h9_7 := kb_0; unfold bd at h9_7; have h9_8 := kb_1; unfold bd at h9_8; have h9_9 := kb_12; unfold bd at h9_9; have h9_10 := kb_3; unfold bd at h9_10; have h9_11 := kb_4; unfold bd at h9_11; have h9_12 := kb_41; unfold bd at h9_12; have h9_13 := kb_44; unfold bd at h9_13; have h9_14 := kb_m1; unfold bd at h9_14; omega) _ _ _ _ g9  hl9
                  · have fc_385 := eq_f c_385
                    have b_388 : bd 44 44 r_384 := eqX fc_385 (bdT r_384) kb_44 (by decide)
                    refine lv_iconst (v := 1) hx hb dX2_readMemberHead_226 (by decide) ?_
                    refine lv_goto (tgt := 231) hx hb dX2_readMemberHead_227 (by decide) ?_
                    refine lv_istore (lv' := [(6, .int 1), (7, .int v199_7), (5, .int (-1)), (4, .int r_7), (2, .long r_6), (1, .int r_5), (0, .ref a0_)]) hx hb dX2_readMemberHead_231 hl (by decide) rfl (fun ls hl => ?_)
                    refine lv_iload hx hb dX2_readMemberHead_233 (lv_at hl 0 rfl) ?_
                    refine lv_if_eq (tgt := 245) hx hb dX2_readMemberHead_235 (by decide) (fun c_ => absurd c_ (by decide)) (fun c_ => ?_)
                    refine lv_aload_n hx hb dX2_readMemberHead_238 rfl (lv_at hl 6 rfl) ?_
                    refine g_getk (C := RX2) (T := TX2) (N := 16) hx hb hts (mc_ inX2) hown hK g rfl 0 (by decide) rfl (hts _ (List.mem_cons_of_mem _ t_416)) (fun _ h9 => h9) 3 rfl dX2_readMemberHead_239 ?_
                    refine g_callv (va_runV (As := []) (rest := []) ⟨hx, hb, hml, hown, hts⟩ (r_X8_next l dC dI L kd tys fr_384 H.size g.2.2.2.1 q0_ mq0_ kq0_) (cwV 0 hts (gV_ t_1131 t_1103 t_1104 t_184 t_1105) rfl rfl rfl (by decide +kernel) ⟨(Nat.le_of_ble_eq_true rfl), (Nat.le_of_ble_eq_true rfl)⟩) (pre3V g hK mq0_ kq0_ (by decide) (q := (RX8, TX8, 10)) rfl) rfl rfl hl.1 rfl (lv_room (Nat.le_of_ble_eq_true rfl)) dX2_readMemberHead_242 ⟨(Nat.le_of_ble_eq_true rfl), (Nat.le_of_ble_eq_true rfl)⟩) g hK (by decide) (by decide) (fx' := [(8, 8, q0_, .int x_380), (9, 8, q3_, .int x_279), (2, 0, a0_, .ref q0_), (2, 1, a0_, .ref q1_), (2, 3, a0_, .ref q2_), (2, 4, a0_, .ref q3_), (2, 5, a0_, .ref q4_), (5, 1, q1_, .ref q5_)]) rfl (fun fr_389 H locs hp hMr_389 g => ?_)
                    obtain ⟨x_390, h_391, hF_392⟩ := hp
                    have g := g.more hF_392
                    have kb_1 : bd 1 1 (1 : Int32) := ⟨by decide, by decide⟩
                    obtain ⟨y_393, ey_393⟩ : ∃ z : Int32, z = v199_7 + 1 := ⟨_, rfl⟩
                    refine lv_iinc (v := y_393) (lv' := [(7, .int y_393), (6, .int 1), (5, .int (-1)), (4, .int r_7), (2, .long r_6), (1, .int r_5), (0, .ref a0_)]) hx hb dX2_readMemberHead_245 hl (k := 1) rfl (by rw [ey_393]; rfl) (by decide) rfl (fun ls hl => ?_)
                    have ty_393 := add_bd ey_393 b_369 kb_1 (by decide)
                    have b_394 : bd 1 4 y_393 := add_rg ty_393 b_369 kb_1 (by decide)
                    refine lv_goto (tgt := 199) hx hb dX2_readMemberHead_248 (by decide) ?_
                    have hl9 := lv_sub hl [0, 1, 2, 3, 4, 5, 6] (by rfl : lv_pick [(7, .int y_393), (6, .int 1), (5, .int (-1)), (4, .int r_7), (2, .long r_6), (1, .int r_5), (0, .ref a0_)] [0, 1, 2, 3, 4, 5, 6] = [(7, .int y_393), (6, .int 1), (5, .int (-1)), (4, .int r_7), (2, .long r_6), (1, .int r_5), (0, .ref a0_)])
                    have g9 := g.sub (fx' := [(8, 6, q0_, .int x_390), (8, 8, q0_, .int x_380), (9, 8, q3_, .int x_279), (2, 0, a0_, .ref q0_), (2, 1, a0_, .ref q1_), (2, 3, a0_, .ref q2_), (2, 4, a0_, .ref q3_), (2, 5, a0_, .ref q4_), (5, 1, q1_, .ref q5_)]) [0, 1, 2, 3, 4, 5, 6, 7, 8] rfl
                    exact ih199  y_393 1 x_390 x_380 (bd_sub b_394 (by decide)) (bd_sub kb_1 (by decide)) h_391 bx_380 (by have h9_0 := b_394; unfold bd at h9_0; have h9_1 := bv199_6; unfold bd at h9_1; have h9_2 := bv199_7; unfold bd at h9_2; have h9_3 := bw199_8_6_q0_; unfold bd at h9_3; have h9_4 := bw199_8_8_q0_; unfold bd at h9_4; have h9_5 := bx_380; unfold bd at h9_5; have h9_6 := h_391; unfold bd at h9_6; have h9_7 := kb_0; unfold bd at h9_7; have h9_8 := kb_1; unfold bd at h9_8; have h9_9 := kb_12; unfold bd at h9_9; have h9_10 := kb_3; unfold bd at h9_10; have h9_11 := kb_4; unfold bd at h9_11; have h9_12 := kb_41; unfold bd at h9_12; have h9_13 := kb_44; unfold bd at h9_13; have h9_14 := kb_m1; unfold bd at h9_14; omega) _ _ _ _ g9  hl9
          have kb_0 : bd 0 0 (0 : Int32) := ⟨by decide, by decide⟩
          have kb_1 : bd 1 1 (1 : Int32) := ⟨by decide, by decide⟩
          have hl9 := lv_sub hl [0, 1, 2, 3, 4, 5, 6] (by rfl : lv_pick [(7, .int 0), (6, .int 1), (5, .int (-1)), (4, .int r_7), (2, .long r_6), (1, .int r_5), (0, .ref a0_)] [0, 1, 2, 3, 4, 5, 6] = [(7, .int 0), (6, .int 1), (5, .int (-1)), (4, .int r_7), (2, .long r_6), (1, .int r_5), (0, .ref a0_)])
          have g9 := g.sub (fx' := [(8, 6, q0_, .int x_348), (8, 8, q0_, .int x_347), (9, 8, q3_, .int x_279), (2, 0, a0_, .ref q0_), (2, 1, a0_, .ref q1_), (2, 3, a0_, .ref q2_), (2, 4, a0_, .ref q3_), (2, 5, a0_, .ref q4_), (5, 1, q1_, .ref q5_)]) [0, 1, 2, 3, 4, 5, 6, 7, 8] rfl
          exact loop_360 (11) 0 1 x_348 x_347 (bd_sub kb_0 (by decide)) (bd_sub kb_1 (by decide)) h_349 bx_347 (by have h9_0 := bx_347; unfold bd at h9_0; have h9_1 := h_349; unfold bd at h9_1; have h9_2 := kb_0; unfold bd at h9_2; have h9_3 := kb_1; unfold bd at h9_3; have h9_4 := kb_12; unfold bd at h9_4; have h9_5 := kb_3; unfold bd at h9_5; have h9_6 := kb_4; unfold bd at h9_6; have h9_7 := kb_41; unfold bd at h9_7; have h9_8 := kb_m1; unfold bd at h9_8; omega) _ _ _ _ g9  hl9
    · have fc_277 := neq_f c_277
      refine lv_aload_n hx hb dX2_readMemberHead_70 rfl (lv_at hl 4 rfl) ?_
      refine g_getk (C := RX2) (T := TX2) (N := 16) hx hb hts (mc_ inX2) hown hK g rfl 0 (by decide) rfl (hts _ (List.mem_cons_of_mem _ t_416)) (fun _ h9 => h9) 1 rfl dX2_readMemberHead_71 ?_
      refine lv_iconst (v := 1) hx hb dX2_readMemberHead_74 (by decide) ?_
      refine lv_iload_n hx hb dX2_readMemberHead_75 rfl (lv_at hl 3 rfl) ?_
      have kb_1 : bd 1 1 (1 : Int32) := ⟨by decide, by decide⟩
      refine g_callv (va_runV (As := [.int 1, .int r_5]) (rest := []) ⟨hx, hb, hml, hown, hts⟩ (r_X8_fail_7 l dC dI L kd tys fr_276 H.size g.2.2.2.1 q0_ mq0_ kq0_ 1 kb_1 r_5 x_2 h_3 (g.fcts [0] rfl)) (cwV 2 hts (gV_ t_1122 t_1107 t_1108 t_184 t_1109) rfl rfl rfl (by decide +kernel) ⟨(Nat.le_of_ble_eq_true rfl), (Nat.le_of_ble_eq_true rfl)⟩) (pre3V g hK mq0_ kq0_ (by decide) (q := (RX8, TX8, 10)) rfl) rfl rfl hl.1 rfl (lv_room (Nat.le_of_ble_eq_true rfl)) dX2_readMemberHead_76 ⟨(Nat.le_of_ble_eq_true rfl), (Nat.le_of_ble_eq_true rfl)⟩) g hK (by decide) (by decide) (fx' := [(2, 0, a0_, .ref q0_), (2, 1, a0_, .ref q1_), (2, 3, a0_, .ref q2_), (2, 4, a0_, .ref q3_), (2, 5, a0_, .ref q4_), (5, 1, q1_, .ref q5_)]) rfl (fun fr_395 H locs hp hMr_395 g => ?_)
      obtain ⟨x_396, h_397, hF_398⟩ := hp
      have g := g.more hF_398
      refine lv_goto (tgt := 161) hx hb dX2_readMemberHead_79 (by decide) ?_
      refine lv_aload_n hx hb dX2_readMemberHead_161 rfl (lv_at hl 4 rfl) ?_
      refine g_getk (C := RX2) (T := TX2) (N := 16) hx hb hts (mc_ inX2) hown hK g rfl 0 (by decide) rfl (hts _ (List.mem_cons_of_mem _ t_416)) (fun _ h9 => h9) 2 rfl dX2_readMemberHead_162 ?_
      refine g_callv (va_runV (As := []) (rest := []) ⟨hx, hb, hml, hown, hts⟩ (r_X8_next l dC dI L kd tys fr_395 H.size g.2.2.2.1 q0_ mq0_ kq0_) (cwV 0 hts (gV_ t_1131 t_1103 t_1104 t_184 t_1105) rfl rfl rfl (by decide +kernel) ⟨(Nat.le_of_ble_eq_true rfl), (Nat.le_of_ble_eq_true rfl)⟩) (pre3V g hK mq0_ kq0_ (by decide) (q := (RX8, TX8, 10)) rfl) rfl rfl hl.1 rfl (lv_room (Nat.le_of_ble_eq_true rfl)) dX2_readMemberHead_165 ⟨(Nat.le_of_ble_eq_true rfl), (Nat.le_of_ble_eq_true rfl)⟩) g hK (by decide) (by decide) (fx' := [(8, 8, q0_, .int x_396), (2, 0, a0_, .ref q0_), (2, 1, a0_, .ref q1_), (2, 3, a0_, .ref q2_), (2, 4, a0_, .ref q3_), (2, 5, a0_, .ref q4_), (5, 1, q1_, .ref q5_)]) rfl (fun fr_399 H locs hp hMr_399 g => ?_)
      obtain ⟨x_400, h_401, hF_402⟩ := hp
      have g := g.more hF_402
      refine lv_aload_n hx hb dX2_readMemberHead_168 rfl (lv_at hl 4 rfl) ?_
      refine g_getk (C := RX2) (T := TX2) (N := 16) hx hb hts (mc_ inX2) hown hK g rfl 0 (by decide) rfl (hts _ (List.mem_cons_of_mem _ t_416)) (fun _ h9 => h9) 2 rfl dX2_readMemberHead_169 ?_
      refine lv_bipush (v := 40) hx hb dX2_readMemberHead_172 (by decide) ?_
      have gr_403 := g
      refine g_callv (va_runV (As := [.int 40]) (rest := []) ⟨hx, hb, hml, hown, hts⟩ (r_X8_take l dC dI L kd tys fr_399 H.size g.2.2.2.1 q0_ mq0_ kq0_ 40) (cwV 1 hts (gV_ t_1098 t_1099 t_1100 t_184 t_1101) rfl rfl rfl (by decide +kernel) ⟨(Nat.le_of_ble_eq_true rfl), (Nat.le_of_ble_eq_true rfl)⟩) (pre3V g hK mq0_ kq0_ (by decide) (q := (RX8, TX8, 10)) rfl) rfl rfl hl.1 rfl (lv_room (Nat.le_of_ble_eq_true rfl)) dX2_readMemberHead_174 ⟨(Nat.le_of_ble_eq_true rfl), (Nat.le_of_ble_eq_true rfl)⟩) g hK (by decide) (by decide) (fx' := [(2, 0, a0_, .ref q0_), (2, 1, a0_, .ref q1_), (2, 3, a0_, .ref q2_), (2, 4, a0_, .ref q3_), (2, 5, a0_, .ref q4_), (5, 1, q1_, .ref q5_)]) rfl (fun fr_403 H locs hp hMr_403 g => ?_)
      obtain ⟨x_404, bx_404, hFx_404⟩ := stk2 gr_403.2.2.2.2.1 hMr_403 g (by decide) 1 rfl h_397 (by decide)
      have g := g.more hFx_404
      obtain ⟨x_405, h_406, hF_407⟩ := hp
      have g := g.more hF_407
      refine lv_aload_n hx hb dX2_readMemberHead_177 rfl (lv_at hl 4 rfl) ?_
      refine g_getk (C := RX2) (T := TX2) (N := 16) hx hb hts (mc_ inX2) hown hK g rfl 0 (by decide) rfl (hts _ (List.mem_cons_of_mem _ t_416)) (fun _ h9 => h9) 2 rfl dX2_readMemberHead_178 ?_
      refine g_calli (va_runV (As := []) (rest := []) ⟨hx, hb, hml, hown, hts⟩ (r_X8_kind l dC dI L kd tys fr_403 H.size g.2.2.2.1 q0_ mq0_ kq0_) (cwV 0 hts (gV_ t_1118 t_1119 t_1120 t_184 t_1121) rfl rfl rfl (by decide +kernel) ⟨(Nat.le_of_ble_eq_true rfl), (Nat.le_of_ble_eq_true rfl)⟩) (pre3V g hK mq0_ kq0_ (by decide) (q := (RX8, TX8, 10)) rfl) rfl rfl hl.1 rfl (lv_room (Nat.le_of_ble_eq_true rfl)) dX2_readMemberHead_181 ⟨(Nat.le_of_ble_eq_true rfl), (Nat.le_of_ble_eq_true rfl)⟩) g hK (by decide) (by decide) (fx' := [(8, 6, q0_, .int x_405), (8, 8, q0_, .int x_404), (2, 0, a0_, .ref q0_), (2, 1, a0_, .ref q1_), (2, 3, a0_, .ref q2_), (2, 4, a0_, .ref q3_), (2, 5, a0_, .ref q4_), (5, 1, q1_, .ref q5_)]) rfl (fun r_408 fr_408 H locs hp hMr_408 g => ?_)
      refine lv_bipush (v := 41) hx hb dX2_readMemberHead_184 (by decide) ?_
      have kb_41 : bd 41 41 (41 : Int32) := ⟨by decide, by decide⟩
      refine lv_icmp_eq (tgt := 193) hx hb dX2_readMemberHead_186 (by decide) (fun c_409 => ?_) (fun c_409 => ?_)
      · have fc_409 := eq_f c_409
        have b_410 : bd 41 41 r_408 := eqX fc_409 (bdT r_408) kb_41 (by decide)
        refine lv_iconst (v := 0) hx hb dX2_readMemberHead_193 (by decide) ?_
        refine lv_istore (lv' := [(6, .int 0), (5, .int (-1)), (4, .int r_7), (2, .long r_6), (1, .int r_5), (0, .ref a0_)]) hx hb dX2_readMemberHead_194 hl (by decide) rfl (fun ls hl => ?_)
        refine lv_iconst (v := 0) hx hb dX2_readMemberHead_196 (by decide) ?_
        refine lv_istore (lv' := [(7, .int 0), (6, .int 0), (5, .int (-1)), (4, .int r_7), (2, .long r_6), (1, .int r_5), (0, .ref a0_)]) hx hb dX2_readMemberHead_197 hl (by decide) rfl (fun ls hl => ?_)
        refine lv_iload hx hb dX2_readMemberHead_199 (lv_at hl 0 rfl) ?_
        refine lv_iconst (v := 3) hx hb dX2_readMemberHead_201 (by decide) ?_
        refine lv_icmp_gt (tgt := 251) hx hb dX2_readMemberHead_202 (by decide) (fun c_ => absurd c_ (by decide)) (fun c_ => ?_)
        refine lv_iload hx hb dX2_readMemberHead_205 (lv_at hl 1 rfl) ?_
        refine lv_if_eq (tgt := 251) hx hb dX2_readMemberHead_207 (by decide) (fun c_ => ?_) (fun c_ => absurd (by decide) c_)
        refine lv_aload_n hx hb dX2_readMemberHead_251 rfl (lv_at hl 6 rfl) ?_
        refine g_getk (C := RX2) (T := TX2) (N := 16) hx hb hts (mc_ inX2) hown hK g rfl 0 (by decide) rfl (hts _ (List.mem_cons_of_mem _ t_416)) (fun _ h9 => h9) 2 rfl dX2_readMemberHead_252 ?_
        refine g_calli (va_runV (As := []) (rest := []) ⟨hx, hb, hml, hown, hts⟩ (r_X8_place l dC dI L kd tys fr_408 H.size g.2.2.2.1 q0_ mq0_ kq0_) (cwV 0 hts (gV_ t_1110 t_1111 t_1112 t_184 t_1113) rfl rfl rfl (by decide +kernel) ⟨(Nat.le_of_ble_eq_true rfl), (Nat.le_of_ble_eq_true rfl)⟩) (pre3V g hK mq0_ kq0_ (by decide) (q := (RX8, TX8, 10)) rfl) rfl rfl hl.1 rfl (lv_room (Nat.le_of_ble_eq_true rfl)) dX2_readMemberHead_255 ⟨(Nat.le_of_ble_eq_true rfl), (Nat.le_of_ble_eq_true rfl)⟩) g hK (by decide) (by decide) (fx' := [(8, 6, q0_, .int x_405), (8, 8, q0_, .int x_404), (2, 0, a0_, .ref q0_), (2, 1, a0_, .ref q1_), (2, 3, a0_, .ref q2_), (2, 4, a0_, .ref q3_), (2, 5, a0_, .ref q4_), (5, 1, q1_, .ref q5_)]) rfl (fun r_411 fr_411 H locs hp hMr_411 g => ?_)
        refine lv_istore (lv' := [(7, .int r_411), (6, .int 0), (5, .int (-1)), (4, .int r_7), (2, .long r_6), (1, .int r_5), (0, .ref a0_)]) hx hb dX2_readMemberHead_258 hl (by decide) rfl (fun ls hl => ?_)
        refine lv_aload_n hx hb dX2_readMemberHead_260 rfl (lv_at hl 6 rfl) ?_
        refine g_getk (C := RX2) (T := TX2) (N := 16) hx hb hts (mc_ inX2) hown hK g rfl 0 (by decide) rfl (hts _ (List.mem_cons_of_mem _ t_416)) (fun _ h9 => h9) 2 rfl dX2_readMemberHead_261 ?_
        refine lv_bipush (v := 41) hx hb dX2_readMemberHead_264 (by decide) ?_
        have gr_412 := g
        refine g_callv (va_runV (As := [.int 41]) (rest := []) ⟨hx, hb, hml, hown, hts⟩ (r_X8_take l dC dI L kd tys fr_411 H.size g.2.2.2.1 q0_ mq0_ kq0_ 41) (cwV 1 hts (gV_ t_1098 t_1099 t_1100 t_184 t_1101) rfl rfl rfl (by decide +kernel) ⟨(Nat.le_of_ble_eq_true rfl), (Nat.le_of_ble_eq_true rfl)⟩) (pre3V g hK mq0_ kq0_ (by decide) (q := (RX8, TX8, 10)) rfl) rfl rfl hl.1 rfl (lv_room (Nat.le_of_ble_eq_true rfl)) dX2_readMemberHead_266 ⟨(Nat.le_of_ble_eq_true rfl), (Nat.le_of_ble_eq_true rfl)⟩) g hK (by decide) (by decide) (fx' := [(2, 0, a0_, .ref q0_), (2, 1, a0_, .ref q1_), (2, 3, a0_, .ref q2_), (2, 4, a0_, .ref q3_), (2, 5, a0_, .ref q4_), (5, 1, q1_, .ref q5_)]) rfl (fun fr_412 H locs hp hMr_412 g => ?_)
        obtain ⟨x_413, bx_413, hFx_413⟩ := stk2 gr_412.2.2.2.2.1 hMr_412 g (by decide) 1 rfl bx_404 (by decide)
        have g := g.more hFx_413
        obtain ⟨x_414, h_415, hF_416⟩ := hp
        have g := g.more hF_416
        refine lv_iload hx hb dX2_readMemberHead_269 (lv_at hl 2 rfl) ?_
        refine lv_iconst (v := (-1)) hx hb dX2_readMemberHead_271 (by decide) ?_
        refine lv_icmp_eq (tgt := 308) hx hb dX2_readMemberHead_272 (by decide) (fun c_ => ?_) (fun c_ => absurd (by decide) c_)
        subst hQ
        exact W.vret hx hb hr (fun t ht hW => ⟨⟨_, rfl, ⟨x_414, h_415, q4_, ⟨mq4_, kq4_⟩, (g.fcts [0, 6] rfl)⟩, q3_of g hK ht hW⟩, g.2.2.1.F ht⟩) g.2.2.1.2.2 dX2_readMemberHead_308
      · have fc_409 := neq_f c_409
        refine lv_iconst (v := 1) hx hb dX2_readMemberHead_189 (by decide) ?_
        refine lv_goto (tgt := 194) hx hb dX2_readMemberHead_190 (by decide) ?_
        refine lv_istore (lv' := [(6, .int 1), (5, .int (-1)), (4, .int r_7), (2, .long r_6), (1, .int r_5), (0, .ref a0_)]) hx hb dX2_readMemberHead_194 hl (by decide) rfl (fun ls hl => ?_)
        refine lv_iconst (v := 0) hx hb dX2_readMemberHead_196 (by decide) ?_
        refine lv_istore (lv' := [(7, .int 0), (6, .int 1), (5, .int (-1)), (4, .int r_7), (2, .long r_6), (1, .int r_5), (0, .ref a0_)]) hx hb dX2_readMemberHead_197 hl (by decide) rfl (fun ls hl => ?_)
        have loop_417 : ∀ (n : Nat) (v199_7 : Int32) (v199_6 : Int32) (w199_8_6_q0_ : Int32) (w199_8_8_q0_ : Int32), bd 0 4 v199_7 → bd 0 1 v199_6 → bd 1 1201 w199_8_6_q0_ → bd 1 7 w199_8_8_q0_ → (4 - v199_7.toInt < (n : Int)) → ∀ (f : Nat → va_E) (H : Heap) (locs : List Loc) (ls : Array Slot), G3 (dC, dI) L kd tys s f0 [(2, 5), (2, 6), (5, 4), (6, 0), (6, 1), (6, 2), (6, 3), (6, 6), (6, 7), (6, 8), (6, 9), (6, 10), (6, 11), (6, 12), (7, 3), (8, 6), (8, 8), (8, 9), (9, 8)] [132, 134, 135, 156] f H locs [(8, 6, q0_, .int w199_8_6_q0_), (8, 8, q0_, .int w199_8_8_q0_), (2, 0, a0_, .ref q0_), (2, 1, a0_, .ref q1_), (2, 3, a0_, .ref q2_), (2, 4, a0_, .ref q3_), (2, 5, a0_, .ref q4_), (5, 1, q1_, .ref q5_)] → lv_has ls 8 [(7, .int v199_7), (6, .int v199_6), (5, .int (-1)), (4, .int r_7), (2, .long r_6), (1, .int r_5), (0, .ref a0_)] → W p l e ({ frames := 3, cells := 0, slots := 0, locals := 72 } : Room) s m [.ref a0_].toArray below meth c H locs 0 0 Q (F0 m 199 ls []) := by
          intro n199
          induction n199 with
          | zero =>
            intro v199_7 v199_6 w199_8_6_q0_ w199_8_8_q0_ bv199_7 bv199_6 bw199_8_6_q0_ bw199_8_8_q0_ hm199 f H locs ls g  hl
            exact absurd hm199 (by have h9_v199_7 := bv199_7; unfold bd at h9_v199_7; have h9_v199_6 := bv199_6; unfold bd at h9_v199_6; have h9_w199_8_6_q0_ := bw199_8_6_q0_; unfold bd at h9_w199_8_6_q0_; have h9_w199_8_8_q0_ := bw199_8_8_q0_; unfold bd at h9_w199_8_8_q0_; omega)
          | succ n199 ih199 =>
            intro v199_7 v199_6 w199_8_6_q0_ w199_8_8_q0_ bv199_7 bv199_6 bw199_8_6_q0_ bw199_8_8_q0_ hm199 f H locs ls g  hl
            refine lv_iload hx hb dX2_readMemberHead_199 (lv_at hl 0 rfl) ?_
            refine lv_iconst (v := 3) hx hb dX2_readMemberHead_201 (by decide) ?_
            refine lv_icmp_gt (tgt := 251) hx hb dX2_readMemberHead_202 (by decide) (fun c_418 => ?_) (fun c_418 => ?_)
            · have fc_418 := lt_f c_418
              have b_419 : bd 4 4 v199_7 := ltR fc_418 kb_3 bv199_7 (by decide)
              refine lv_aload_n hx hb dX2_readMemberHead_251 rfl (lv_at hl 6 rfl) ?_
              refine g_getk (C := RX2) (T := TX2) (N := 16) hx hb hts (mc_ inX2) hown hK g rfl 0 (by decide) rfl (hts _ (List.mem_cons_of_mem _ t_416)) (fun _ h9 => h9) 2 rfl dX2_readMemberHead_252 ?_
              refine g_calli (va_runV (As := []) (rest := []) ⟨hx, hb, hml, hown, hts⟩ (r_X8_place l dC dI L kd tys f H.size g.2.2.2.1 q0_ mq0_ kq0_) (cwV 0 hts (gV_ t_1110 t_1111 t_1112 t_184 t_1113) rfl rfl rfl (by decide +kernel) ⟨(Nat.le_of_ble_eq_true rfl), (Nat.le_of_ble_eq_true rfl)⟩) (pre3V g hK mq0_ kq0_ (by decide) (q := (RX8, TX8, 10)) rfl) rfl rfl hl.1 rfl (lv_room (Nat.le_of_ble_eq_true rfl)) dX2_readMemberHead_255 ⟨(Nat.le_of_ble_eq_true rfl), (Nat.le_of_ble_eq_true rfl)⟩) g hK (by decide) (by decide) (fx' := [(8, 6, q0_, .int w199_8_6_q0_), (8, 8, q0_, .int w199_8_8_q0_), (2, 0, a0_, .ref q0_), (2, 1, a0_, .ref q1_), (2, 3, a0_, .ref q2_), (2, 4, a0_, .ref q3_), (2, 5, a0_, .ref q4_), (5, 1, q1_, .ref q5_)]) rfl (fun r_420 fr_420 H locs hp hMr_420 g => ?_)
              refine lv_istore (lv' := [(7, .int r_420), (6, .int v199_6), (5, .int (-1)), (4, .int r_7), (2, .long r_6), (1, .int r_5), (0, .ref a0_)]) hx hb dX2_readMemberHead_258 hl (by decide) rfl (fun ls hl => ?_)
              refine lv_aload_n hx hb dX2_readMemberHead_260 rfl (lv_at hl 6 rfl) ?_
              refine g_getk (C := RX2) (T := TX2) (N := 16) hx hb hts (mc_ inX2) hown hK g rfl 0 (by decide) rfl (hts _ (List.mem_cons_of_mem _ t_416)) (fun _ h9 => h9) 2 rfl dX2_readMemberHead_261 ?_
              refine lv_bipush (v := 41) hx hb dX2_readMemberHead_264 (by decide) ?_
              have gr_421 := g
              refine g_callv (va_runV (As := [.int 41]) (rest := []) ⟨hx, hb, hml, hown, hts⟩ (r_X8_take l dC dI L kd tys fr_420 H.size g.2.2.2.1 q0_ mq0_ kq0_ 41) (cwV 1 hts (gV_ t_1098 t_1099 t_1100 t_184 t_1101) rfl rfl rfl (by decide +kernel) ⟨(Nat.le_of_ble_eq_true rfl), (Nat.le_of_ble_eq_true rfl)⟩) (pre3V g hK mq0_ kq0_ (by decide) (q := (RX8, TX8, 10)) rfl) rfl rfl hl.1 rfl (lv_room (Nat.le_of_ble_eq_true rfl)) dX2_readMemberHead_266 ⟨(Nat.le_of_ble_eq_true rfl), (Nat.le_of_ble_eq_true rfl)⟩) g hK (by decide) (by decide) (fx' := [(2, 0, a0_, .ref q0_), (2, 1, a0_, .ref q1_), (2, 3, a0_, .ref q2_), (2, 4, a0_, .ref q3_), (2, 5, a0_, .ref q4_), (5, 1, q1_, .ref q5_)]) rfl (fun fr_421 H locs hp hMr_421 g => ?_)
              obtain ⟨x_422, bx_422, hFx_422⟩ := stk2 gr_421.2.2.2.2.1 hMr_421 g (by decide) 1 rfl bw199_8_8_q0_ (by decide)
              have g := g.more hFx_422
              obtain ⟨x_423, h_424, hF_425⟩ := hp
              have g := g.more hF_425
              refine lv_iload hx hb dX2_readMemberHead_269 (lv_at hl 2 rfl) ?_
              refine lv_iconst (v := (-1)) hx hb dX2_readMemberHead_271 (by decide) ?_
              refine lv_icmp_eq (tgt := 308) hx hb dX2_readMemberHead_272 (by decide) (fun c_ => ?_) (fun c_ => absurd (by decide) c_)
              subst hQ
              exact W.vret hx hb hr (fun t ht hW => ⟨⟨_, rfl, ⟨x_423, h_424, q4_, ⟨mq4_, kq4_⟩, (g.fcts [0, 6] rfl)⟩, q3_of g hK ht hW⟩, g.2.2.1.F ht⟩) g.2.2.1.2.2 dX2_readMemberHead_308
            · have fc_418 := nlt_f c_418
              have b_426 : bd 0 3 v199_7 := leL fc_418 bv199_7 kb_3 (by decide)
              refine lv_iload hx hb dX2_readMemberHead_205 (lv_at hl 1 rfl) ?_
              have kb_0 : bd 0 0 (0 : Int32) := ⟨by decide, by decide⟩
              refine lv_if_eq (tgt := 251) hx hb dX2_readMemberHead_207 (by decide) (fun c_427 => ?_) (fun c_427 => ?_)
              · have fc_427 := eq_f c_427
                have b_428 : bd 0 0 v199_6 := eqX fc_427 bv199_6 kb_0 (by decide)
                refine lv_aload_n hx hb dX2_readMemberHead_251 rfl (lv_at hl 6 rfl) ?_
                refine g_getk (C := RX2) (T := TX2) (N := 16) hx hb hts (mc_ inX2) hown hK g rfl 0 (by decide) rfl (hts _ (List.mem_cons_of_mem _ t_416)) (fun _ h9 => h9) 2 rfl dX2_readMemberHead_252 ?_
                refine g_calli (va_runV (As := []) (rest := []) ⟨hx, hb, hml, hown, hts⟩ (r_X8_place l dC dI L kd tys f H.size g.2.2.2.1 q0_ mq0_ kq0_) (cwV 0 hts (gV_ t_1110 t_1111 t_1112 t_184 t_1113) rfl rfl rfl (by decide +kernel) ⟨(Nat.le_of_ble_eq_true rfl), (Nat.le_of_ble_eq_true rfl)⟩) (pre3V g hK mq0_ kq0_ (by decide) (q := (RX8, TX8, 10)) rfl) rfl rfl hl.1 rfl (lv_room (Nat.le_of_ble_eq_true rfl)) dX2_readMemberHead_255 ⟨(Nat.le_of_ble_eq_true rfl), (Nat.le_of_ble_eq_true rfl)⟩) g hK (by decide) (by decide) (fx' := [(8, 6, q0_, .int w199_8_6_q0_), (8, 8, q0_, .int w199_8_8_q0_), (2, 0, a0_, .ref q0_), (2, 1, a0_, .ref q1_), (2, 3, a0_, .ref q2_), (2, 4, a0_, .ref q3_), (2, 5, a0_, .ref q4_), (5, 1, q1_, .ref q5_)]) rfl (fun r_429 fr_429 H locs hp hMr_429 g => ?_)
                refine lv_istore (lv' := [(7, .int r_429), (6, .int v199_6), (5, .int (-1)), (4, .int r_7), (2, .long r_6), (1, .int r_5), (0, .ref a0_)]) hx hb dX2_readMemberHead_258 hl (by decide) rfl (fun ls hl => ?_)
                refine lv_aload_n hx hb dX2_readMemberHead_260 rfl (lv_at hl 6 rfl) ?_
                refine g_getk (C := RX2) (T := TX2) (N := 16) hx hb hts (mc_ inX2) hown hK g rfl 0 (by decide) rfl (hts _ (List.mem_cons_of_mem _ t_416)) (fun _ h9 => h9) 2 rfl dX2_readMemberHead_261 ?_
                refine lv_bipush (v := 41) hx hb dX2_readMemberHead_264 (by decide) ?_
                have gr_430 := g
                refine g_callv (va_runV (As := [.int 41]) (rest := []) ⟨hx, hb, hml, hown, hts⟩ (r_X8_take l dC dI L kd tys fr_429 H.size g.2.2.2.1 q0_ mq0_ kq0_ 41) (cwV 1 hts (gV_ t_1098 t_1099 t_1100 t_184 t_1101) rfl rfl rfl (by decide +kernel) ⟨(Nat.le_of_ble_eq_true rfl), (Nat.le_of_ble_eq_true rfl)⟩) (pre3V g hK mq0_ kq0_ (by decide) (q := (RX8, TX8, 10)) rfl) rfl rfl hl.1 rfl (lv_room (Nat.le_of_ble_eq_true rfl)) dX2_readMemberHead_266 ⟨(Nat.le_of_ble_eq_true rfl), (Nat.le_of_ble_eq_true rfl)⟩) g hK (by decide) (by decide) (fx' := [(2, 0, a0_, .ref q0_), (2, 1, a0_, .ref q1_), (2, 3, a0_, .ref q2_), (2, 4, a0_, .ref q3_), (2, 5, a0_, .ref q4_), (5, 1, q1_, .ref q5_)]) rfl (fun fr_430 H locs hp hMr_430 g => ?_)
                obtain ⟨x_431, bx_431, hFx_431⟩ := stk2 gr_430.2.2.2.2.1 hMr_430 g (by decide) 1 rfl bw199_8_8_q0_ (by decide)
                have g := g.more hFx_431
                obtain ⟨x_432, h_433, hF_434⟩ := hp
                have g := g.more hF_434
                refine lv_iload hx hb dX2_readMemberHead_269 (lv_at hl 2 rfl) ?_
                refine lv_iconst (v := (-1)) hx hb dX2_readMemberHead_271 (by decide) ?_
                refine lv_icmp_eq (tgt := 308) hx hb dX2_readMemberHead_272 (by decide) (fun c_ => ?_) (fun c_ => absurd (by decide) c_)
                subst hQ
                exact W.vret hx hb hr (fun t ht hW => ⟨⟨_, rfl, ⟨x_432, h_433, q4_, ⟨mq4_, kq4_⟩, (g.fcts [0, 6] rfl)⟩, q3_of g hK ht hW⟩, g.2.2.1.F ht⟩) g.2.2.1.2.2 dX2_readMemberHead_308
              · have fc_427 := neq_f c_427
                have b_435 : bd 1 1 v199_6 := neX fc_427 bv199_6 kb_0 (by decide)
                refine lv_aload_n hx hb dX2_readMemberHead_210 rfl (lv_at hl 6 rfl) ?_
                have gr_436 := g
                refine g_callv (va_runV (As := []) (rest := []) ⟨hx, hb, hml, hown, hts⟩ (r_X2_readParam l dC dI L kd tys f H.size g.2.2.2.1 a0_ ma0_ ka0_ q0_ mq0_ kq0_ q1_ mq1_ kq1_ q4_ mq4_ kq4_ q5_ mq5_ kq5_ (g.fcts [2, 3, 6, 7] rfl)) (cwV 0 hts (gV_ t_1313 t_1315 t_34 t_183 t_1316) rfl rfl rfl (by decide +kernel) ⟨(Nat.le_of_ble_eq_true rfl), (Nat.le_of_ble_eq_true rfl)⟩) (pre3V g hK ma0_ ka0_ (by decide) (q := (RX2, TX2, 16)) rfl) rfl rfl hl.1 rfl (lv_room (Nat.le_of_ble_eq_true rfl)) dX2_readMemberHead_211 ⟨(Nat.le_of_ble_eq_true rfl), (Nat.le_of_ble_eq_true rfl)⟩) g hK (by decide) (by decide) (fx' := [(2, 0, a0_, .ref q0_), (2, 1, a0_, .ref q1_), (2, 3, a0_, .ref q2_), (2, 4, a0_, .ref q3_), (2, 5, a0_, .ref q4_), (5, 1, q1_, .ref q5_)]) rfl (fun fr_436 H locs hp hMr_436 g => ?_)
                obtain ⟨x_437, bx_437, hFx_437⟩ := stk2 gr_436.2.2.2.2.1 hMr_436 g (by decide) 1 rfl bw199_8_8_q0_ (by decide)
                have g := g.more hFx_437
                obtain ⟨x_438, h_439, hF_440⟩ := hp
                have g := g.more hF_440
                refine lv_aload_n hx hb dX2_readMemberHead_214 rfl (lv_at hl 6 rfl) ?_
                refine g_getk (C := RX2) (T := TX2) (N := 16) hx hb hts (mc_ inX2) hown hK g rfl 0 (by decide) rfl (hts _ (List.mem_cons_of_mem _ t_416)) (fun _ h9 => h9) 2 rfl dX2_readMemberHead_215 ?_
                refine g_calli (va_runV (As := []) (rest := []) ⟨hx, hb, hml, hown, hts⟩ (r_X8_kind l dC dI L kd tys fr_436 H.size g.2.2.2.1 q0_ mq0_ kq0_) (cwV 0 hts (gV_ t_1118 t_1119 t_1120 t_184 t_1121) rfl rfl rfl (by decide +kernel) ⟨(Nat.le_of_ble_eq_true rfl), (Nat.le_of_ble_eq_true rfl)⟩) (pre3V g hK mq0_ kq0_ (by decide) (q := (RX8, TX8, 10)) rfl) rfl rfl hl.1 rfl (lv_room (Nat.le_of_ble_eq_true rfl)) dX2_readMemberHead_218 ⟨(Nat.le_of_ble_eq_true rfl), (Nat.le_of_ble_eq_true rfl)⟩) g hK (by decide) (by decide) (fx' := [(8, 6, q0_, .int x_438), (8, 8, q0_, .int x_437), (2, 0, a0_, .ref q0_), (2, 1, a0_, .ref q1_), (2, 3, a0_, .ref q2_), (2, 4, a0_, .ref q3_), (2, 5, a0_, .ref q4_), (5, 1, q1_, .ref q5_)]) rfl (fun r_441 fr_441 H locs hp hMr_441 g => ?_)
                refine lv_bipush (v := 44) hx hb dX2_readMemberHead_221 (by decide) ?_
                have kb_44 : bd 44 44 (44 : Int32) := ⟨by decide, by decide⟩
                refine lv_icmp_ne (tgt := 230) hx hb dX2_readMemberHead_223 (by decide) (fun c_442 => ?_) (fun c_442 => ?_)
                · have fc_442 := neq_f c_442
                  refine lv_iconst (v := 0) hx hb dX2_readMemberHead_230 (by decide) ?_
                  refine lv_istore (lv' := [(6, .int 0), (7, .int v199_7), (5, .int (-1)), (4, .int r_7), (2, .long r_6), (1, .int r_5), (0, .ref a0_)]) hx hb dX2_readMemberHead_231 hl (by decide) rfl (fun ls hl => ?_)
                  refine lv_iload hx hb dX2_readMemberHead_233 (lv_at hl 0 rfl) ?_
                  refine lv_if_eq (tgt := 245) hx hb dX2_readMemberHead_235 (by decide) (fun c_ => ?_) (fun c_ => absurd (by decide) c_)
                  obtain ⟨y_443, ey_443⟩ : ∃ z : Int32, z = v199_7 + 1 := ⟨_, rfl⟩
                  refine lv_iinc (v := y_443) (lv' := [(7, .int y_443), (6, .int 0), (5, .int (-1)), (4, .int r_7), (2, .long r_6), (1, .int r_5), (0, .ref a0_)]) hx hb dX2_readMemberHead_245 hl (k := 1) rfl (by rw [ey_443]; rfl) (by decide) rfl (fun ls hl => ?_)
                  have ty_443 := add_bd ey_443 b_426 kb_1 (by decide)
                  have b_444 : bd 1 4 y_443 := add_rg ty_443 b_426 kb_1 (by decide)
                  refine lv_goto (tgt := 199) hx hb dX2_readMemberHead_248 (by decide) ?_
                  have hl9 := lv_sub hl [0, 1, 2, 3, 4, 5, 6] (by rfl : lv_pick [(7, .int y_443), (6, .int 0), (5, .int (-1)), (4, .int r_7), (2, .long r_6), (1, .int r_5), (0, .ref a0_)] [0, 1, 2, 3, 4, 5, 6] = [(7, .int y_443), (6, .int 0), (5, .int (-1)), (4, .int r_7), (2, .long r_6), (1, .int r_5), (0, .ref a0_)])
                  have g9 := g.sub (fx' := [(8, 6, q0_, .int x_438), (8, 8, q0_, .int x_437), (2, 0, a0_, .ref q0_), (2, 1, a0_, .ref q1_), (2, 3, a0_, .ref q2_), (2, 4, a0_, .ref q3_), (2, 5, a0_, .ref q4_), (5, 1, q1_, .ref q5_)]) [0, 1, 2, 3, 4, 5, 6, 7] rfl
                  exact ih199  y_443 0 x_438 x_437 (bd_sub b_444 (by decide)) (bd_sub kb_0 (by decide)) h_439 bx_437 (by have h9_0 := b_444; unfold bd at h9_0; have h9_1 := bv199_6; unfold bd at h9_1; have h9_2 := bv199_7; unfold bd at h9_2; have h9_3 := bw199_8_6_q0_; unfold bd at h9_3; have h9_4 := bw199_8_8_q0_; unfold bd at h9_4; have h9_5 := bx_437; unfold bd at h9_5; have h9_6 := h_439; unfold bd at h9_6; have h9_7 := kb_0; unfold bd at h9_7; have h9_8 := kb_1; unfold bd at h9_8; have h9_9 := kb_3; unfold bd at h9_9; have h9_10 := kb_41; unfold bd at h9_10; have h9_11 := kb_44; unfold bd at h9_11; have h9_12 := kb_m1; unfold bd at h9_12; omega) _ _ _ _ g9  hl9
                · have fc_442 := eq_f c_442
                  have b_445 : bd 44 44 r_441 := eqX fc_442 (bdT r_441) kb_44 (by decide)
                  refine lv_iconst (v := 1) hx hb dX2_readMemberHead_226 (by decide) ?_
                  refine lv_goto (tgt := 231) hx hb dX2_readMemberHead_227 (by decide) ?_
                  refine lv_istore (lv' := [(6, .int 1), (7, .int v199_7), (5, .int (-1)), (4, .int r_7), (2, .long r_6), (1, .int r_5), (0, .ref a0_)]) hx hb dX2_readMemberHead_231 hl (by decide) rfl (fun ls hl => ?_)
                  refine lv_iload hx hb dX2_readMemberHead_233 (lv_at hl 0 rfl) ?_
                  refine lv_if_eq (tgt := 245) hx hb dX2_readMemberHead_235 (by decide) (fun c_ => absurd c_ (by decide)) (fun c_ => ?_)
                  refine lv_aload_n hx hb dX2_readMemberHead_238 rfl (lv_at hl 6 rfl) ?_
                  refine g_getk (C := RX2) (T := TX2) (N := 16) hx hb hts (mc_ inX2) hown hK g rfl 0 (by decide) rfl (hts _ (List.mem_cons_of_mem _ t_416)) (fun _ h9 => h9) 2 rfl dX2_readMemberHead_239 ?_
                  refine g_callv (va_runV (As := []) (rest := []) ⟨hx, hb, hml, hown, hts⟩ (r_X8_next l dC dI L kd tys fr_441 H.size g.2.2.2.1 q0_ mq0_ kq0_) (cwV 0 hts (gV_ t_1131 t_1103 t_1104 t_184 t_1105) rfl rfl rfl (by decide +kernel) ⟨(Nat.le_of_ble_eq_true rfl), (Nat.le_of_ble_eq_true rfl)⟩) (pre3V g hK mq0_ kq0_ (by decide) (q := (RX8, TX8, 10)) rfl) rfl rfl hl.1 rfl (lv_room (Nat.le_of_ble_eq_true rfl)) dX2_readMemberHead_242 ⟨(Nat.le_of_ble_eq_true rfl), (Nat.le_of_ble_eq_true rfl)⟩) g hK (by decide) (by decide) (fx' := [(8, 8, q0_, .int x_437), (2, 0, a0_, .ref q0_), (2, 1, a0_, .ref q1_), (2, 3, a0_, .ref q2_), (2, 4, a0_, .ref q3_), (2, 5, a0_, .ref q4_), (5, 1, q1_, .ref q5_)]) rfl (fun fr_446 H locs hp hMr_446 g => ?_)
                  obtain ⟨x_447, h_448, hF_449⟩ := hp
                  have g := g.more hF_449
                  obtain ⟨y_450, ey_450⟩ : ∃ z : Int32, z = v199_7 + 1 := ⟨_, rfl⟩
                  refine lv_iinc (v := y_450) (lv' := [(7, .int y_450), (6, .int 1), (5, .int (-1)), (4, .int r_7), (2, .long r_6), (1, .int r_5), (0, .ref a0_)]) hx hb dX2_readMemberHead_245 hl (k := 1) rfl (by rw [ey_450]; rfl) (by decide) rfl (fun ls hl => ?_)
                  have ty_450 := add_bd ey_450 b_426 kb_1 (by decide)
                  have b_451 : bd 1 4 y_450 := add_rg ty_450 b_426 kb_1 (by decide)
                  refine lv_goto (tgt := 199) hx hb dX2_readMemberHead_248 (by decide) ?_
                  have hl9 := lv_sub hl [0, 1, 2, 3, 4, 5, 6] (by rfl : lv_pick [(7, .int y_450), (6, .int 1), (5, .int (-1)), (4, .int r_7), (2, .long r_6), (1, .int r_5), (0, .ref a0_)] [0, 1, 2, 3, 4, 5, 6] = [(7, .int y_450), (6, .int 1), (5, .int (-1)), (4, .int r_7), (2, .long r_6), (1, .int r_5), (0, .ref a0_)])
                  have g9 := g.sub (fx' := [(8, 6, q0_, .int x_447), (8, 8, q0_, .int x_437), (2, 0, a0_, .ref q0_), (2, 1, a0_, .ref q1_), (2, 3, a0_, .ref q2_), (2, 4, a0_, .ref q3_), (2, 5, a0_, .ref q4_), (5, 1, q1_, .ref q5_)]) [0, 1, 2, 3, 4, 5, 6, 7] rfl
                  exact ih199  y_450 1 x_447 x_437 (bd_sub b_451 (by decide)) (bd_sub kb_1 (by decide)) h_448 bx_437 (by have h9_0 := b_451; unfold bd at h9_0; have h9_1 := bv199_6; unfold bd at h9_1; have h9_2 := bv199_7; unfold bd at h9_2; have h9_3 := bw199_8_6_q0_; unfold bd at h9_3; have h9_4 := bw199_8_8_q0_; unfold bd at h9_4; have h9_5 := bx_437; unfold bd at h9_5; have h9_6 := h_448; unfold bd at h9_6; have h9_7 := kb_0; unfold bd at h9_7; have h9_8 := kb_1; unfold bd at h9_8; have h9_9 := kb_3; unfold bd at h9_9; have h9_10 := kb_41; unfold bd at h9_10; have h9_11 := kb_44; unfold bd at h9_11; have h9_12 := kb_m1; unfold bd at h9_12; omega) _ _ _ _ g9  hl9
        have kb_0 : bd 0 0 (0 : Int32) := ⟨by decide, by decide⟩
        have hl9 := lv_sub hl [0, 1, 2, 3, 4, 5, 6] (by rfl : lv_pick [(7, .int 0), (6, .int 1), (5, .int (-1)), (4, .int r_7), (2, .long r_6), (1, .int r_5), (0, .ref a0_)] [0, 1, 2, 3, 4, 5, 6] = [(7, .int 0), (6, .int 1), (5, .int (-1)), (4, .int r_7), (2, .long r_6), (1, .int r_5), (0, .ref a0_)])
        have g9 := g.sub (fx' := [(8, 6, q0_, .int x_405), (8, 8, q0_, .int x_404), (2, 0, a0_, .ref q0_), (2, 1, a0_, .ref q1_), (2, 3, a0_, .ref q2_), (2, 4, a0_, .ref q3_), (2, 5, a0_, .ref q4_), (5, 1, q1_, .ref q5_)]) [0, 1, 2, 3, 4, 5, 6, 7] rfl
        exact loop_417 (11) 0 1 x_405 x_404 (bd_sub kb_0 (by decide)) (bd_sub kb_1 (by decide)) h_406 bx_404 (by have h9_0 := bx_404; unfold bd at h9_0; have h9_1 := h_406; unfold bd at h9_1; have h9_2 := kb_0; unfold bd at h9_2; have h9_3 := kb_1; unfold bd at h9_3; have h9_4 := kb_3; unfold bd at h9_4; have h9_5 := kb_41; unfold bd at h9_5; have h9_6 := kb_m1; unfold bd at h9_6; omega) _ _ _ _ g9  hl9
