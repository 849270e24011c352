set_option maxHeartbeats 4000000 in
set_option maxRecDepth 100000 in
theorem r_X2_readMemberHead (l : Launch) (dC : Nat → ClassId) (dI : Nat → Nat → Nat) (L : List Nat) (kd : Nat → Nat) (tys : List (ClassId × FieldType)) (f0 : Nat → va_E) (sz : Nat) (hWT : WT L kd tys f0) (a0_ : Nat) (ma0_ : a0_ ∈ L) (ka0_ : kd a0_ = 2) (q0_ : Nat) (mq0_ : q0_ ∈ L) (kq0_ : kd q0_ = 8) (q1_ : Nat) (mq1_ : q1_ ∈ L) (kq1_ : kd q1_ = 5) (q2_ : Nat) (mq2_ : q2_ ∈ L) (kq2_ : kd q2_ = 7) (q3_ : Nat) (mq3_ : q3_ ∈ L) (kq3_ : kd q3_ = 9) (q4_ : Nat) (mq4_ : q4_ ∈ L) (kq4_ : kd q4_ = 6) (q5_ : Nat) (mq5_ : q5_ ∈ L) (kq5_ : kd q5_ = 9) (hfx : Fs L kd f0 [(2, 0, a0_, .ref q0_), (2, 1, a0_, .ref q1_), (2, 3, a0_, .ref q2_), (2, 4, a0_, .ref q3_), (2, 5, a0_, .ref q4_), (5, 1, q1_, .ref q5_)]) : Met l yX2_readMemberHead (.code yX2_readMemberHead cX2_readMemberHead 8 none :: lw_g) ({ frames := 3, cells := 0, slots := 0, locals := 72 }) (va_Pc [.ref a0_] (P3 (dC, dI) L tys f0 sz)) (va_Qv (fun (f : Nat → va_E) => (∃ z0_ : Int32, bd 1201 1201 z0_ ∧ ∃ z1_ : Int32, bd 1 7 z1_ ∧ ∃ z2_ : Nat, (z2_ ∈ L ∧ kd z2_ = 6) ∧ Fs L kd f [(8, 6, q0_, .int z0_), (8, 8, q0_, .int z1_), (2, 5, a0_, .ref z2_)]) ∨ (∃ z0_ : Int32, bd 1 1201 z0_ ∧ ∃ z2_ : Int32, bd 1 12 z2_ ∧ ∃ z3_ : Nat, (z3_ ∈ L ∧ kd z3_ = 6) ∧ ∃ z4_ : Int32, bd 1 96 z4_ ∧ Fs L kd f [(8, 6, q0_, .int z0_), (2, 6, a0_, .int 0), (9, 8, q3_, .int z2_), (2, 5, a0_, .ref z3_), (7, 3, q2_, .int z4_)])) (Q3 (dC, dI) L kd tys [(2, 5), (2, 6), (5, 4), (6, 0), (6, 1), (6, 2), (6, 3), (6, 6), (6, 7), (6, 8), (6, 9), (6, 10), (6, 11), (6, 12), (7, 3), (8, 6), (8, 8), (8, 9), (9, 8)] [132, 134, 135, 156] f0 sz) (pA L sz)) 0 0 (pA L sz) := by
  refine Met.ofW (cc := cX2_readMemberHead) (maxL := 8) (ret := none) (by decide) rfl ?_
  intro p e s m args below meth c s₁ B hml hv
  obtain ⟨rfl, hsz, hP, hK, hD0⟩ := hv
  have hx := B.exec
  have hb := B.bytes
  have hr := B.returns
  have hts := atoms_spec (ws := (.code yX2_readMemberHead cX2_readMemberHead 8 none :: lw_g)) B.pre
  have hown : s.vm.findClass RX2 = some m.cls := findClass_of_methodNamed B.named
  have hlocks := B.notSynchronized
  subst hsz
  have g : G3 (dC, dI) L kd tys s f0 [(2, 5), (2, 6), (5, 4), (6, 0), (6, 1), (6, 2), (6, 3), (6, 6), (6, 7), (6, 8), (6, 9), (6, 10), (6, 11), (6, 12), (7, 3), (8, 6), (8, 8), (8, 9), (9, 8)] [132, 134, 135, 156] f0 s.heap [] [(2, 0, a0_, .ref q0_), (2, 1, a0_, .ref q1_), (2, 3, a0_, .ref q2_), (2, 4, a0_, .ref q3_), (2, 5, a0_, .ref q4_), (5, 1, q1_, .ref q5_)] := G3.start hP hD0 hWT hfx
  have hl := lv_entry ([.ref a0_]) (n := 8) (Nat.le_of_ble_eq_true rfl)
  rw [lg_entry_eq]
  generalize (lg_sl ([.ref a0_]) ++ List.replicate (8 - (lg_sl ([.ref a0_])).length) Slot.unset).toArray = ls at hl ⊢
  have hl : lv_has ls 8 [(0, .ref a0_)] := hl
  refine W_q (fun Q hQ => ?_)
  refine lv_aload_n hx hb dX2_readMemberHead_0 rfl (lv_at hl 0 rfl) ?_
  refine g_getk (C := RX2) (T := TX2) (N := 16) hx hb hts (mc_ inX2) hown hK g rfl 0 (by decide) rfl (hts _ (List.mem_cons_of_mem _ t_416)) (fun _ h9 => h9) 0 rfl dX2_readMemberHead_1 ?_
  refine g_callv (va_runV (As := []) (rest := []) ⟨hx, hb, hml, hown, hts⟩ (r_X8_next l dC dI L kd tys f0 s.heap.size g.2.2.2.1 q0_ mq0_ kq0_) (cwV 0 hts (gV_ t_1131 t_1103 t_1104 t_184 t_1105) rfl rfl rfl (by decide +kernel) ⟨(Nat.le_of_ble_eq_true rfl), (Nat.le_of_ble_eq_true rfl)⟩) (pre3V g hK mq0_ kq0_ (by decide) (q := (RX8, TX8, 10)) rfl) rfl rfl hl.1 rfl (lv_room (Nat.le_of_ble_eq_true rfl)) dX2_readMemberHead_4 ⟨(Nat.le_of_ble_eq_true rfl), (Nat.le_of_ble_eq_true rfl)⟩) g hK (by decide) (by decide) (fx' := [(2, 0, a0_, .ref q0_), (2, 1, a0_, .ref q1_), (2, 3, a0_, .ref q2_), (2, 4, a0_, .ref q3_), (2, 5, a0_, .ref q4_), (5, 1, q1_, .ref q5_)]) rfl (fun fr_1 H locs hp hMr_1 g => ?_)
  obtain ⟨x_2, h_3, hF_4⟩ := hp
  have g := g.more hF_4
  refine lv_aload_n hx hb dX2_readMemberHead_7 rfl (lv_at hl 0 rfl) ?_
  refine g_getk (C := RX2) (T := TX2) (N := 16) hx hb hts (mc_ inX2) hown hK g rfl 0 (by decide) rfl (hts _ (List.mem_cons_of_mem _ t_416)) (fun _ h9 => h9) 1 rfl dX2_readMemberHead_8 ?_
  refine g_calli (va_runV (As := []) (rest := []) ⟨hx, hb, hml, hown, hts⟩ (r_X8_place l dC dI L kd tys fr_1 H.size g.2.2.2.1 q0_ mq0_ kq0_) (cwV 0 hts (gV_ t_1110 t_1111 t_1112 t_184 t_1113) rfl rfl rfl (by decide +kernel) ⟨(Nat.le_of_ble_eq_true rfl), (Nat.le_of_ble_eq_true rfl)⟩) (pre3V g hK mq0_ kq0_ (by decide) (q := (RX8, TX8, 10)) rfl) rfl rfl hl.1 rfl (lv_room (Nat.le_of_ble_eq_true rfl)) dX2_readMemberHead_11 ⟨(Nat.le_of_ble_eq_true rfl), (Nat.le_of_ble_eq_true rfl)⟩) g hK (by decide) (by decide) (fx' := [(8, 6, q0_, .int x_2), (2, 0, a0_, .ref q0_), (2, 1, a0_, .ref q1_), (2, 3, a0_, .ref q2_), (2, 4, a0_, .ref q3_), (2, 5, a0_, .ref q4_), (5, 1, q1_, .ref q5_)]) rfl (fun r_5 fr_5 H locs hp hMr_5 g => ?_)
  refine lv_istore_n (lv' := [(1, .int r_5), (0, .ref a0_)]) hx hb dX2_readMemberHead_14 rfl hl (by decide) rfl (fun ls hl => ?_)
  refine lv_aload_n hx hb dX2_readMemberHead_15 rfl (lv_at hl 1 rfl) ?_
  refine g_getk (C := RX2) (T := TX2) (N := 16) hx hb hts (mc_ inX2) hown hK g rfl 0 (by decide) rfl (hts _ (List.mem_cons_of_mem _ t_416)) (fun _ h9 => h9) 1 rfl dX2_readMemberHead_16 ?_
  refine g_calll (va_runV (As := []) (rest := []) ⟨hx, hb, hml, hown, hts⟩ (r_X8_value l dC dI L kd tys fr_5 H.size g.2.2.2.1 q0_ mq0_ kq0_) (cwV 0 hts (gV_ t_1114 t_1115 t_1116 t_184 t_1117) rfl rfl rfl (by decide +kernel) ⟨(Nat.le_of_ble_eq_true rfl), (Nat.le_of_ble_eq_true rfl)⟩) (pre3V g hK mq0_ kq0_ (by decide) (q := (RX8, TX8, 10)) rfl) rfl rfl hl.1 rfl (lv_room (Nat.le_of_ble_eq_true rfl)) dX2_readMemberHead_19 ⟨(Nat.le_of_ble_eq_true rfl), (Nat.le_of_ble_eq_true rfl)⟩) g hK (by decide) (by decide) (fx' := [(8, 6, q0_, .int x_2), (2, 0, a0_, .ref q0_), (2, 1, a0_, .ref q1_), (2, 3, a0_, .ref q2_), (2, 4, a0_, .ref q3_), (2, 5, a0_, .ref q4_), (5, 1, q1_, .ref q5_)]) rfl (fun r_6 fr_6 H locs hp hMr_6 g => ?_)
  refine lv_lstore_n (lv' := [(2, .long r_6), (1, .int r_5), (0, .ref a0_)]) hx hb dX2_readMemberHead_22 rfl hl (by decide) rfl (fun ls hl => ?_)
  refine lv_aload_n hx hb dX2_readMemberHead_23 rfl (lv_at hl 2 rfl) ?_
  refine g_getk (C := RX2) (T := TX2) (N := 16) hx hb hts (mc_ inX2) hown hK g rfl 3 (by decide) rfl (hts _ (List.mem_cons_of_mem _ t_419)) (fun _ h9 => h9) 3 rfl dX2_readMemberHead_24 ?_
  refine lv_aload_n hx hb dX2_readMemberHead_27 rfl (lv_at hl 2 rfl) ?_
  refine g_getk (C := RX2) (T := TX2) (N := 16) hx hb hts (mc_ inX2) hown hK g rfl 4 (by decide) rfl (hts _ (List.mem_cons_of_mem _ t_420)) (fun _ h9 => h9) 4 rfl dX2_readMemberHead_28 ?_
  refine lv_lload_n hx hb dX2_readMemberHead_31 rfl (lv_at hl 0 rfl) ?_
  refine g_calli (va_runV (As := [.ref q3_, .long r_6]) (rest := []) ⟨hx, hb, hml, hown, hts⟩ (r_X7_memberNamed l dC dI L kd tys fr_6 H.size g.2.2.2.1 q2_ mq2_ kq2_ q3_ mq3_ kq3_ r_6) (cwV 2 hts (gV_ t_1306 t_1244 t_1245 t_191 t_1246) rfl rfl rfl (by decide +kernel) ⟨(Nat.le_of_ble_eq_true rfl), (Nat.le_of_ble_eq_true rfl)⟩) (pre3V g hK mq2_ kq2_ (by decide) (q := (RX7, TX7, 19)) rfl) rfl rfl hl.1 rfl (lv_room (Nat.le_of_ble_eq_true rfl)) dX2_readMemberHead_32 ⟨(Nat.le_of_ble_eq_true rfl), (Nat.le_of_ble_eq_true rfl)⟩) g hK (by decide) (by decide) (fx' := [(8, 6, q0_, .int x_2), (2, 0, a0_, .ref q0_), (2, 1, a0_, .ref q1_), (2, 3, a0_, .ref q2_), (2, 4, a0_, .ref q3_), (2, 5, a0_, .ref q4_), (5, 1, q1_, .ref q5_)]) rfl (fun r_7 fr_7 H locs hp hMr_7 g => ?_)
  obtain ⟨h_8, -⟩ := hp
  refine lv_istore (lv' := [(4, .int r_7), (2, .long r_6), (1, .int r_5), (0, .ref a0_)]) hx hb dX2_readMemberHead_35 hl (by decide) rfl (fun ls hl => ?_)
  refine lv_iload hx hb dX2_readMemberHead_37 (lv_at hl 0 rfl) ?_
  refine lv_iconst (v := (-1)) hx hb dX2_readMemberHead_39 (by decide) ?_
  have kb_m1 : bd (-1) (-1) ((-1) : Int32) := ⟨by decide, by decide⟩
  refine lv_icmp_ne (tgt := 47) hx hb dX2_readMemberHead_40 (by decide) (fun c_9 => ?_) (fun c_9 => ?_)
  · have fc_9 := neq_f c_9
    have b_10 : bd 0 11 r_7 := neX fc_9 h_8 kb_m1 (by decide)
    refine lv_aload_n hx hb dX2_readMemberHead_47 rfl (lv_at hl 3 rfl) ?_
    refine g_getk (C := RX2) (T := TX2) (N := 16) hx hb hts (mc_ inX2) hown hK g rfl 4 (by decide) rfl (hts _ (List.mem_cons_of_mem _ t_420)) (fun _ h9 => h9) 4 rfl dX2_readMemberHead_48 ?_
    refine g_getr (K := 156) (C := RX9) (T := TX9) (N := 13) hx hb hts (mc_ inX9) hown hK g mq3_ kq3_ (by decide) rfl 9 (by decide) rfl (hts _ (List.mem_cons_of_mem _ t_510)) (fun _ h9 => h9) rfl dX2_readMemberHead_51 (fun a_11 ma_11 ka_11 g => ?_)
    refine lv_iload hx hb dX2_readMemberHead_54 (lv_at hl 0 rfl) ?_
    refine g_iald hx hb hK g ma_11 ka_11 (by decide) rfl (in_bd b_10 (by decide)) dX2_readMemberHead_56 (fun x_12 bx_12 cx_12 => ?_)
    refine lv_istore (lv' := [(5, .int x_12), (4, .int r_7), (2, .long r_6), (1, .int r_5), (0, .ref a0_)]) hx hb dX2_readMemberHead_57 hl (by decide) rfl (fun ls hl => ?_)
    refine lv_aload_n hx hb dX2_readMemberHead_59 rfl (lv_at hl 4 rfl) ?_
    refine g_getk (C := RX2) (T := TX2) (N := 16) hx hb hts (mc_ inX2) hown hK g rfl 0 (by decide) rfl (hts _ (List.mem_cons_of_mem _ t_416)) (fun _ h9 => h9) 2 rfl dX2_readMemberHead_60 ?_
    refine g_calli (va_runV (As := []) (rest := []) ⟨hx, hb, hml, hown, hts⟩ (r_X8_kind l dC dI L kd tys fr_7 H.size g.2.2.2.1 q0_ mq0_ kq0_) (cwV 0 hts (gV_ t_1118 t_1119 t_1120 t_184 t_1121) rfl rfl rfl (by decide +kernel) ⟨(Nat.le_of_ble_eq_true rfl), (Nat.le_of_ble_eq_true rfl)⟩) (pre3V g hK mq0_ kq0_ (by decide) (q := (RX8, TX8, 10)) rfl) rfl rfl hl.1 rfl (lv_room (Nat.le_of_ble_eq_true rfl)) dX2_readMemberHead_63 ⟨(Nat.le_of_ble_eq_true rfl), (Nat.le_of_ble_eq_true rfl)⟩) g hK (by decide) (by decide) (fx' := [(9, 9, q3_, .ref a_11), (8, 6, q0_, .int x_2), (2, 0, a0_, .ref q0_), (2, 1, a0_, .ref q1_), (2, 3, a0_, .ref q2_), (2, 4, a0_, .ref q3_), (2, 5, a0_, .ref q4_), (5, 1, q1_, .ref q5_)]) rfl (fun r_13 fr_13 H locs hp hMr_13 g => ?_)
    refine lv_iconst (v := 3) hx hb dX2_readMemberHead_66 (by decide) ?_
    have kb_3 : bd 3 3 (3 : Int32) := ⟨by decide, by decide⟩
    refine lv_icmp_eq (tgt := 82) hx hb dX2_readMemberHead_67 (by decide) (fun c_14 => ?_) (fun c_14 => ?_)
    · have fc_14 := eq_f c_14
      have b_15 : bd 3 3 r_13 := eqX fc_14 (bdT r_13) kb_3 (by decide)
      refine lv_iload hx hb dX2_readMemberHead_82 (lv_at hl 0 rfl) ?_
      refine lv_iconst (v := (-1)) hx hb dX2_readMemberHead_84 (by decide) ?_
      refine lv_icmp_eq (tgt := 123) hx hb dX2_readMemberHead_85 (by decide) (fun c_16 => ?_) (fun c_16 => ?_)
      · have fc_16 := eq_f c_16
        have b_17 : bd 0 (-1) x_12 := eqX fc_16 bx_12 kb_m1 (by decide)
        exact bd_no b_17 (by decide)
      · have fc_16 := neq_f c_16
        refine lv_aload_n hx hb dX2_readMemberHead_88 rfl (lv_at hl 4 rfl) ?_
        refine g_getk (C := RX2) (T := TX2) (N := 16) hx hb hts (mc_ inX2) hown hK g rfl 3 (by decide) rfl (hts _ (List.mem_cons_of_mem _ t_419)) (fun _ h9 => h9) 4 rfl dX2_readMemberHead_89 ?_
        refine g_getr (K := 137) (C := RX7) (T := TX7) (N := 19) hx hb hts (mc_ inX7) hown hK g mq2_ kq2_ (by decide) rfl 2 (by decide) rfl (hts _ (List.mem_cons_of_mem _ t_630)) (fun _ h9 => h9) rfl dX2_readMemberHead_92 (fun a_18 ma_18 ka_18 g => ?_)
        refine lv_iload hx hb dX2_readMemberHead_95 (lv_at hl 0 rfl) ?_
        refine g_aald hx hb hK g ma_18 ka_18 (by decide) rfl (by decide) (in_bd bx_12 (by decide)) dX2_readMemberHead_97 (fun a_19 ma_19 ua_19 wa_19 => ?_)
        have ka_19 : kd a_19 = 6 := by omega
        refine g_geti (C := RX6) (T := TX6) (N := 13) hx hb hts (mc_ inX6) hown hK g ma_19 ka_19 (by decide) rfl 2 (by decide) rfl (hts _ (List.mem_cons_of_mem _ t_561)) (fun _ h9 => h9) rfl dX2_readMemberHead_98 (fun x_20 bx_20 g => ?_)
        refine lv_aload_n hx hb dX2_readMemberHead_101 rfl (lv_at hl 4 rfl) ?_
        refine g_getk (C := RX2) (T := TX2) (N := 16) hx hb hts (mc_ inX2) hown hK g rfl 1 (by decide) rfl (hts _ (List.mem_cons_of_mem _ t_417)) (fun _ h9 => h9) 5 rfl dX2_readMemberHead_102 ?_
        refine g_geti (C := RX5) (T := TX5) (N := 9) hx hb hts (mc_ inX5) hown hK g mq1_ kq1_ (by decide) rfl 2 (by decide) rfl (hts _ (List.mem_cons_of_mem _ t_333)) (fun _ h9 => h9) rfl dX2_readMemberHead_105 (fun x_21 bx_21 g => ?_)
        refine lv_icmp_ne (tgt := 123) hx hb dX2_readMemberHead_108 (by decide) (fun c_22 => ?_) (fun c_22 => ?_)
        · have fc_22 := neq_f c_22
          refine lv_iload hx hb dX2_readMemberHead_123 (lv_at hl 0 rfl) ?_
          refine lv_iconst (v := (-1)) hx hb dX2_readMemberHead_125 (by decide) ?_
          refine lv_icmp_ne (tgt := 153) hx hb dX2_readMemberHead_126 (by decide) (fun c_23 => ?_) (fun c_23 => ?_)
          · have fc_23 := neq_f c_23
            refine lv_aload_n hx hb dX2_readMemberHead_153 rfl (lv_at hl 4 rfl) ?_
            refine lv_lload_n hx hb dX2_readMemberHead_154 rfl (lv_at hl 2 rfl) ?_
            refine lv_iload_n hx hb dX2_readMemberHead_155 rfl (lv_at hl 3 rfl) ?_
            refine lv_iload hx hb dX2_readMemberHead_156 (lv_at hl 1 rfl) ?_
            refine g_callv (va_runV (As := [.long r_6, .int r_5, .int r_7]) (rest := []) ⟨hx, hb, hml, hown, hts⟩ (r_X2_beginTelling l dC dI L kd tys fr_13 H.size g.2.2.2.1 a0_ ma0_ ka0_ r_6 r_5 r_7 b_10 q0_ mq0_ kq0_ q2_ mq2_ kq2_ q3_ mq3_ kq3_ (g.fcts [5, 7, 8] rfl)) (cwV 3 hts (gV_ t_1307 t_1309 t_33 t_183 t_1310) rfl rfl rfl (by decide +kernel) ⟨(Nat.le_of_ble_eq_true rfl), (Nat.le_of_ble_eq_true rfl)⟩) (pre3V g hK ma0_ ka0_ (by decide) (q := (RX2, TX2, 16)) rfl) rfl rfl hl.1 rfl (lv_room (Nat.le_of_ble_eq_true rfl)) dX2_readMemberHead_158 ⟨(Nat.le_of_ble_eq_true rfl), (Nat.le_of_ble_eq_true rfl)⟩) g hK (by decide) (by decide) (fx' := [(5, 2, q1_, .int x_21), (7, 2, q2_, .ref a_18), (9, 9, q3_, .ref a_11), (8, 6, q0_, .int x_2), (2, 0, a0_, .ref q0_), (2, 1, a0_, .ref q1_), (2, 3, a0_, .ref q2_), (2, 4, a0_, .ref q3_), (5, 1, q1_, .ref q5_)]) rfl (fun fr_24 H locs hp hMr_24 g => ?_)
            obtain ⟨x_25, h_26, a_27, ⟨ma_27, ka_27⟩, x_28, h_29, hF_30⟩ := hp
            have g := g.more hF_30
            refine lv_aload_n hx hb dX2_readMemberHead_161 rfl (lv_at hl 4 rfl) ?_
            refine g_getk (C := RX2) (T := TX2) (N := 16) hx hb hts (mc_ inX2) hown hK g rfl 0 (by decide) rfl (hts _ (List.mem_cons_of_mem _ t_416)) (fun _ h9 => h9) 8 rfl dX2_readMemberHead_162 ?_
            refine g_callv (va_runV (As := []) (rest := []) ⟨hx, hb, hml, hown, hts⟩ (r_X8_next l dC dI L kd tys fr_24 H.size g.2.2.2.1 q0_ mq0_ kq0_) (cwV 0 hts (gV_ t_1131 t_1103 t_1104 t_184 t_1105) rfl rfl rfl (by decide +kernel) ⟨(Nat.le_of_ble_eq_true rfl), (Nat.le_of_ble_eq_true rfl)⟩) (pre3V g hK mq0_ kq0_ (by decide) (q := (RX8, TX8, 10)) rfl) rfl rfl hl.1 rfl (lv_room (Nat.le_of_ble_eq_true rfl)) dX2_readMemberHead_165 ⟨(Nat.le_of_ble_eq_true rfl), (Nat.le_of_ble_eq_true rfl)⟩) g hK (by decide) (by decide) (fx' := [(2, 6, a0_, .int 0), (9, 8, q3_, .int x_25), (2, 5, a0_, .ref a_27), (7, 3, q2_, .int x_28), (5, 2, q1_, .int x_21), (7, 2, q2_, .ref a_18), (9, 9, q3_, .ref a_11), (2, 0, a0_, .ref q0_), (2, 1, a0_, .ref q1_), (2, 3, a0_, .ref q2_), (2, 4, a0_, .ref q3_), (5, 1, q1_, .ref q5_)]) rfl (fun fr_31 H locs hp hMr_31 g => ?_)
            obtain ⟨x_32, h_33, hF_34⟩ := hp
            have g := g.more hF_34
            refine lv_aload_n hx hb dX2_readMemberHead_168 rfl (lv_at hl 4 rfl) ?_
            refine g_getk (C := RX2) (T := TX2) (N := 16) hx hb hts (mc_ inX2) hown hK g rfl 0 (by decide) rfl (hts _ (List.mem_cons_of_mem _ t_416)) (fun _ h9 => h9) 8 rfl dX2_readMemberHead_169 ?_
            refine lv_bipush (v := 40) hx hb dX2_readMemberHead_172 (by decide) ?_
            refine g_callv (va_runV (As := [.int 40]) (rest := []) ⟨hx, hb, hml, hown, hts⟩ (r_X8_take l dC dI L kd tys fr_31 H.size g.2.2.2.1 q0_ mq0_ kq0_ 40) (cwV 1 hts (gV_ t_1098 t_1099 t_1100 t_184 t_1101) rfl rfl rfl (by decide +kernel) ⟨(Nat.le_of_ble_eq_true rfl), (Nat.le_of_ble_eq_true rfl)⟩) (pre3V g hK mq0_ kq0_ (by decide) (q := (RX8, TX8, 10)) rfl) rfl rfl hl.1 rfl (lv_room (Nat.le_of_ble_eq_true rfl)) dX2_readMemberHead_174 ⟨(Nat.le_of_ble_eq_true rfl), (Nat.le_of_ble_eq_true rfl)⟩) g hK (by decide) (by decide) (fx' := [(2, 6, a0_, .int 0), (9, 8, q3_, .int x_25), (2, 5, a0_, .ref a_27), (7, 3, q2_, .int x_28), (5, 2, q1_, .int x_21), (7, 2, q2_, .ref a_18), (9, 9, q3_, .ref a_11), (2, 0, a0_, .ref q0_), (2, 1, a0_, .ref q1_), (2, 3, a0_, .ref q2_), (2, 4, a0_, .ref q3_), (5, 1, q1_, .ref q5_)]) rfl (fun fr_35 H locs hp hMr_35 g => ?_)
            rcases hp with ⟨x_36, h_37, hF_38⟩ | ⟨x_39, h_40, hF_41⟩
            · have g := g.more hF_38
              refine lv_aload_n hx hb dX2_readMemberHead_177 rfl (lv_at hl 4 rfl) ?_
              refine g_getk (C := RX2) (T := TX2) (N := 16) hx hb hts (mc_ inX2) hown hK g rfl 0 (by decide) rfl (hts _ (List.mem_cons_of_mem _ t_416)) (fun _ h9 => h9) 9 rfl dX2_readMemberHead_178 ?_
              have kb_1201 : bd 1201 1201 (1201 : Int32) := ⟨by decide, by decide⟩
              refine g_calli (va_runV (As := []) (rest := []) ⟨hx, hb, hml, hown, hts⟩ (r_X8_kind_2 l dC dI L kd tys fr_35 H.size g.2.2.2.1 q0_ mq0_ kq0_ 1201 kb_1201 (g.fcts [0] rfl)) (cwV 0 hts (gV_ t_1118 t_1119 t_1120 t_184 t_1121) rfl rfl rfl (by decide +kernel) ⟨(Nat.le_of_ble_eq_true rfl), (Nat.le_of_ble_eq_true rfl)⟩) (pre3V g hK mq0_ kq0_ (by decide) (q := (RX8, TX8, 10)) rfl) rfl rfl hl.1 rfl (lv_room (Nat.le_of_ble_eq_true rfl)) dX2_readMemberHead_181 ⟨(Nat.le_of_ble_eq_true rfl), (Nat.le_of_ble_eq_true rfl)⟩) g hK (by decide) (by decide) (fx' := [(8, 6, q0_, .int 1201), (8, 8, q0_, .int x_36), (2, 6, a0_, .int 0), (9, 8, q3_, .int x_25), (2, 5, a0_, .ref a_27), (7, 3, q2_, .int x_28), (5, 2, q1_, .int x_21), (7, 2, q2_, .ref a_18), (9, 9, q3_, .ref a_11), (2, 0, a0_, .ref q0_), (2, 1, a0_, .ref q1_), (2, 3, a0_, .ref q2_), (2, 4, a0_, .ref q3_), (5, 1, q1_, .ref q5_)]) rfl (fun r_42 fr_42 H locs hp hMr_42 g => ?_)
              obtain ⟨h_43, -⟩ := hp
              obtain rfl : r_42 = 0 := h_43
              refine lv_bipush (v := 41) hx hb dX2_readMemberHead_184 (by decide) ?_
              refine lv_icmp_eq (tgt := 193) hx hb dX2_readMemberHead_186 (by decide) (fun c_ => absurd c_ (by decide)) (fun c_ => ?_)
              refine lv_iconst (v := 1) hx hb dX2_readMemberHead_189 (by decide) ?_
              refine lv_goto (tgt := 194) hx hb dX2_readMemberHead_190 (by decide) ?_
              refine lv_istore (lv' := [(6, .int 1), (5, .int x_12), (4, .int r_7), (2, .long r_6), (1, .int r_5), (0, .ref a0_)]) hx hb dX2_readMemberHead_194 hl (by decide) rfl (fun ls hl => ?_)
              refine lv_iconst (v := 0) hx hb dX2_readMemberHead_196 (by decide) ?_
              refine lv_istore (lv' := [(7, .int 0), (6, .int 1), (5, .int x_12), (4, .int r_7), (2, .long r_6), (1, .int r_5), (0, .ref a0_)]) hx hb dX2_readMemberHead_197 hl (by decide) rfl (fun ls hl => ?_)
              have loop_44 : ∀ (n : Nat) (v199_7 : Int32) (v199_6 : Int32), bd 0 4 v199_7 → bd 0 1 v199_6 → (4 - v199_7.toInt < (n : Int)) → ∀ (f : Nat → va_E) (H : Heap) (locs : List Loc) (ls : Array Slot), G3 (dC, dI) L kd tys s f0 [(2, 5), (2, 6), (5, 4), (6, 0), (6, 1), (6, 2), (6, 3), (6, 6), (6, 7), (6, 8), (6, 9), (6, 10), (6, 11), (6, 12), (7, 3), (8, 6), (8, 8), (8, 9), (9, 8)] [132, 134, 135, 156] f H locs [(8, 6, q0_, .int 1201), (8, 8, q0_, .int x_36), (2, 6, a0_, .int 0), (9, 8, q3_, .int x_25), (2, 5, a0_, .ref a_27), (7, 3, q2_, .int x_28), (5, 2, q1_, .int x_21), (7, 2, q2_, .ref a_18), (9, 9, q3_, .ref a_11), (2, 0, a0_, .ref q0_), (2, 1, a0_, .ref q1_), (2, 3, a0_, .ref q2_), (2, 4, a0_, .ref q3_), (5, 1, q1_, .ref q5_)] → lv_has ls 8 [(7, .int v199_7), (6, .int v199_6), (5, .int x_12), (4, .int r_7), (2, .long r_6), (1, .int r_5), (0, .ref a0_)] → W p l e ({ frames := 3, cells := 0, slots := 0, locals := 72 } : Room) s m [.ref a0_].toArray below meth c H locs 0 0 Q (F0 m 199 ls []) := by
                intro n199
                induction n199 with
                | zero =>
                  intro v199_7 v199_6 bv199_7 bv199_6 hm199 f H locs ls g  hl
                  exact absurd hm199 (by have h9_v199_7 := bv199_7; unfold bd at h9_v199_7; have h9_v199_6 := bv199_6; unfold bd at h9_v199_6; omega)
                | succ n199 ih199 =>
                  intro v199_7 v199_6 bv199_7 bv199_6 hm199 f H locs ls g  hl
                  refine lv_iload hx hb dX2_readMemberHead_199 (lv_at hl 0 rfl) ?_
                  refine lv_iconst (v := 3) hx hb dX2_readMemberHead_201 (by decide) ?_
                  refine lv_icmp_gt (tgt := 251) hx hb dX2_readMemberHead_202 (by decide) (fun c_45 => ?_) (fun c_45 => ?_)
                  · have fc_45 := lt_f c_45
                    have b_46 : bd 4 4 v199_7 := ltR fc_45 kb_3 bv199_7 (by decide)
                    refine lv_aload_n hx hb dX2_readMemberHead_251 rfl (lv_at hl 6 rfl) ?_
                    refine g_getk (C := RX2) (T := TX2) (N := 16) hx hb hts (mc_ inX2) hown hK g rfl 0 (by decide) rfl (hts _ (List.mem_cons_of_mem _ t_416)) (fun _ h9 => h9) 9 rfl dX2_readMemberHead_252 ?_
                    refine g_calli (va_runV (As := []) (rest := []) ⟨hx, hb, hml, hown, hts⟩ (r_X8_place l dC dI L kd tys f H.size g.2.2.2.1 q0_ mq0_ kq0_) (cwV 0 hts (gV_ t_1110 t_1111 t_1112 t_184 t_1113) rfl rfl rfl (by decide +kernel) ⟨(Nat.le_of_ble_eq_true rfl), (Nat.le_of_ble_eq_true rfl)⟩) (pre3V g hK mq0_ kq0_ (by decide) (q := (RX8, TX8, 10)) rfl) rfl rfl hl.1 rfl (lv_room (Nat.le_of_ble_eq_true rfl)) dX2_readMemberHead_255 ⟨(Nat.le_of_ble_eq_true rfl), (Nat.le_of_ble_eq_true rfl)⟩) g hK (by decide) (by decide) (fx' := [(8, 6, q0_, .int 1201), (8, 8, q0_, .int x_36), (2, 6, a0_, .int 0), (9, 8, q3_, .int x_25), (2, 5, a0_, .ref a_27), (7, 3, q2_, .int x_28), (5, 2, q1_, .int x_21), (7, 2, q2_, .ref a_18), (9, 9, q3_, .ref a_11), (2, 0, a0_, .ref q0_), (2, 1, a0_, .ref q1_), (2, 3, a0_, .ref q2_), (2, 4, a0_, .ref q3_), (5, 1, q1_, .ref q5_)]) rfl (fun r_47 fr_47 H locs hp hMr_47 g => ?_)
                    refine lv_istore (lv' := [(7, .int r_47), (6, .int v199_6), (5, .int x_12), (4, .int r_7), (2, .long r_6), (1, .int r_5), (0, .ref a0_)]) hx hb dX2_readMemberHead_258 hl (by decide) rfl (fun ls hl => ?_)
                    refine lv_aload_n hx hb dX2_readMemberHead_260 rfl (lv_at hl 6 rfl) ?_
                    refine g_getk (C := RX2) (T := TX2) (N := 16) hx hb hts (mc_ inX2) hown hK g rfl 0 (by decide) rfl (hts _ (List.mem_cons_of_mem _ t_416)) (fun _ h9 => h9) 9 rfl dX2_readMemberHead_261 ?_
                    refine lv_bipush (v := 41) hx hb dX2_readMemberHead_264 (by decide) ?_
                    refine g_callv (va_runV (As := [.int 41]) (rest := []) ⟨hx, hb, hml, hown, hts⟩ (r_X8_take_2 l dC dI L kd tys fr_47 H.size g.2.2.2.1 q0_ mq0_ kq0_ 41 1201 kb_1201 x_36 h_37 (g.fcts [0, 1] rfl)) (cwV 1 hts (gV_ t_1098 t_1099 t_1100 t_184 t_1101) rfl rfl rfl (by decide +kernel) ⟨(Nat.le_of_ble_eq_true rfl), (Nat.le_of_ble_eq_true rfl)⟩) (pre3V g hK mq0_ kq0_ (by decide) (q := (RX8, TX8, 10)) rfl) rfl rfl hl.1 rfl (lv_room (Nat.le_of_ble_eq_true rfl)) dX2_readMemberHead_266 ⟨(Nat.le_of_ble_eq_true rfl), (Nat.le_of_ble_eq_true rfl)⟩) g hK (by decide) (by decide) (fx' := [(8, 8, q0_, .int x_36), (2, 6, a0_, .int 0), (9, 8, q3_, .int x_25), (2, 5, a0_, .ref a_27), (7, 3, q2_, .int x_28), (5, 2, q1_, .int x_21), (7, 2, q2_, .ref a_18), (9, 9, q3_, .ref a_11), (2, 0, a0_, .ref q0_), (2, 1, a0_, .ref q1_), (2, 3, a0_, .ref q2_), (2, 4, a0_, .ref q3_), (5, 1, q1_, .ref q5_)]) rfl (fun fr_48 H locs hp hMr_48 g => ?_)
                    obtain ⟨x_49, h_50, hF_51⟩ := hp
                    have g := g.more hF_51
                    refine lv_iload hx hb dX2_readMemberHead_269 (lv_at hl 2 rfl) ?_
                    refine lv_iconst (v := (-1)) hx hb dX2_readMemberHead_271 (by decide) ?_
                    refine lv_icmp_eq (tgt := 308) hx hb dX2_readMemberHead_272 (by decide) (fun c_52 => ?_) (fun c_52 => ?_)
                    · have fc_52 := eq_f c_52
                      have b_53 : bd 0 (-1) x_12 := eqX fc_52 bx_12 kb_m1 (by decide)
                      exact bd_no b_53 (by decide)
                    · have fc_52 := neq_f c_52
                      refine lv_aload_n hx hb dX2_readMemberHead_275 rfl (lv_at hl 6 rfl) ?_
                      refine g_getk (C := RX2) (T := TX2) (N := 16) hx hb hts (mc_ inX2) hown hK g rfl 3 (by decide) rfl (hts _ (List.mem_cons_of_mem _ t_419)) (fun _ h9 => h9) 11 rfl dX2_readMemberHead_276 ?_
                      refine g_getk (C := RX7) (T := TX7) (N := 19) hx hb hts (mc_ inX7) hown hK g rfl 2 (by decide) rfl (hts _ (List.mem_cons_of_mem _ t_630)) (fun _ h9 => h9) 7 rfl dX2_readMemberHead_279 ?_
                      refine lv_iload hx hb dX2_readMemberHead_282 (lv_at hl 2 rfl) ?_
                      refine g_aald hx hb hK g ma_18 ka_18 (by decide) rfl (by decide) (in_bd bx_12 (by decide)) dX2_readMemberHead_284 (fun a_54 ma_54 ua_54 wa_54 => ?_)
                      have ka_54 : kd a_54 = 6 := by omega
                      refine g_geti (C := RX6) (T := TX6) (N := 13) hx hb hts (mc_ inX6) hown hK g ma_54 ka_54 (by decide) rfl 3 (by decide) rfl (hts _ (List.mem_cons_of_mem _ t_568)) (fun _ h9 => h9) rfl dX2_readMemberHead_285 (fun x_55 bx_55 g => ?_)
                      refine lv_aload_n hx hb dX2_readMemberHead_288 rfl (lv_at hl 6 rfl) ?_
                      refine g_getk (C := RX2) (T := TX2) (N := 16) hx hb hts (mc_ inX2) hown hK g rfl 5 (by decide) rfl (hts _ (List.mem_cons_of_mem _ t_421)) (fun _ h9 => h9) 5 rfl dX2_readMemberHead_289 ?_
                      refine g_geti (C := RX6) (T := TX6) (N := 13) hx hb hts (mc_ inX6) hown hK g ma_27 ka_27 (by decide) rfl 3 (by decide) rfl (hts _ (List.mem_cons_of_mem _ t_568)) (fun _ h9 => h9) rfl dX2_readMemberHead_292 (fun x_56 bx_56 g => ?_)
                      refine lv_icmp_eq (tgt := 308) hx hb dX2_readMemberHead_295 (by decide) (fun c_57 => ?_) (fun c_57 => ?_)
                      · have fc_57 := eq_f c_57
                        subst hQ
                        exact W.vret hx hb hr (fun t ht hW => ⟨⟨_, rfl, Or.inl ⟨x_49, h_50, x_36, h_37, a_27, ⟨ma_27, ka_27⟩, (g.fcts [2, 3, 6] rfl)⟩, q3_of g hK ht hW⟩, g.2.2.1.F ht⟩) g.2.2.1.2.2 dX2_readMemberHead_308
                      · have fc_57 := neq_f c_57
                        refine lv_aload_n hx hb dX2_readMemberHead_298 rfl (lv_at hl 6 rfl) ?_
                        refine g_getk (C := RX2) (T := TX2) (N := 16) hx hb hts (mc_ inX2) hown hK g rfl 0 (by decide) rfl (hts _ (List.mem_cons_of_mem _ t_416)) (fun _ h9 => h9) 11 rfl dX2_readMemberHead_299 ?_
                        refine lv_iconst (v := 5) hx hb dX2_readMemberHead_302 (by decide) ?_
                        refine lv_iload hx hb dX2_readMemberHead_303 (lv_at hl 0 rfl) ?_
                        have kb_5 : bd 5 5 (5 : Int32) := ⟨by decide, by decide⟩
                        refine g_callv (va_runV (As := [.int 5, .int r_47]) (rest := []) ⟨hx, hb, hml, hown, hts⟩ (r_X8_fail_9 l dC dI L kd tys fr_48 H.size g.2.2.2.1 q0_ mq0_ kq0_ 5 kb_5 r_47 x_36 h_37 (g.fcts [3] rfl)) (cwV 2 hts (gV_ t_1122 t_1107 t_1108 t_184 t_1109) rfl rfl rfl (by decide +kernel) ⟨(Nat.le_of_ble_eq_true rfl), (Nat.le_of_ble_eq_true rfl)⟩) (pre3V g hK mq0_ kq0_ (by decide) (q := (RX8, TX8, 10)) rfl) rfl rfl hl.1 rfl (lv_room (Nat.le_of_ble_eq_true rfl)) dX2_readMemberHead_305 ⟨(Nat.le_of_ble_eq_true rfl), (Nat.le_of_ble_eq_true rfl)⟩) g hK (by decide) (by decide) (fx' := [(6, 3, a_27, .int x_56), (6, 3, a_54, .int x_55), (8, 8, q0_, .int x_36), (2, 6, a0_, .int 0), (9, 8, q3_, .int x_25), (2, 5, a0_, .ref a_27), (7, 3, q2_, .int x_28), (5, 2, q1_, .int x_21), (7, 2, q2_, .ref a_18), (9, 9, q3_, .ref a_11), (2, 0, a0_, .ref q0_), (2, 1, a0_, .ref q1_), (2, 3, a0_, .ref q2_), (2, 4, a0_, .ref q3_), (5, 1, q1_, .ref q5_)]) rfl (fun fr_58 H locs hp hMr_58 g => ?_)
                        have hF_59 := hp
                        have g := g.more hF_59
                        subst hQ
                        exact W.vret hx hb hr (fun t ht hW => ⟨⟨_, rfl, Or.inl ⟨1201, kb_1201, x_36, h_37, a_27, ⟨ma_27, ka_27⟩, (g.fcts [0, 3, 6] rfl)⟩, q3_of g hK ht hW⟩, g.2.2.1.F ht⟩) g.2.2.1.2.2 dX2_readMemberHead_308
                  · have fc_45 := nlt_f c_45
                    have b_60 : bd 0 3 v199_7 := leL fc_45 bv199_7 kb_3 (by decide)
                    refine lv_iload hx hb dX2_readMemberHead_205 (lv_at hl 1 rfl) ?_
                    have kb_0 : bd 0 0 (0 : Int32) := ⟨by decide, by decide⟩
                    refine lv_if_eq (tgt := 251) hx hb dX2_readMemberHead_207 (by decide) (fun c_61 => ?_) (fun c_61 => ?_)
                    · have fc_61 := eq_f c_61
                      have b_62 : bd 0 0 v199_6 := eqX fc_61 bv199_6 kb_0 (by decide)
                      refine lv_aload_n hx hb dX2_readMemberHead_251 rfl (lv_at hl 6 rfl) ?_
                      refine g_getk (C := RX2) (T := TX2) (N := 16) hx hb hts (mc_ inX2) hown hK g rfl 0 (by decide) rfl (hts _ (List.mem_cons_of_mem _ t_416)) (fun _ h9 => h9) 9 rfl dX2_readMemberHead_252 ?_
                      refine g_calli (va_runV (As := []) (rest := []) ⟨hx, hb, hml, hown, hts⟩ (r_X8_place l dC dI L kd tys f H.size g.2.2.2.1 q0_ mq0_ kq0_) (cwV 0 hts (gV_ t_1110 t_1111 t_1112 t_184 t_1113) rfl rfl rfl (by decide +kernel) ⟨(Nat.le_of_ble_eq_true rfl), (Nat.le_of_ble_eq_true rfl)⟩) (pre3V g hK mq0_ kq0_ (by decide) (q := (RX8, TX8, 10)) rfl) rfl rfl hl.1 rfl (lv_room (Nat.le_of_ble_eq_true rfl)) dX2_readMemberHead_255 ⟨(Nat.le_of_ble_eq_true rfl), (Nat.le_of_ble_eq_true rfl)⟩) g hK (by decide) (by decide) (fx' := [(8, 6, q0_, .int 1201), (8, 8, q0_, .int x_36), (2, 6, a0_, .int 0), (9, 8, q3_, .int x_25), (2, 5, a0_, .ref a_27), (7, 3, q2_, .int x_28), (5, 2, q1_, .int x_21), (7, 2, q2_, .ref a_18), (9, 9, q3_, .ref a_11), (2, 0, a0_, .ref q0_), (2, 1, a0_, .ref q1_), (2, 3, a0_, .ref q2_), (2, 4, a0_, .ref q3_), (5, 1, q1_, .ref q5_)]) rfl (fun r_63 fr_63 H locs hp hMr_63 g => ?_)
                      refine lv_istore (lv' := [(7, .int r_63), (6, .int v199_6), (5, .int x_12), (4, .int r_7), (2, .long r_6), (1, .int r_5), (0, .ref a0_)]) hx hb dX2_readMemberHead_258 hl (by decide) rfl (fun ls hl => ?_)
                      refine lv_aload_n hx hb dX2_readMemberHead_260 rfl (lv_at hl 6 rfl) ?_
                      refine g_getk (C := RX2) (T := TX2) (N := 16) hx hb hts (mc_ inX2) hown hK g rfl 0 (by decide) rfl (hts _ (List.mem_cons_of_mem _ t_416)) (fun _ h9 => h9) 9 rfl dX2_readMemberHead_261 ?_
                      refine lv_bipush (v := 41) hx hb dX2_readMemberHead_264 (by decide) ?_
                      refine g_callv (va_runV (As := [.int 41]) (rest := []) ⟨hx, hb, hml, hown, hts⟩ (r_X8_take_2 l dC dI L kd tys fr_63 H.size g.2.2.2.1 q0_ mq0_ kq0_ 41 1201 kb_1201 x_36 h_37 (g.fcts [0, 1] rfl)) (cwV 1 hts (gV_ t_1098 t_1099 t_1100 t_184 t_1101) rfl rfl rfl (by decide +kernel) ⟨(Nat.le_of_ble_eq_true rfl), (Nat.le_of_ble_eq_true rfl)⟩) (pre3V g hK mq0_ kq0_ (by decide) (q := (RX8, TX8, 10)) rfl) rfl rfl hl.1 rfl (lv_room (Nat.le_of_ble_eq_true rfl)) dX2_readMemberHead_266 ⟨(Nat.le_of_ble_eq_true rfl), (Nat.le_of_ble_eq_true rfl)⟩) g hK (by decide) (by decide) (fx' := [(8, 8, q0_, .int x_36), (2, 6, a0_, .int 0), (9, 8, q3_, .int x_25), (2, 5, a0_, .ref a_27), (7, 3, q2_, .int x_28), (5, 2, q1_, .int x_21), (7, 2, q2_, .ref a_18), (9, 9, q3_, .ref a_11), (2, 0, a0_, .ref q0_), (2, 1, a0_, .ref q1_), (2, 3, a0_, .ref q2_), (2, 4, a0_, .ref q3_), (5, 1, q1_, .ref q5_)]) rfl (fun fr_64 H locs hp hMr_64 g => ?_)
                      obtain ⟨x_65, h_66, hF_67⟩ := hp
                      have g := g.more hF_67
                      refine lv_iload hx hb dX2_readMemberHead_269 (lv_at hl 2 rfl) ?_
                      refine lv_iconst (v := (-1)) hx hb dX2_readMemberHead_271 (by decide) ?_
                      refine lv_icmp_eq (tgt := 308) hx hb dX2_readMemberHead_272 (by decide) (fun c_68 => ?_) (fun c_68 => ?_)
                      · have fc_68 := eq_f c_68
                        have b_69 : bd 0 (-1) x_12 := eqX fc_68 bx_12 kb_m1 (by decide)
                        exact bd_no b_69 (by decide)
                      · have fc_68 := neq_f c_68
                        refine lv_aload_n hx hb dX2_readMemberHead_275 rfl (lv_at hl 6 rfl) ?_
                        refine g_getk (C := RX2) (T := TX2) (N := 16) hx hb hts (mc_ inX2) hown hK g rfl 3 (by decide) rfl (hts _ (List.mem_cons_of_mem _ t_419)) (fun _ h9 => h9) 11 rfl dX2_readMemberHead_276 ?_
                        refine g_getk (C := RX7) (T := TX7) (N := 19) hx hb hts (mc_ inX7) hown hK g rfl 2 (by decide) rfl (hts _ (List.mem_cons_of_mem _ t_630)) (fun _ h9 => h9) 7 rfl dX2_readMemberHead_279 ?_
                        refine lv_iload hx hb dX2_readMemberHead_282 (lv_at hl 2 rfl) ?_
                        refine g_aald hx hb hK g ma_18 ka_18 (by decide) rfl (by decide) (in_bd bx_12 (by decide)) dX2_readMemberHead_284 (fun a_70 ma_70 ua_70 wa_70 => ?_)
                        have ka_70 : kd a_70 = 6 := by omega
                        refine g_geti (C := RX6) (T := TX6) (N := 13) hx hb hts (mc_ inX6) hown hK g ma_70 ka_70 (by decide) rfl 3 (by decide) rfl (hts _ (List.mem_cons_of_mem _ t_568)) (fun _ h9 => h9) rfl dX2_readMemberHead_285 (fun x_71 bx_71 g => ?_)
                        refine lv_aload_n hx hb dX2_readMemberHead_288 rfl (lv_at hl 6 rfl) ?_
                        refine g_getk (C := RX2) (T := TX2) (N := 16) hx hb hts (mc_ inX2) hown hK g rfl 5 (by decide) rfl (hts _ (List.mem_cons_of_mem _ t_421)) (fun _ h9 => h9) 5 rfl dX2_readMemberHead_289 ?_
                        refine g_geti (C := RX6) (T := TX6) (N := 13) hx hb hts (mc_ inX6) hown hK g ma_27 ka_27 (by decide) rfl 3 (by decide) rfl (hts _ (List.mem_cons_of_mem _ t_568)) (fun _ h9 => h9) rfl dX2_readMemberHead_292 (fun x_72 bx_72 g => ?_)
                        refine lv_icmp_eq (tgt := 308) hx hb dX2_readMemberHead_295 (by decide) (fun c_73 => ?_) (fun c_73 => ?_)
                        · have fc_73 := eq_f c_73
                          subst hQ
                          exact W.vret hx hb hr (fun t ht hW => ⟨⟨_, rfl, Or.inl ⟨x_65, h_66, x_36, h_37, a_27, ⟨ma_27, ka_27⟩, (g.fcts [2, 3, 6] rfl)⟩, q3_of g hK ht hW⟩, g.2.2.1.F ht⟩) g.2.2.1.2.2 dX2_readMemberHead_308
                        · have fc_73 := neq_f c_73
                          refine lv_aload_n hx hb dX2_readMemberHead_298 rfl (lv_at hl 6 rfl) ?_
                          refine g_getk (C := RX2) (T := TX2) (N := 16) hx hb hts (mc_ inX2) hown hK g rfl 0 (by decide) rfl (hts _ (List.mem_cons_of_mem _ t_416)) (fun _ h9 => h9) 11 rfl dX2_readMemberHead_299 ?_
                          refine lv_iconst (v := 5) hx hb dX2_readMemberHead_302 (by decide) ?_
                          refine lv_iload hx hb dX2_readMemberHead_303 (lv_at hl 0 rfl) ?_
                          have kb_5 : bd 5 5 (5 : Int32) := ⟨by decide, by decide⟩
                          refine g_callv (va_runV (As := [.int 5, .int r_63]) (rest := []) ⟨hx, hb, hml, hown, hts⟩ (r_X8_fail_9 l dC dI L kd tys fr_64 H.size g.2.2.2.1 q0_ mq0_ kq0_ 5 kb_5 r_63 x_36 h_37 (g.fcts [3] rfl)) (cwV 2 hts (gV_ t_1122 t_1107 t_1108 t_184 t_1109) rfl rfl rfl (by decide +kernel) ⟨(Nat.le_of_ble_eq_true rfl), (Nat.le_of_ble_eq_true rfl)⟩) (pre3V g hK mq0_ kq0_ (by decide) (q := (RX8, TX8, 10)) rfl) rfl rfl hl.1 rfl (lv_room (Nat.le_of_ble_eq_true rfl)) dX2_readMemberHead_305 ⟨(Nat.le_of_ble_eq_true rfl), (Nat.le_of_ble_eq_true rfl)⟩) g hK (by decide) (by decide) (fx' := [(6, 3, a_27, .int x_72), (6, 3, a_70, .int x_71), (8, 8, q0_, .int x_36), (2, 6, a0_, .int 0), (9, 8, q3_, .int x_25), (2, 5, a0_, .ref a_27), (7, 3, q2_, .int x_28), (5, 2, q1_, .int x_21), (7, 2, q2_, .ref a_18), (9, 9, q3_, .ref a_11), (2, 0, a0_, .ref q0_), (2, 1, a0_, .ref q1_), (2, 3, a0_, .ref q2_), (2, 4, a0_, .ref q3_), (5, 1, q1_, .ref q5_)]) rfl (fun fr_74 H locs hp hMr_74 g => ?_)
                          have hF_75 := hp
                          have g := g.more hF_75
                          subst hQ
                          exact W.vret hx hb hr (fun t ht hW => ⟨⟨_, rfl, Or.inl ⟨1201, kb_1201, x_36, h_37, a_27, ⟨ma_27, ka_27⟩, (g.fcts [0, 3, 6] rfl)⟩, q3_of g hK ht hW⟩, g.2.2.1.F ht⟩) g.2.2.1.2.2 dX2_readMemberHead_308
                    · have fc_61 := neq_f c_61
                      have b_76 : bd 1 1 v199_6 := neX fc_61 bv199_6 kb_0 (by decide)
                      refine lv_aload_n hx hb dX2_readMemberHead_210 rfl (lv_at hl 6 rfl) ?_
                      refine g_callv (va_runV (As := []) (rest := []) ⟨hx, hb, hml, hown, hts⟩ (r_X2_readParam_2 l dC dI L kd tys f H.size g.2.2.2.1 a0_ ma0_ ka0_ q0_ mq0_ kq0_ q1_ mq1_ kq1_ a_27 ma_27 ka_27 q5_ mq5_ kq5_ 1201 kb_1201 x_36 h_37 (g.fcts [9, 10, 4, 13, 0, 1] rfl)) (cwV 0 hts (gV_ t_1313 t_1315 t_34 t_183 t_1316) rfl rfl rfl (by decide +kernel) ⟨(Nat.le_of_ble_eq_true rfl), (Nat.le_of_ble_eq_true rfl)⟩) (pre3V g hK ma0_ ka0_ (by decide) (q := (RX2, TX2, 16)) rfl) rfl rfl hl.1 rfl (lv_room (Nat.le_of_ble_eq_true rfl)) dX2_readMemberHead_211 ⟨(Nat.le_of_ble_eq_true rfl), (Nat.le_of_ble_eq_true rfl)⟩) g hK (by decide) (by decide) (fx' := [(8, 8, q0_, .int x_36), (2, 6, a0_, .int 0), (9, 8, q3_, .int x_25), (2, 5, a0_, .ref a_27), (7, 3, q2_, .int x_28), (5, 2, q1_, .int x_21), (7, 2, q2_, .ref a_18), (9, 9, q3_, .ref a_11), (2, 0, a0_, .ref q0_), (2, 1, a0_, .ref q1_), (2, 3, a0_, .ref q2_), (2, 4, a0_, .ref q3_), (5, 1, q1_, .ref q5_)]) rfl (fun fr_77 H locs hp hMr_77 g => ?_)
                      have hF_78 := hp
                      have g := g.more hF_78
                      refine lv_aload_n hx hb dX2_readMemberHead_214 rfl (lv_at hl 6 rfl) ?_
                      refine g_getk (C := RX2) (T := TX2) (N := 16) hx hb hts (mc_ inX2) hown hK g rfl 0 (by decide) rfl (hts _ (List.mem_cons_of_mem _ t_416)) (fun _ h9 => h9) 9 rfl dX2_readMemberHead_215 ?_
                      refine g_calli (va_runV (As := []) (rest := []) ⟨hx, hb, hml, hown, hts⟩ (r_X8_kind_2 l dC dI L kd tys fr_77 H.size g.2.2.2.1 q0_ mq0_ kq0_ 1201 kb_1201 (g.fcts [0] rfl)) (cwV 0 hts (gV_ t_1118 t_1119 t_1120 t_184 t_1121) rfl rfl rfl (by decide +kernel) ⟨(Nat.le_of_ble_eq_true rfl), (Nat.le_of_ble_eq_true rfl)⟩) (pre3V g hK mq0_ kq0_ (by decide) (q := (RX8, TX8, 10)) rfl) rfl rfl hl.1 rfl (lv_room (Nat.le_of_ble_eq_true rfl)) dX2_readMemberHead_218 ⟨(Nat.le_of_ble_eq_true rfl), (Nat.le_of_ble_eq_true rfl)⟩) g hK (by decide) (by decide) (fx' := [(8, 6, q0_, .int 1201), (8, 8, q0_, .int x_36), (2, 6, a0_, .int 0), (9, 8, q3_, .int x_25), (2, 5, a0_, .ref a_27), (7, 3, q2_, .int x_28), (5, 2, q1_, .int x_21), (7, 2, q2_, .ref a_18), (9, 9, q3_, .ref a_11), (2, 0, a0_, .ref q0_), (2, 1, a0_, .ref q1_), (2, 3, a0_, .ref q2_), (2, 4, a0_, .ref q3_), (5, 1, q1_, .ref q5_)]) rfl (fun r_79 fr_79 H locs hp hMr_79 g => ?_)
                      obtain ⟨h_80, -⟩ := hp
                      obtain rfl : r_79 = 0 := h_80
                      refine lv_bipush (v := 44) hx hb dX2_readMemberHead_221 (by decide) ?_
                      refine lv_icmp_ne (tgt := 230) hx hb dX2_readMemberHead_223 (by decide) (fun c_ => ?_) (fun c_ => absurd c_ (by decide))
                      refine lv_iconst (v := 0) hx hb dX2_readMemberHead_230 (by decide) ?_
                      refine lv_istore (lv' := [(6, .int 0), (7, .int v199_7), (5, .int x_12), (4, .int r_7), (2, .long r_6), (1, .int r_5), (0, .ref a0_)]) hx hb dX2_readMemberHead_231 hl (by decide) rfl (fun ls hl => ?_)
                      refine lv_iload hx hb dX2_readMemberHead_233 (lv_at hl 0 rfl) ?_
                      refine lv_if_eq (tgt := 245) hx hb dX2_readMemberHead_235 (by decide) (fun c_ => ?_) (fun c_ => absurd (by decide) c_)
                      have kb_1 : bd 1 1 (1 : Int32) := ⟨by decide, by decide⟩
                      obtain ⟨y_81, ey_81⟩ : ∃ z : Int32, z = v199_7 + 1 := ⟨_, rfl⟩
                      refine lv_iinc (v := y_81) (lv' := [(7, .int y_81), (6, .int 0), (5, .int x_12), (4, .int r_7), (2, .long r_6), (1, .int r_5), (0, .ref a0_)]) hx hb dX2_readMemberHead_245 hl (k := 1) rfl (by rw [ey_81]; rfl) (by decide) rfl (fun ls hl => ?_)
                      have ty_81 := add_bd ey_81 b_60 kb_1 (by decide)
                      have b_82 : bd 1 4 y_81 := add_rg ty_81 b_60 kb_1 (by decide)
                      refine lv_goto (tgt := 199) hx hb dX2_readMemberHead_248 (by decide) ?_
                      have hl9 := lv_sub hl [0, 1, 2, 3, 4, 5, 6] (by rfl : lv_pick [(7, .int y_81), (6, .int 0), (5, .int x_12), (4, .int r_7), (2, .long r_6), (1, .int r_5), (0, .ref a0_)] [0, 1, 2, 3, 4, 5, 6] = [(7, .int y_81), (6, .int 0), (5, .int x_12), (4, .int r_7), (2, .long r_6), (1, .int r_5), (0, .ref a0_)])
                      have g9 := g.sub (fx' := [(8, 6, q0_, .int 1201), (8, 8, q0_, .int x_36), (2, 6, a0_, .int 0), (9, 8, q3_, .int x_25), (2, 5, a0_, .ref a_27), (7, 3, q2_, .int x_28), (5, 2, q1_, .int x_21), (7, 2, q2_, .ref a_18), (9, 9, q3_, .ref a_11), (2, 0, a0_, .ref q0_), (2, 1, a0_, .ref q1_), (2, 3, a0_, .ref q2_), (2, 4, a0_, .ref q3_), (5, 1, q1_, .ref q5_)]) [0, 1, 2, 3, 4, 5, 6, 7, 8, 9, 10, 11, 12, 13] rfl
                      exact ih199  y_81 0 (bd_sub b_82 (by decide)) (bd_sub kb_0 (by decide)) (by have h9_0 := b_82; unfold bd at h9_0; have h9_1 := bv199_6; unfold bd at h9_1; have h9_2 := bv199_7; unfold bd at h9_2; have h9_3 := kb_0; unfold bd at h9_3; have h9_4 := kb_1; unfold bd at h9_4; have h9_5 := kb_1201; unfold bd at h9_5; have h9_6 := kb_3; unfold bd at h9_6; have h9_7 := kb_m1; unfold bd at h9_7; omega) _ _ _ _ g9  hl9
              have kb_0 : bd 0 0 (0 : Int32) := ⟨by decide, by decide⟩
              have kb_1 : bd 1 1 (1 : Int32) := ⟨by decide, by decide⟩
              have hl9 := lv_sub hl [0, 1, 2, 3, 4, 5, 6] (by rfl : lv_pick [(7, .int 0), (6, .int 1), (5, .int x_12), (4, .int r_7), (2, .long r_6), (1, .int r_5), (0, .ref a0_)] [0, 1, 2, 3, 4, 5, 6] = [(7, .int 0), (6, .int 1), (5, .int x_12), (4, .int r_7), (2, .long r_6), (1, .int r_5), (0, .ref a0_)])
              have g9 := g.sub (fx' := [(8, 6, q0_, .int 1201), (8, 8, q0_, .int x_36), (2, 6, a0_, .int 0), (9, 8, q3_, .int x_25), (2, 5, a0_, .ref a_27), (7, 3, q2_, .int x_28), (5, 2, q1_, .int x_21), (7, 2, q2_, .ref a_18), (9, 9, q3_, .ref a_11), (2, 0, a0_, .ref q0_), (2, 1, a0_, .ref q1_), (2, 3, a0_, .ref q2_), (2, 4, a0_, .ref q3_), (5, 1, q1_, .ref q5_)]) [0, 1, 2, 3, 4, 5, 6, 7, 8, 9, 10, 11, 12, 13] rfl
              exact loop_44 (11) 0 1 (bd_sub kb_0 (by decide)) (bd_sub kb_1 (by decide)) (by have h9_0 := kb_0; unfold bd at h9_0; have h9_1 := kb_1; unfold bd at h9_1; have h9_2 := kb_1201; unfold bd at h9_2; have h9_3 := kb_3; unfold bd at h9_3; have h9_4 := kb_m1; unfold bd at h9_4; omega) _ _ _ _ g9  hl9
            · have g := g.more hF_41
              refine lv_aload_n hx hb dX2_readMemberHead_177 rfl (lv_at hl 4 rfl) ?_
              refine g_getk (C := RX2) (T := TX2) (N := 16) hx hb hts (mc_ inX2) hown hK g rfl 0 (by decide) rfl (hts _ (List.mem_cons_of_mem _ t_416)) (fun _ h9 => h9) 8 rfl dX2_readMemberHead_178 ?_
              refine g_calli (va_runV (As := []) (rest := []) ⟨hx, hb, hml, hown, hts⟩ (r_X8_kind l dC dI L kd tys fr_35 H.size g.2.2.2.1 q0_ mq0_ kq0_) (cwV 0 hts (gV_ t_1118 t_1119 t_1120 t_184 t_1121) rfl rfl rfl (by decide +kernel) ⟨(Nat.le_of_ble_eq_true rfl), (Nat.le_of_ble_eq_true rfl)⟩) (pre3V g hK mq0_ kq0_ (by decide) (q := (RX8, TX8, 10)) rfl) rfl rfl hl.1 rfl (lv_room (Nat.le_of_ble_eq_true rfl)) dX2_readMemberHead_181 ⟨(Nat.le_of_ble_eq_true rfl), (Nat.le_of_ble_eq_true rfl)⟩) g hK (by decide) (by decide) (fx' := [(8, 6, q0_, .int x_39), (2, 6, a0_, .int 0), (9, 8, q3_, .int x_25), (2, 5, a0_, .ref a_27), (7, 3, q2_, .int x_28), (5, 2, q1_, .int x_21), (7, 2, q2_, .ref a_18), (9, 9, q3_, .ref a_11), (2, 0, a0_, .ref q0_), (2, 1, a0_, .ref q1_), (2, 3, a0_, .ref q2_), (2, 4, a0_, .ref q3_), (5, 1, q1_, .ref q5_)]) rfl (fun r_83 fr_83 H locs hp hMr_83 g => ?_)
              refine lv_bipush (v := 41) hx hb dX2_readMemberHead_184 (by decide) ?_
              have kb_41 : bd 41 41 (41 : Int32) := ⟨by decide, by decide⟩
              refine lv_icmp_eq (tgt := 193) hx hb dX2_readMemberHead_186 (by decide) (fun c_84 => ?_) (fun c_84 => ?_)
              · have fc_84 := eq_f c_84
                have b_85 : bd 41 41 r_83 := eqX fc_84 (bdT r_83) kb_41 (by decide)
                refine lv_iconst (v := 0) hx hb dX2_readMemberHead_193 (by decide) ?_
                refine lv_istore (lv' := [(6, .int 0), (5, .int x_12), (4, .int r_7), (2, .long r_6), (1, .int r_5), (0, .ref a0_)]) hx hb dX2_readMemberHead_194 hl (by decide) rfl (fun ls hl => ?_)
                refine lv_iconst (v := 0) hx hb dX2_readMemberHead_196 (by decide) ?_
                refine lv_istore (lv' := [(7, .int 0), (6, .int 0), (5, .int x_12), (4, .int r_7), (2, .long r_6), (1, .int r_5), (0, .ref a0_)]) hx hb dX2_readMemberHead_197 hl (by decide) rfl (fun ls hl => ?_)
                refine lv_iload hx hb dX2_readMemberHead_199 (lv_at hl 0 rfl) ?_
                refine lv_iconst (v := 3) hx hb dX2_readMemberHead_201 (by decide) ?_
                refine lv_icmp_gt (tgt := 251) hx hb dX2_readMemberHead_202 (by decide) (fun c_ => absurd c_ (by decide)) (fun c_ => ?_)
                refine lv_iload hx hb dX2_readMemberHead_205 (lv_at hl 1 rfl) ?_
                refine lv_if_eq (tgt := 251) hx hb dX2_readMemberHead_207 (by decide) (fun c_ => ?_) (fun c_ => absurd (by decide) c_)
                refine lv_aload_n hx hb dX2_readMemberHead_251 rfl (lv_at hl 6 rfl) ?_
                refine g_getk (C := RX2) (T := TX2) (N := 16) hx hb hts (mc_ inX2) hown hK g rfl 0 (by decide) rfl (hts _ (List.mem_cons_of_mem _ t_416)) (fun _ h9 => h9) 8 rfl dX2_readMemberHead_252 ?_
                refine g_calli (va_runV (As := []) (rest := []) ⟨hx, hb, hml, hown, hts⟩ (r_X8_place l dC dI L kd tys fr_83 H.size g.2.2.2.1 q0_ mq0_ kq0_) (cwV 0 hts (gV_ t_1110 t_1111 t_1112 t_184 t_1113) rfl rfl rfl (by decide +kernel) ⟨(Nat.le_of_ble_eq_true rfl), (Nat.le_of_ble_eq_true rfl)⟩) (pre3V g hK mq0_ kq0_ (by decide) (q := (RX8, TX8, 10)) rfl) rfl rfl hl.1 rfl (lv_room (Nat.le_of_ble_eq_true rfl)) dX2_readMemberHead_255 ⟨(Nat.le_of_ble_eq_true rfl), (Nat.le_of_ble_eq_true rfl)⟩) g hK (by decide) (by decide) (fx' := [(8, 6, q0_, .int x_39), (2, 6, a0_, .int 0), (9, 8, q3_, .int x_25), (2, 5, a0_, .ref a_27), (7, 3, q2_, .int x_28), (5, 2, q1_, .int x_21), (7, 2, q2_, .ref a_18), (9, 9, q3_, .ref a_11), (2, 0, a0_, .ref q0_), (2, 1, a0_, .ref q1_), (2, 3, a0_, .ref q2_), (2, 4, a0_, .ref q3_), (5, 1, q1_, .ref q5_)]) rfl (fun r_86 fr_86 H locs hp hMr_86 g => ?_)
                refine lv_istore (lv' := [(7, .int r_86), (6, .int 0), (5, .int x_12), (4, .int r_7), (2, .long r_6), (1, .int r_5), (0, .ref a0_)]) hx hb dX2_readMemberHead_258 hl (by decide) rfl (fun ls hl => ?_)
                refine lv_aload_n hx hb dX2_readMemberHead_260 rfl (lv_at hl 6 rfl) ?_
                refine g_getk (C := RX2) (T := TX2) (N := 16) hx hb hts (mc_ inX2) hown hK g rfl 0 (by decide) rfl (hts _ (List.mem_cons_of_mem _ t_416)) (fun _ h9 => h9) 8 rfl dX2_readMemberHead_261 ?_
                refine lv_bipush (v := 41) hx hb dX2_readMemberHead_264 (by decide) ?_
                refine g_callv (va_runV (As := [.int 41]) (rest := []) ⟨hx, hb, hml, hown, hts⟩ (r_X8_take l dC dI L kd tys fr_86 H.size g.2.2.2.1 q0_ mq0_ kq0_ 41) (cwV 1 hts (gV_ t_1098 t_1099 t_1100 t_184 t_1101) rfl rfl rfl (by decide +kernel) ⟨(Nat.le_of_ble_eq_true rfl), (Nat.le_of_ble_eq_true rfl)⟩) (pre3V g hK mq0_ kq0_ (by decide) (q := (RX8, TX8, 10)) rfl) rfl rfl hl.1 rfl (lv_room (Nat.le_of_ble_eq_true rfl)) dX2_readMemberHead_266 ⟨(Nat.le_of_ble_eq_true rfl), (Nat.le_of_ble_eq_true rfl)⟩) g hK (by decide) (by decide) (fx' := [(2, 6, a0_, .int 0), (9, 8, q3_, .int x_25), (2, 5, a0_, .ref a_27), (7, 3, q2_, .int x_28), (5, 2, q1_, .int x_21), (7, 2, q2_, .ref a_18), (9, 9, q3_, .ref a_11), (2, 0, a0_, .ref q0_), (2, 1, a0_, .ref q1_), (2, 3, a0_, .ref q2_), (2, 4, a0_, .ref q3_), (5, 1, q1_, .ref q5_)]) rfl (fun fr_87 H locs hp hMr_87 g => ?_)
                rcases hp with ⟨x_88, h_89, hF_90⟩ | ⟨x_91, h_92, hF_93⟩
                · have g := g.more hF_90
                  refine lv_iload hx hb dX2_readMemberHead_269 (lv_at hl 2 rfl) ?_
                  refine lv_iconst (v := (-1)) hx hb dX2_readMemberHead_271 (by decide) ?_
                  refine lv_icmp_eq (tgt := 308) hx hb dX2_readMemberHead_272 (by decide) (fun c_94 => ?_) (fun c_94 => ?_)
                  · have fc_94 := eq_f c_94
                    have b_95 : bd 0 (-1) x_12 := eqX fc_94 bx_12 kb_m1 (by decide)
                    exact bd_no b_95 (by decide)
                  · have fc_94 := neq_f c_94
                    refine lv_aload_n hx hb dX2_readMemberHead_275 rfl (lv_at hl 6 rfl) ?_
                    refine g_getk (C := RX2) (T := TX2) (N := 16) hx hb hts (mc_ inX2) hown hK g rfl 3 (by decide) rfl (hts _ (List.mem_cons_of_mem _ t_419)) (fun _ h9 => h9) 11 rfl dX2_readMemberHead_276 ?_
                    refine g_getk (C := RX7) (T := TX7) (N := 19) hx hb hts (mc_ inX7) hown hK g rfl 2 (by decide) rfl (hts _ (List.mem_cons_of_mem _ t_630)) (fun _ h9 => h9) 7 rfl dX2_readMemberHead_279 ?_
                    refine lv_iload hx hb dX2_readMemberHead_282 (lv_at hl 2 rfl) ?_
                    refine g_aald hx hb hK g ma_18 ka_18 (by decide) rfl (by decide) (in_bd bx_12 (by decide)) dX2_readMemberHead_284 (fun a_96 ma_96 ua_96 wa_96 => ?_)
                    have ka_96 : kd a_96 = 6 := by omega
                    refine g_geti (C := RX6) (T := TX6) (N := 13) hx hb hts (mc_ inX6) hown hK g ma_96 ka_96 (by decide) rfl 3 (by decide) rfl (hts _ (List.mem_cons_of_mem _ t_568)) (fun _ h9 => h9) rfl dX2_readMemberHead_285 (fun x_97 bx_97 g => ?_)
                    refine lv_aload_n hx hb dX2_readMemberHead_288 rfl (lv_at hl 6 rfl) ?_
                    refine g_getk (C := RX2) (T := TX2) (N := 16) hx hb hts (mc_ inX2) hown hK g rfl 5 (by decide) rfl (hts _ (List.mem_cons_of_mem _ t_421)) (fun _ h9 => h9) 5 rfl dX2_readMemberHead_289 ?_
                    refine g_geti (C := RX6) (T := TX6) (N := 13) hx hb hts (mc_ inX6) hown hK g ma_27 ka_27 (by decide) rfl 3 (by decide) rfl (hts _ (List.mem_cons_of_mem _ t_568)) (fun _ h9 => h9) rfl dX2_readMemberHead_292 (fun x_98 bx_98 g => ?_)
                    refine lv_icmp_eq (tgt := 308) hx hb dX2_readMemberHead_295 (by decide) (fun c_99 => ?_) (fun c_99 => ?_)
                    · have fc_99 := eq_f c_99
                      have kb_1201 : bd 1201 1201 (1201 : Int32) := ⟨by decide, by decide⟩
                      subst hQ
                      exact W.vret hx hb hr (fun t ht hW => ⟨⟨_, rfl, Or.inl ⟨1201, kb_1201, x_88, h_89, a_27, ⟨ma_27, ka_27⟩, (g.fcts [2, 3, 6] rfl)⟩, q3_of g hK ht hW⟩, g.2.2.1.F ht⟩) g.2.2.1.2.2 dX2_readMemberHead_308
                    · have fc_99 := neq_f c_99
                      refine lv_aload_n hx hb dX2_readMemberHead_298 rfl (lv_at hl 6 rfl) ?_
                      refine g_getk (C := RX2) (T := TX2) (N := 16) hx hb hts (mc_ inX2) hown hK g rfl 0 (by decide) rfl (hts _ (List.mem_cons_of_mem _ t_416)) (fun _ h9 => h9) 11 rfl dX2_readMemberHead_299 ?_
                      refine lv_iconst (v := 5) hx hb dX2_readMemberHead_302 (by decide) ?_
                      refine lv_iload hx hb dX2_readMemberHead_303 (lv_at hl 0 rfl) ?_
                      have kb_5 : bd 5 5 (5 : Int32) := ⟨by decide, by decide⟩
                      refine g_callv (va_runV (As := [.int 5, .int r_86]) (rest := []) ⟨hx, hb, hml, hown, hts⟩ (r_X8_fail_9 l dC dI L kd tys fr_87 H.size g.2.2.2.1 q0_ mq0_ kq0_ 5 kb_5 r_86 x_88 h_89 (g.fcts [3] rfl)) (cwV 2 hts (gV_ t_1122 t_1107 t_1108 t_184 t_1109) rfl rfl rfl (by decide +kernel) ⟨(Nat.le_of_ble_eq_true rfl), (Nat.le_of_ble_eq_true rfl)⟩) (pre3V g hK mq0_ kq0_ (by decide) (q := (RX8, TX8, 10)) rfl) rfl rfl hl.1 rfl (lv_room (Nat.le_of_ble_eq_true rfl)) dX2_readMemberHead_305 ⟨(Nat.le_of_ble_eq_true rfl), (Nat.le_of_ble_eq_true rfl)⟩) g hK (by decide) (by decide) (fx' := [(6, 3, a_27, .int x_98), (6, 3, a_96, .int x_97), (8, 8, q0_, .int x_88), (2, 6, a0_, .int 0), (9, 8, q3_, .int x_25), (2, 5, a0_, .ref a_27), (7, 3, q2_, .int x_28), (5, 2, q1_, .int x_21), (7, 2, q2_, .ref a_18), (9, 9, q3_, .ref a_11), (2, 0, a0_, .ref q0_), (2, 1, a0_, .ref q1_), (2, 3, a0_, .ref q2_), (2, 4, a0_, .ref q3_), (5, 1, q1_, .ref q5_)]) rfl (fun fr_100 H locs hp hMr_100 g => ?_)
                      have hF_101 := hp
                      have g := g.more hF_101
                      have kb_1201 : bd 1201 1201 (1201 : Int32) := ⟨by decide, by decide⟩
                      subst hQ
                      exact W.vret hx hb hr (fun t ht hW => ⟨⟨_, rfl, Or.inl ⟨1201, kb_1201, x_88, h_89, a_27, ⟨ma_27, ka_27⟩, (g.fcts [0, 3, 6] rfl)⟩, q3_of g hK ht hW⟩, g.2.2.1.F ht⟩) g.2.2.1.2.2 dX2_readMemberHead_308
                · have g := g.more hF_93
                  refine lv_iload hx hb dX2_readMemberHead_269 (lv_at hl 2 rfl) ?_
                  refine lv_iconst (v := (-1)) hx hb dX2_readMemberHead_271 (by decide) ?_
                  refine lv_icmp_eq (tgt := 308) hx hb dX2_readMemberHead_272 (by decide) (fun c_102 => ?_) (fun c_102 => ?_)
                  · have fc_102 := eq_f c_102
                    have b_103 : bd 0 (-1) x_12 := eqX fc_102 bx_12 kb_m1 (by decide)
                    exact bd_no b_103 (by decide)
                  · have fc_102 := neq_f c_102
                    refine lv_aload_n hx hb dX2_readMemberHead_275 rfl (lv_at hl 6 rfl) ?_
                    refine g_getk (C := RX2) (T := TX2) (N := 16) hx hb hts (mc_ inX2) hown hK g rfl 3 (by decide) rfl (hts _ (List.mem_cons_of_mem _ t_419)) (fun _ h9 => h9) 10 rfl dX2_readMemberHead_276 ?_
                    refine g_getk (C := RX7) (T := TX7) (N := 19) hx hb hts (mc_ inX7) hown hK g rfl 2 (by decide) rfl (hts _ (List.mem_cons_of_mem _ t_630)) (fun _ h9 => h9) 6 rfl dX2_readMemberHead_279 ?_
                    refine lv_iload hx hb dX2_readMemberHead_282 (lv_at hl 2 rfl) ?_
                    refine g_aald hx hb hK g ma_18 ka_18 (by decide) rfl (by decide) (in_bd bx_12 (by decide)) dX2_readMemberHead_284 (fun a_104 ma_104 ua_104 wa_104 => ?_)
                    have ka_104 : kd a_104 = 6 := by omega
                    refine g_geti (C := RX6) (T := TX6) (N := 13) hx hb hts (mc_ inX6) hown hK g ma_104 ka_104 (by decide) rfl 3 (by decide) rfl (hts _ (List.mem_cons_of_mem _ t_568)) (fun _ h9 => h9) rfl dX2_readMemberHead_285 (fun x_105 bx_105 g => ?_)
                    refine lv_aload_n hx hb dX2_readMemberHead_288 rfl (lv_at hl 6 rfl) ?_
                    refine g_getk (C := RX2) (T := TX2) (N := 16) hx hb hts (mc_ inX2) hown hK g rfl 5 (by decide) rfl (hts _ (List.mem_cons_of_mem _ t_421)) (fun _ h9 => h9) 4 rfl dX2_readMemberHead_289 ?_
                    refine g_geti (C := RX6) (T := TX6) (N := 13) hx hb hts (mc_ inX6) hown hK g ma_27 ka_27 (by decide) rfl 3 (by decide) rfl (hts _ (List.mem_cons_of_mem _ t_568)) (fun _ h9 => h9) rfl dX2_readMemberHead_292 (fun x_106 bx_106 g => ?_)
                    refine lv_icmp_eq (tgt := 308) hx hb dX2_readMemberHead_295 (by decide) (fun c_107 => ?_) (fun c_107 => ?_)
                    · have fc_107 := eq_f c_107
                      subst hQ
                      exact W.vret hx hb hr (fun t ht hW => ⟨⟨_, rfl, Or.inr (⟨x_91, h_92, x_25, h_26, a_27, ⟨ma_27, ka_27⟩, x_28, h_29, (g.fcts [2, 3, 4, 5, 6] rfl)⟩), q3_of g hK ht hW⟩, g.2.2.1.F ht⟩) g.2.2.1.2.2 dX2_readMemberHead_308
                    · have fc_107 := neq_f c_107
                      refine lv_aload_n hx hb dX2_readMemberHead_298 rfl (lv_at hl 6 rfl) ?_
                      refine g_getk (C := RX2) (T := TX2) (N := 16) hx hb hts (mc_ inX2) hown hK g rfl 0 (by decide) rfl (hts _ (List.mem_cons_of_mem _ t_416)) (fun _ h9 => h9) 10 rfl dX2_readMemberHead_299 ?_
                      refine lv_iconst (v := 5) hx hb dX2_readMemberHead_302 (by decide) ?_
                      refine lv_iload hx hb dX2_readMemberHead_303 (lv_at hl 0 rfl) ?_
                      have kb_5 : bd 5 5 (5 : Int32) := ⟨by decide, by decide⟩
                      refine g_callv (va_runV (As := [.int 5, .int r_86]) (rest := []) ⟨hx, hb, hml, hown, hts⟩ (r_X8_fail_2 l dC dI L kd tys fr_87 H.size g.2.2.2.1 q0_ mq0_ kq0_ 5 kb_5 r_86) (cwV 2 hts (gV_ t_1122 t_1107 t_1108 t_184 t_1109) rfl rfl rfl (by decide +kernel) ⟨(Nat.le_of_ble_eq_true rfl), (Nat.le_of_ble_eq_true rfl)⟩) (pre3V g hK mq0_ kq0_ (by decide) (q := (RX8, TX8, 10)) rfl) rfl rfl hl.1 rfl (lv_room (Nat.le_of_ble_eq_true rfl)) dX2_readMemberHead_305 ⟨(Nat.le_of_ble_eq_true rfl), (Nat.le_of_ble_eq_true rfl)⟩) g hK (by decide) (by decide) (fx' := [(6, 3, a_27, .int x_106), (6, 3, a_104, .int x_105), (2, 6, a0_, .int 0), (9, 8, q3_, .int x_25), (2, 5, a0_, .ref a_27), (7, 3, q2_, .int x_28), (5, 2, q1_, .int x_21), (7, 2, q2_, .ref a_18), (9, 9, q3_, .ref a_11), (2, 0, a0_, .ref q0_), (2, 1, a0_, .ref q1_), (2, 3, a0_, .ref q2_), (2, 4, a0_, .ref q3_), (5, 1, q1_, .ref q5_)]) rfl (fun fr_108 H locs hp hMr_108 g => ?_)
                      obtain ⟨x_109, h_110, hF_111⟩ := hp
                      have g := g.more hF_111
                      have kb_1201 : bd 1201 1201 (1201 : Int32) := ⟨by decide, by decide⟩
                      subst hQ
                      exact W.vret hx hb hr (fun t ht hW => ⟨⟨_, rfl, Or.inl ⟨1201, kb_1201, x_109, h_110, a_27, ⟨ma_27, ka_27⟩, (g.fcts [0, 1, 6] rfl)⟩, q3_of g hK ht hW⟩, g.2.2.1.F ht⟩) g.2.2.1.2.2 dX2_readMemberHead_308
              · have fc_84 := neq_f c_84
                refine lv_iconst (v := 1) hx hb dX2_readMemberHead_189 (by decide) ?_
                refine lv_goto (tgt := 194) hx hb dX2_readMemberHead_190 (by decide) ?_
                refine lv_istore (lv' := [(6, .int 1), (5, .int x_12), (4, .int r_7), (2, .long r_6), (1, .int r_5), (0, .ref a0_)]) hx hb dX2_readMemberHead_194 hl (by decide) rfl (fun ls hl => ?_)
                refine lv_iconst (v := 0) hx hb dX2_readMemberHead_196 (by decide) ?_
                refine lv_istore (lv' := [(7, .int 0), (6, .int 1), (5, .int x_12), (4, .int r_7), (2, .long r_6), (1, .int r_5), (0, .ref a0_)]) hx hb dX2_readMemberHead_197 hl (by decide) rfl (fun ls hl => ?_)
                have loop_112 : ∀ (n : Nat) (v199_7 : Int32) (v199_6 : Int32) (w199_8_6_q0_ : Int32), bd 0 4 v199_7 → bd 0 1 v199_6 → bd 1 1201 w199_8_6_q0_ → (4 - v199_7.toInt < (n : Int)) → ∀ (f : Nat → va_E) (H : Heap) (locs : List Loc) (ls : Array Slot), G3 (dC, dI) L kd tys s f0 [(2, 5), (2, 6), (5, 4), (6, 0), (6, 1), (6, 2), (6, 3), (6, 6), (6, 7), (6, 8), (6, 9), (6, 10), (6, 11), (6, 12), (7, 3), (8, 6), (8, 8), (8, 9), (9, 8)] [132, 134, 135, 156] f H locs [(8, 6, q0_, .int w199_8_6_q0_), (2, 6, a0_, .int 0), (9, 8, q3_, .int x_25), (2, 5, a0_, .ref a_27), (7, 3, q2_, .int x_28), (5, 2, q1_, .int x_21), (7, 2, q2_, .ref a_18), (9, 9, q3_, .ref a_11), (2, 0, a0_, .ref q0_), (2, 1, a0_, .ref q1_), (2, 3, a0_, .ref q2_), (2, 4, a0_, .ref q3_), (5, 1, q1_, .ref q5_)] → lv_has ls 8 [(7, .int v199_7), (6, .int v199_6), (5, .int x_12), (4, .int r_7), (2, .long r_6), (1, .int r_5), (0, .ref a0_)] → W p l e ({ frames := 3, cells := 0, slots := 0, locals := 72 } : Room) s m [.ref a0_].toArray below meth c H locs 0 0 Q (F0 m 199 ls []) := by
                  intro n199
                  induction n199 with
                  | zero =>
                    intro v199_7 v199_6 w199_8_6_q0_ bv199_7 bv199_6 bw199_8_6_q0_ hm199 f H locs ls g  hl
                    exact absurd hm199 (by have h9_v199_7 := bv199_7; unfold bd at h9_v199_7; have h9_v199_6 := bv199_6; unfold bd at h9_v199_6; have h9_w199_8_6_q0_ := bw199_8_6_q0_; unfold bd at h9_w199_8_6_q0_; omega)
                  | succ n199 ih199 =>
                    intro v199_7 v199_6 w199_8_6_q0_ bv199_7 bv199_6 bw199_8_6_q0_ hm199 f H locs ls g  hl
                    refine lv_iload hx hb dX2_readMemberHead_199 (lv_at hl 0 rfl) ?_
                    refine lv_iconst (v := 3) hx hb dX2_readMemberHead_201 (by decide) ?_
                    refine lv_icmp_gt (tgt := 251) hx hb dX2_readMemberHead_202 (by decide) (fun c_113 => ?_) (fun c_113 => ?_)
                    · have fc_113 := lt_f c_113
                      have b_114 : bd 4 4 v199_7 := ltR fc_113 kb_3 bv199_7 (by decide)
                      refine lv_aload_n hx hb dX2_readMemberHead_251 rfl (lv_at hl 6 rfl) ?_
                      refine g_getk (C := RX2) (T := TX2) (N := 16) hx hb hts (mc_ inX2) hown hK g rfl 0 (by decide) rfl (hts _ (List.mem_cons_of_mem _ t_416)) (fun _ h9 => h9) 8 rfl dX2_readMemberHead_252 ?_
                      refine g_calli (va_runV (As := []) (rest := []) ⟨hx, hb, hml, hown, hts⟩ (r_X8_place l dC dI L kd tys f H.size g.2.2.2.1 q0_ mq0_ kq0_) (cwV 0 hts (gV_ t_1110 t_1111 t_1112 t_184 t_1113) rfl rfl rfl (by decide +kernel) ⟨(Nat.le_of_ble_eq_true rfl), (Nat.le_of_ble_eq_true rfl)⟩) (pre3V g hK mq0_ kq0_ (by decide) (q := (RX8, TX8, 10)) rfl) rfl rfl hl.1 rfl (lv_room (Nat.le_of_ble_eq_true rfl)) dX2_readMemberHead_255 ⟨(Nat.le_of_ble_eq_true rfl), (Nat.le_of_ble_eq_true rfl)⟩) g hK (by decide) (by decide) (fx' := [(8, 6, q0_, .int w199_8_6_q0_), (2, 6, a0_, .int 0), (9, 8, q3_, .int x_25), (2, 5, a0_, .ref a_27), (7, 3, q2_, .int x_28), (5, 2, q1_, .int x_21), (7, 2, q2_, .ref a_18), (9, 9, q3_, .ref a_11), (2, 0, a0_, .ref q0_), (2, 1, a0_, .ref q1_), (2, 3, a0_, .ref q2_), (2, 4, a0_, .ref q3_), (5, 1, q1_, .ref q5_)]) rfl (fun r_115 fr_115 H locs hp hMr_115 g => ?_)
                      refine lv_istore (lv' := [(7, .int r_115), (6, .int v199_6), (5, .int x_12), (4, .int r_7), (2, .long r_6), (1, .int r_5), (0, .ref a0_)]) hx hb dX2_readMemberHead_258 hl (by decide) rfl (fun ls hl => ?_)
                      refine lv_aload_n hx hb dX2_readMemberHead_260 rfl (lv_at hl 6 rfl) ?_
                      refine g_getk (C := RX2) (T := TX2) (N := 16) hx hb hts (mc_ inX2) hown hK g rfl 0 (by decide) rfl (hts _ (List.mem_cons_of_mem _ t_416)) (fun _ h9 => h9) 8 rfl dX2_readMemberHead_261 ?_
                      refine lv_bipush (v := 41) hx hb dX2_readMemberHead_264 (by decide) ?_
                      refine g_callv (va_runV (As := [.int 41]) (rest := []) ⟨hx, hb, hml, hown, hts⟩ (r_X8_take l dC dI L kd tys fr_115 H.size g.2.2.2.1 q0_ mq0_ kq0_ 41) (cwV 1 hts (gV_ t_1098 t_1099 t_1100 t_184 t_1101) rfl rfl rfl (by decide +kernel) ⟨(Nat.le_of_ble_eq_true rfl), (Nat.le_of_ble_eq_true rfl)⟩) (pre3V g hK mq0_ kq0_ (by decide) (q := (RX8, TX8, 10)) rfl) rfl rfl hl.1 rfl (lv_room (Nat.le_of_ble_eq_true rfl)) dX2_readMemberHead_266 ⟨(Nat.le_of_ble_eq_true rfl), (Nat.le_of_ble_eq_true rfl)⟩) g hK (by decide) (by decide) (fx' := [(2, 6, a0_, .int 0), (9, 8, q3_, .int x_25), (2, 5, a0_, .ref a_27), (7, 3, q2_, .int x_28), (5, 2, q1_, .int x_21), (7, 2, q2_, .ref a_18), (9, 9, q3_, .ref a_11), (2, 0, a0_, .ref q0_), (2, 1, a0_, .ref q1_), (2, 3, a0_, .ref q2_), (2, 4, a0_, .ref q3_), (5, 1, q1_, .ref q5_)]) rfl (fun fr_116 H locs hp hMr_116 g => ?_)
                      rcases hp with ⟨x_117, h_118, hF_119⟩ | ⟨x_120, h_121, hF_122⟩
                      · have g := g.more hF_119
                        refine lv_iload hx hb dX2_readMemberHead_269 (lv_at hl 2 rfl) ?_
                        refine lv_iconst (v := (-1)) hx hb dX2_readMemberHead_271 (by decide) ?_
                        refine lv_icmp_eq (tgt := 308) hx hb dX2_readMemberHead_272 (by decide) (fun c_123 => ?_) (fun c_123 => ?_)
                        · have fc_123 := eq_f c_123
                          have b_124 : bd 0 (-1) x_12 := eqX fc_123 bx_12 kb_m1 (by decide)
                          exact bd_no b_124 (by decide)
                        · have fc_123 := neq_f c_123
                          refine lv_aload_n hx hb dX2_readMemberHead_275 rfl (lv_at hl 6 rfl) ?_
                          refine g_getk (C := RX2) (T := TX2) (N := 16) hx hb hts (mc_ inX2) hown hK g rfl 3 (by decide) rfl (hts _ (List.mem_cons_of_mem _ t_419)) (fun _ h9 => h9) 11 rfl dX2_readMemberHead_276 ?_
                          refine g_getk (C := RX7) (T := TX7) (N := 19) hx hb hts (mc_ inX7) hown hK g rfl 2 (by decide) rfl (hts _ (List.mem_cons_of_mem _ t_630)) (fun _ h9 => h9) 7 rfl dX2_readMemberHead_279 ?_
                          refine lv_iload hx hb dX2_readMemberHead_282 (lv_at hl 2 rfl) ?_
                          refine g_aald hx hb hK g ma_18 ka_18 (by decide) rfl (by decide) (in_bd bx_12 (by decide)) dX2_readMemberHead_284 (fun a_125 ma_125 ua_125 wa_125 => ?_)
                          have ka_125 : kd a_125 = 6 := by omega
                          refine g_geti (C := RX6) (T := TX6) (N := 13) hx hb hts (mc_ inX6) hown hK g ma_125 ka_125 (by decide) rfl 3 (by decide) rfl (hts _ (List.mem_cons_of_mem _ t_568)) (fun _ h9 => h9) rfl dX2_readMemberHead_285 (fun x_126 bx_126 g => ?_)
                          refine lv_aload_n hx hb dX2_readMemberHead_288 rfl (lv_at hl 6 rfl) ?_
                          refine g_getk (C := RX2) (T := TX2) (N := 16) hx hb hts (mc_ inX2) hown hK g rfl 5 (by decide) rfl (hts _ (List.mem_cons_of_mem _ t_421)) (fun _ h9 => h9) 5 rfl dX2_readMemberHead_289 ?_
                          refine g_geti (C := RX6) (T := TX6) (N := 13) hx hb hts (mc_ inX6) hown hK g ma_27 ka_27 (by decide) rfl 3 (by decide) rfl (hts _ (List.mem_cons_of_mem _ t_568)) (fun _ h9 => h9) rfl dX2_readMemberHead_292 (fun x_127 bx_127 g => ?_)
                          refine lv_icmp_eq (tgt := 308) hx hb dX2_readMemberHead_295 (by decide) (fun c_128 => ?_) (fun c_128 => ?_)
                          · have fc_128 := eq_f c_128
                            have kb_1201 : bd 1201 1201 (1201 : Int32) := ⟨by decide, by decide⟩
                            subst hQ
                            exact W.vret hx hb hr (fun t ht hW => ⟨⟨_, rfl, Or.inl ⟨1201, kb_1201, x_117, h_118, a_27, ⟨ma_27, ka_27⟩, (g.fcts [2, 3, 6] rfl)⟩, q3_of g hK ht hW⟩, g.2.2.1.F ht⟩) g.2.2.1.2.2 dX2_readMemberHead_308
                          · have fc_128 := neq_f c_128
                            refine lv_aload_n hx hb dX2_readMemberHead_298 rfl (lv_at hl 6 rfl) ?_
                            refine g_getk (C := RX2) (T := TX2) (N := 16) hx hb hts (mc_ inX2) hown hK g rfl 0 (by decide) rfl (hts _ (List.mem_cons_of_mem _ t_416)) (fun _ h9 => h9) 11 rfl dX2_readMemberHead_299 ?_
                            refine lv_iconst (v := 5) hx hb dX2_readMemberHead_302 (by decide) ?_
                            refine lv_iload hx hb dX2_readMemberHead_303 (lv_at hl 0 rfl) ?_
                            have kb_5 : bd 5 5 (5 : Int32) := ⟨by decide, by decide⟩
                            refine g_callv (va_runV (As := [.int 5, .int r_115]) (rest := []) ⟨hx, hb, hml, hown, hts⟩ (r_X8_fail_9 l dC dI L kd tys fr_116 H.size g.2.2.2.1 q0_ mq0_ kq0_ 5 kb_5 r_115 x_117 h_118 (g.fcts [3] rfl)) (cwV 2 hts (gV_ t_1122 t_1107 t_1108 t_184 t_1109) rfl rfl rfl (by decide +kernel) ⟨(Nat.le_of_ble_eq_true rfl), (Nat.le_of_ble_eq_true rfl)⟩) (pre3V g hK mq0_ kq0_ (by decide) (q := (RX8, TX8, 10)) rfl) rfl rfl hl.1 rfl (lv_room (Nat.le_of_ble_eq_true rfl)) dX2_readMemberHead_305 ⟨(Nat.le_of_ble_eq_true rfl), (Nat.le_of_ble_eq_true rfl)⟩) g hK (by decide) (by decide) (fx' := [(6, 3, a_27, .int x_127), (6, 3, a_125, .int x_126), (8, 8, q0_, .int x_117), (2, 6, a0_, .int 0), (9, 8, q3_, .int x_25), (2, 5, a0_, .ref a_27), (7, 3, q2_, .int x_28), (5, 2, q1_, .int x_21), (7, 2, q2_, .ref a_18), (9, 9, q3_, .ref a_11), (2, 0, a0_, .ref q0_), (2, 1, a0_, .ref q1_), (2, 3, a0_, .ref q2_), (2, 4, a0_, .ref q3_), (5, 1, q1_, .ref q5_)]) rfl (fun fr_129 H locs hp hMr_129 g => ?_)
                            have hF_130 := hp
                            have g := g.more hF_130
                            have kb_1201 : bd 1201 1201 (1201 : Int32) := ⟨by decide, by decide⟩
                            subst hQ
                            exact W.vret hx hb hr (fun t ht hW => ⟨⟨_, rfl, Or.inl ⟨1201, kb_1201, x_117, h_118, a_27, ⟨ma_27, ka_27⟩, (g.fcts [0, 3, 6] rfl)⟩, q3_of g hK ht hW⟩, g.2.2.1.F ht⟩) g.2.2.1.2.2 dX2_readMemberHead_308
                      · have g := g.more hF_122
                        refine lv_iload hx hb dX2_readMemberHead_269 (lv_at hl 2 rfl) ?_
                        refine lv_iconst (v := (-1)) hx hb dX2_readMemberHead_271 (by decide) ?_
                        refine lv_icmp_eq (tgt := 308) hx hb dX2_readMemberHead_272 (by decide) (fun c_131 => ?_) (fun c_131 => ?_)
                        · have fc_131 := eq_f c_131
                          have b_132 : bd 0 (-1) x_12 := eqX fc_131 bx_12 kb_m1 (by decide)
                          exact bd_no b_132 (by decide)
                        · have fc_131 := neq_f c_131
                          refine lv_aload_n hx hb dX2_readMemberHead_275 rfl (lv_at hl 6 rfl) ?_
                          refine g_getk (C := RX2) (T := TX2) (N := 16) hx hb hts (mc_ inX2) hown hK g rfl 3 (by decide) rfl (hts _ (List.mem_cons_of_mem _ t_419)) (fun _ h9 => h9) 10 rfl dX2_readMemberHead_276 ?_
                          refine g_getk (C := RX7) (T := TX7) (N := 19) hx hb hts (mc_ inX7) hown hK g rfl 2 (by decide) rfl (hts _ (List.mem_cons_of_mem _ t_630)) (fun _ h9 => h9) 6 rfl dX2_readMemberHead_279 ?_
                          refine lv_iload hx hb dX2_readMemberHead_282 (lv_at hl 2 rfl) ?_
                          refine g_aald hx hb hK g ma_18 ka_18 (by decide) rfl (by decide) (in_bd bx_12 (by decide)) dX2_readMemberHead_284 (fun a_133 ma_133 ua_133 wa_133 => ?_)
                          have ka_133 : kd a_133 = 6 := by omega
                          refine g_geti (C := RX6) (T := TX6) (N := 13) hx hb hts (mc_ inX6) hown hK g ma_133 ka_133 (by decide) rfl 3 (by decide) rfl (hts _ (List.mem_cons_of_mem _ t_568)) (fun _ h9 => h9) rfl dX2_readMemberHead_285 (fun x_134 bx_134 g => ?_)
                          refine lv_aload_n hx hb dX2_readMemberHead_288 rfl (lv_at hl 6 rfl) ?_
                          refine g_getk (C := RX2) (T := TX2) (N := 16) hx hb hts (mc_ inX2) hown hK g rfl 5 (by decide) rfl (hts _ (List.mem_cons_of_mem _ t_421)) (fun _ h9 => h9) 4 rfl dX2_readMemberHead_289 ?_
                          refine g_geti (C := RX6) (T := TX6) (N := 13) hx hb hts (mc_ inX6) hown hK g ma_27 ka_27 (by decide) rfl 3 (by decide) rfl (hts _ (List.mem_cons_of_mem _ t_568)) (fun _ h9 => h9) rfl dX2_readMemberHead_292 (fun x_135 bx_135 g => ?_)
                          refine lv_icmp_eq (tgt := 308) hx hb dX2_readMemberHead_295 (by decide) (fun c_136 => ?_) (fun c_136 => ?_)
                          · have fc_136 := eq_f c_136
                            subst hQ
                            exact W.vret hx hb hr (fun t ht hW => ⟨⟨_, rfl, Or.inr (⟨x_120, h_121, x_25, h_26, a_27, ⟨ma_27, ka_27⟩, x_28, h_29, (g.fcts [2, 3, 4, 5, 6] rfl)⟩), q3_of g hK ht hW⟩, g.2.2.1.F ht⟩) g.2.2.1.2.2 dX2_readMemberHead_308
                          · have fc_136 := neq_f c_136
                            refine lv_aload_n hx hb dX2_readMemberHead_298 rfl (lv_at hl 6 rfl) ?_
                            refine g_getk (C := RX2) (T := TX2) (N := 16) hx hb hts (mc_ inX2) hown hK g rfl 0 (by decide) rfl (hts _ (List.mem_cons_of_mem _ t_416)) (fun _ h9 => h9) 10 rfl dX2_readMemberHead_299 ?_
                            refine lv_iconst (v := 5) hx hb dX2_readMemberHead_302 (by decide) ?_
                            refine lv_iload hx hb dX2_readMemberHead_303 (lv_at hl 0 rfl) ?_
                            have kb_5 : bd 5 5 (5 : Int32) := ⟨by decide, by decide⟩
                            refine g_callv (va_runV (As := [.int 5, .int r_115]) (rest := []) ⟨hx, hb, hml, hown, hts⟩ (r_X8_fail_2 l dC dI L kd tys fr_116 H.size g.2.2.2.1 q0_ mq0_ kq0_ 5 kb_5 r_115) (cwV 2 hts (gV_ t_1122 t_1107 t_1108 t_184 t_1109) rfl rfl rfl (by decide +kernel) ⟨(Nat.le_of_ble_eq_true rfl), (Nat.le_of_ble_eq_true rfl)⟩) (pre3V g hK mq0_ kq0_ (by decide) (q := (RX8, TX8, 10)) rfl) rfl rfl hl.1 rfl (lv_room (Nat.le_of_ble_eq_true rfl)) dX2_readMemberHead_305 ⟨(Nat.le_of_ble_eq_true rfl), (Nat.le_of_ble_eq_true rfl)⟩) g hK (by decide) (by decide) (fx' := [(6, 3, a_27, .int x_135), (6, 3, a_133, .int x_134), (2, 6, a0_, .int 0), (9, 8, q3_, .int x_25), (2, 5, a0_, .ref a_27), (7, 3, q2_, .int x_28), (5, 2, q1_, .int x_21), (7, 2, q2_, .ref a_18), (9, 9, q3_, .ref a_11), (2, 0, a0_, .ref q0_), (2, 1, a0_, .ref q1_), (2, 3, a0_, .ref q2_), (2, 4, a0_, .ref q3_), (5, 1, q1_, .ref q5_)]) rfl (fun fr_137 H locs hp hMr_137 g => ?_)
                            obtain ⟨x_138, h_139, hF_140⟩ := hp
                            have g := g.more hF_140
                            have kb_1201 : bd 1201 1201 (1201 : Int32) := ⟨by decide, by decide⟩
                            subst hQ
                            exact W.vret hx hb hr (fun t ht hW => ⟨⟨_, rfl, Or.inl ⟨1201, kb_1201, x_138, h_139, a_27, ⟨ma_27, ka_27⟩, (g.fcts [0, 1, 6] rfl)⟩, q3_of g hK ht hW⟩, g.2.2.1.F ht⟩) g.2.2.1.2.2 dX2_readMemberHead_308
                    · have fc_113 := nlt_f c_113
                      have b_141 : bd 0 3 v199_7 := leL fc_113 bv199_7 kb_3 (by decide)
                      refine lv_iload hx hb dX2_readMemberHead_205 (lv_at hl 1 rfl) ?_
                      have kb_0 : bd 0 0 (0 : Int32) := ⟨by decide, by decide⟩
                      refine lv_if_eq (tgt := 251) hx hb dX2_readMemberHead_207 (by decide) (fun c_142 => ?_) (fun c_142 => ?_)
                      · have fc_142 := eq_f c_142
                        have b_143 : bd 0 0 v199_6 := eqX fc_142 bv199_6 kb_0 (by decide)
                        refine lv_aload_n hx hb dX2_readMemberHead_251 rfl (lv_at hl 6 rfl) ?_
                        refine g_getk (C := RX2) (T := TX2) (N := 16) hx hb hts (mc_ inX2) hown hK g rfl 0 (by decide) rfl (hts _ (List.mem_cons_of_mem _ t_416)) (fun _ h9 => h9) 8 rfl dX2_readMemberHead_252 ?_
                        refine g_calli (va_runV (As := []) (rest := []) ⟨hx, hb, hml, hown, hts⟩ (r_X8_place l dC dI L kd tys f H.size g.2.2.2.1 q0_ mq0_ kq0_) (cwV 0 hts (gV_ t_1110 t_1111 t_1112 t_184 t_1113) rfl rfl rfl (by decide +kernel) ⟨(Nat.le_of_ble_eq_true rfl), (Nat.le_of_ble_eq_true rfl)⟩) (pre3V g hK mq0_ kq0_ (by decide) (q := (RX8, TX8, 10)) rfl) rfl rfl hl.1 rfl (lv_room (Nat.le_of_ble_eq_true rfl)) dX2_readMemberHead_255 ⟨(Nat.le_of_ble_eq_true rfl), (Nat.le_of_ble_eq_true rfl)⟩) g hK (by decide) (by decide) (fx' := [(8, 6, q0_, .int w199_8_6_q0_), (2, 6, a0_, .int 0), (9, 8, q3_, .int x_25), (2, 5, a0_, .ref a_27), (7, 3, q2_, .int x_28), (5, 2, q1_, .int x_21), (7, 2, q2_, .ref a_18), (9, 9, q3_, .ref a_11), (2, 0, a0_, .ref q0_), (2, 1, a0_, .ref q1_), (2, 3, a0_, .ref q2_), (2, 4, a0_, .ref q3_), (5, 1, q1_, .ref q5_)]) rfl (fun r_144 fr_144 H locs hp hMr_144 g => ?_)
                        refine lv_istore (lv' := [(7, .int r_144), (6, .int v199_6), (5, .int x_12), (4, .int r_7), (2, .long r_6), (1, .int r_5), (0, .ref a0_)]) hx hb dX2_readMemberHead_258 hl (by decide) rfl (fun ls hl => ?_)
                        refine lv_aload_n hx hb dX2_readMemberHead_260 rfl (lv_at hl 6 rfl) ?_
                        refine g_getk (C := RX2) (T := TX2) (N := 16) hx hb hts (mc_ inX2) hown hK g rfl 0 (by decide) rfl (hts _ (List.mem_cons_of_mem _ t_416)) (fun _ h9 => h9) 8 rfl dX2_readMemberHead_261 ?_
                        refine lv_bipush (v := 41) hx hb dX2_readMemberHead_264 (by decide) ?_
                        refine g_callv (va_runV (As := [.int 41]) (rest := []) ⟨hx, hb, hml, hown, hts⟩ (r_X8_take l dC dI L kd tys fr_144 H.size g.2.2.2.1 q0_ mq0_ kq0_ 41) (cwV 1 hts (gV_ t_1098 t_1099 t_1100 t_184 t_1101) rfl rfl rfl (by decide +kernel) ⟨(Nat.le_of_ble_eq_true rfl), (Nat.le_of_ble_eq_true rfl)⟩) (pre3V g hK mq0_ kq0_ (by decide) (q := (RX8, TX8, 10)) rfl) rfl rfl hl.1 rfl (lv_room (Nat.le_of_ble_eq_true rfl)) dX2_readMemberHead_266 ⟨(Nat.le_of_ble_eq_true rfl), (Nat.le_of_ble_eq_true rfl)⟩) g hK (by decide) (by decide) (fx' := [(2, 6, a0_, .int 0), (9, 8, q3_, .int x_25), (2, 5, a0_, .ref a_27), (7, 3, q2_, .int x_28), (5, 2, q1_, .int x_21), (7, 2, q2_, .ref a_18), (9, 9, q3_, .ref a_11), (2, 0, a0_, .ref q0_), (2, 1, a0_, .ref q1_), (2, 3, a0_, .ref q2_), (2, 4, a0_, .ref q3_), (5, 1, q1_, .ref q5_)]) rfl (fun fr_145 H locs hp hMr_145 g => ?_)
                        rcases hp with ⟨x_146, h_147, hF_148⟩ | ⟨x_149, h_150, hF_151⟩
                        · have g := g.more hF_148
                          refine lv_iload hx hb dX2_readMemberHead_269 (lv_at hl 2 rfl) ?_
                          refine lv_iconst (v := (-1)) hx hb dX2_readMemberHead_271 (by decide) ?_
                          refine lv_icmp_eq (tgt := 308) hx hb dX2_readMemberHead_272 (by decide) (fun c_152 => ?_) (fun c_152 => ?_)
                          · have fc_152 := eq_f c_152
                            have b_153 : bd 0 (-1) x_12 := eqX fc_152 bx_12 kb_m1 (by decide)
                            exact bd_no b_153 (by decide)
                          · have fc_152 := neq_f c_152
                            refine lv_aload_n hx hb dX2_readMemberHead_275 rfl (lv_at hl 6 rfl) ?_
                            refine g_getk (C := RX2) (T := TX2) (N := 16) hx hb hts (mc_ inX2) hown hK g rfl 3 (by decide) rfl (hts _ (List.mem_cons_of_mem _ t_419)) (fun _ h9 => h9) 11 rfl dX2_readMemberHead_276 ?_
                            refine g_getk (C := RX7) (T := TX7) (N := 19) hx hb hts (mc_ inX7) hown hK g rfl 2 (by decide) rfl (hts _ (List.mem_cons_of_mem _ t_630)) (fun _ h9 => h9) 7 rfl dX2_readMemberHead_279 ?_
                            refine lv_iload hx hb dX2_readMemberHead_282 (lv_at hl 2 rfl) ?_
                            refine g_aald hx hb hK g ma_18 ka_18 (by decide) rfl (by decide) (in_bd bx_12 (by decide)) dX2_readMemberHead_284 (fun a_154 ma_154 ua_154 wa_154 => ?_)
                            have ka_154 : kd a_154 = 6 := by omega
                            refine g_geti (C := RX6) (T := TX6) (N := 13) hx hb hts (mc_ inX6) hown hK g ma_154 ka_154 (by decide) rfl 3 (by decide) rfl (hts _ (List.mem_cons_of_mem _ t_568)) (fun _ h9 => h9) rfl dX2_readMemberHead_285 (fun x_155 bx_155 g => ?_)
                            refine lv_aload_n hx hb dX2_readMemberHead_288 rfl (lv_at hl 6 rfl) ?_
                            refine g_getk (C := RX2) (T := TX2) (N := 16) hx hb hts (mc_ inX2) hown hK g rfl 5 (by decide) rfl (hts _ (List.mem_cons_of_mem _ t_421)) (fun _ h9 => h9) 5 rfl dX2_readMemberHead_289 ?_
                            refine g_geti (C := RX6) (T := TX6) (N := 13) hx hb hts (mc_ inX6) hown hK g ma_27 ka_27 (by decide) rfl 3 (by decide) rfl (hts _ (List.mem_cons_of_mem _ t_568)) (fun _ h9 => h9) rfl dX2_readMemberHead_292 (fun x_156 bx_156 g => ?_)
                            refine lv_icmp_eq (tgt := 308) hx hb dX2_readMemberHead_295 (by decide) (fun c_157 => ?_) (fun c_157 => ?_)
                            · have fc_157 := eq_f c_157
                              have kb_1201 : bd 1201 1201 (1201 : Int32) := ⟨by decide, by decide⟩
                              subst hQ
                              exact W.vret hx hb hr (fun t ht hW => ⟨⟨_, rfl, Or.inl ⟨1201, kb_1201, x_146, h_147, a_27, ⟨ma_27, ka_27⟩, (g.fcts [2, 3, 6] rfl)⟩, q3_of g hK ht hW⟩, g.2.2.1.F ht⟩) g.2.2.1.2.2 dX2_readMemberHead_308
                            · have fc_157 := neq_f c_157
                              refine lv_aload_n hx hb dX2_readMemberHead_298 rfl (lv_at hl 6 rfl) ?_
                              refine g_getk (C := RX2) (T := TX2) (N := 16) hx hb hts (mc_ inX2) hown hK g rfl 0 (by decide) rfl (hts _ (List.mem_cons_of_mem _ t_416)) (fun _ h9 => h9) 11 rfl dX2_readMemberHead_299 ?_
                              refine lv_iconst (v := 5) hx hb dX2_readMemberHead_302 (by decide) ?_
                              refine lv_iload hx hb dX2_readMemberHead_303 (lv_at hl 0 rfl) ?_
                              have kb_5 : bd 5 5 (5 : Int32) := ⟨by decide, by decide⟩
                              refine g_callv (va_runV (As := [.int 5, .int r_144]) (rest := []) ⟨hx, hb, hml, hown, hts⟩ (r_X8_fail_9 l dC dI L kd tys fr_145 H.size g.2.2.2.1 q0_ mq0_ kq0_ 5 kb_5 r_144 x_146 h_147 (g.fcts [3] rfl)) (cwV 2 hts (gV_ t_1122 t_1107 t_1108 t_184 t_1109) rfl rfl rfl (by decide +kernel) ⟨(Nat.le_of_ble_eq_true rfl), (Nat.le_of_ble_eq_true rfl)⟩) (pre3V g hK mq0_ kq0_ (by decide) (q := (RX8, TX8, 10)) rfl) rfl rfl hl.1 rfl (lv_room (Nat.le_of_ble_eq_true rfl)) dX2_readMemberHead_305 ⟨(Nat.le_of_ble_eq_true rfl), (Nat.le_of_ble_eq_true rfl)⟩) g hK (by decide) (by decide) (fx' := [(6, 3, a_27, .int x_156), (6, 3, a_154, .int x_155), (8, 8, q0_, .int x_146), (2, 6, a0_, .int 0), (9, 8, q3_, .int x_25), (2, 5, a0_, .ref a_27), (7, 3, q2_, .int x_28), (5, 2, q1_, .int x_21), (7, 2, q2_, .ref a_18), (9, 9, q3_, .ref a_11), (2, 0, a0_, .ref q0_), (2, 1, a0_, .ref q1_), (2, 3, a0_, .ref q2_), (2, 4, a0_, .ref q3_), (5, 1, q1_, .ref q5_)]) rfl (fun fr_158 H locs hp hMr_158 g => ?_)
                              have hF_159 := hp
                              have g := g.more hF_159
                              have kb_1201 : bd 1201 1201 (1201 : Int32) := ⟨by decide, by decide⟩
                              subst hQ
                              exact W.vret hx hb hr (fun t ht hW => ⟨⟨_, rfl, Or.inl ⟨1201, kb_1201, x_146, h_147, a_27, ⟨ma_27, ka_27⟩, (g.fcts [0, 3, 6] rfl)⟩, q3_of g hK ht hW⟩, g.2.2.1.F ht⟩) g.2.2.1.2.2 dX2_readMemberHead_308
                        · have g := g.more hF_151
                          refine lv_iload hx hb dX2_readMemberHead_269 (lv_at hl 2 rfl) ?_
                          refine lv_iconst (v := (-1)) hx hb dX2_readMemberHead_271 (by decide) ?_
                          refine lv_icmp_eq (tgt := 308) hx hb dX2_readMemberHead_272 (by decide) (fun c_160 => ?_) (fun c_160 => ?_)
                          · have fc_160 := eq_f c_160
                            have b_161 : bd 0 (-1) x_12 := eqX fc_160 bx_12 kb_m1 (by decide)
                            exact bd_no b_161 (by decide)
                          · have fc_160 := neq_f c_160
                            refine lv_aload_n hx hb dX2_readMemberHead_275 rfl (lv_at hl 6 rfl) ?_
                            refine g_getk (C := RX2) (T := TX2) (N := 16) hx hb hts (mc_ inX2) hown hK g rfl 3 (by decide) rfl (hts _ (List.mem_cons_of_mem _ t_419)) (fun _ h9 => h9) 10 rfl dX2_readMemberHead_276 ?_
                            refine g_getk (C := RX7) (T := TX7) (N := 19) hx hb hts (mc_ inX7) hown hK g rfl 2 (by decide) rfl (hts _ (List.mem_cons_of_mem _ t_630)) (fun _ h9 => h9) 6 rfl dX2_readMemberHead_279 ?_
                            refine lv_iload hx hb dX2_readMemberHead_282 (lv_at hl 2 rfl) ?_
                            refine g_aald hx hb hK g ma_18 ka_18 (by decide) rfl (by decide) (in_bd bx_12 (by decide)) dX2_readMemberHead_284 (fun a_162 ma_162 ua_162 wa_162 => ?_)
                            have ka_162 : kd a_162 = 6 := by omega
                            refine g_geti (C := RX6) (T := TX6) (N := 13) hx hb hts (mc_ inX6) hown hK g ma_162 ka_162 (by decide) rfl 3 (by decide) rfl (hts _ (List.mem_cons_of_mem _ t_568)) (fun _ h9 => h9) rfl dX2_readMemberHead_285 (fun x_163 bx_163 g => ?_)
                            refine lv_aload_n hx hb dX2_readMemberHead_288 rfl (lv_at hl 6 rfl) ?_
                            refine g_getk (C := RX2) (T := TX2) (N := 16) hx hb hts (mc_ inX2) hown hK g rfl 5 (by decide) rfl (hts _ (List.mem_cons_of_mem _ t_421)) (fun _ h9 => h9) 4 rfl dX2_readMemberHead_289 ?_
                            refine g_geti (C := RX6) (T := TX6) (N := 13) hx hb hts (mc_ inX6) hown hK g ma_27 ka_27 (by decide) rfl 3 (by decide) rfl (hts _ (List.mem_cons_of_mem _ t_568)) (fun _ h9 => h9) rfl dX2_readMemberHead_292 (fun x_164 bx_164 g => ?_)
                            refine lv_icmp_eq (tgt := 308) hx hb dX2_readMemberHead_295 (by decide) (fun c_165 => ?_) (fun c_165 => ?_)
                            · have fc_165 := eq_f c_165
                              subst hQ
                              exact W.vret hx hb hr (fun t ht hW => ⟨⟨_, rfl, Or.inr (⟨x_149, h_150, x_25, h_26, a_27, ⟨ma_27, ka_27⟩, x_28, h_29, (g.fcts [2, 3, 4, 5, 6] rfl)⟩), q3_of g hK ht hW⟩, g.2.2.1.F ht⟩) g.2.2.1.2.2 dX2_readMemberHead_308
                            · have fc_165 := neq_f c_165
                              refine lv_aload_n hx hb dX2_readMemberHead_298 rfl (lv_at hl 6 rfl) ?_
                              refine g_getk (C := RX2) (T := TX2) (N := 16) hx hb hts (mc_ inX2) hown hK g rfl 0 (by decide) rfl (hts _ (List.mem_cons_of_mem _ t_416)) (fun _ h9 => h9) 10 rfl dX2_readMemberHead_299 ?_
                              refine lv_iconst (v := 5) hx hb dX2_readMemberHead_302 (by decide) ?_
                              refine lv_iload hx hb dX2_readMemberHead_303 (lv_at hl 0 rfl) ?_
                              have kb_5 : bd 5 5 (5 : Int32) := ⟨by decide, by decide⟩
                              refine g_callv (va_runV (As := [.int 5, .int r_144]) (rest := []) ⟨hx, hb, hml, hown, hts⟩ (r_X8_fail_2 l dC dI L kd tys fr_145 H.size g.2.2.2.1 q0_ mq0_ kq0_ 5 kb_5 r_144) (cwV 2 hts (gV_ t_1122 t_1107 t_1108 t_184 t_1109) rfl rfl rfl (by decide +kernel) ⟨(Nat.le_of_ble_eq_true rfl), (Nat.le_of_ble_eq_true rfl)⟩) (pre3V g hK mq0_ kq0_ (by decide) (q := (RX8, TX8, 10)) rfl) rfl rfl hl.1 rfl (lv_room (Nat.le_of_ble_eq_true rfl)) dX2_readMemberHead_305 ⟨(Nat.le_of_ble_eq_true rfl), (Nat.le_of_ble_eq_true rfl)⟩) g hK (by decide) (by decide) (fx' := [(6, 3, a_27, .int x_164), (6, 3, a_162, .int x_163), (2, 6, a0_, .int 0), (9, 8, q3_, .int x_25), (2, 5, a0_, .ref a_27), (7, 3, q2_, .int x_28), (5, 2, q1_, .int x_21), (7, 2, q2_, .ref a_18), (9, 9, q3_, .ref a_11), (2, 0, a0_, .ref q0_), (2, 1, a0_, .ref q1_), (2, 3, a0_, .ref q2_), (2, 4, a0_, .ref q3_), (5, 1, q1_, .ref q5_)]) rfl (fun fr_166 H locs hp hMr_166 g => ?_)
                              obtain ⟨x_167, h_168, hF_169⟩ := hp
                              have g := g.more hF_169
                              have kb_1201 : bd 1201 1201 (1201 : Int32) := ⟨by decide, by decide⟩
                              subst hQ
                              exact W.vret hx hb hr (fun t ht hW => ⟨⟨_, rfl, Or.inl ⟨1201, kb_1201, x_167, h_168, a_27, ⟨ma_27, ka_27⟩, (g.fcts [0, 1, 6] rfl)⟩, q3_of g hK ht hW⟩, g.2.2.1.F ht⟩) g.2.2.1.2.2 dX2_readMemberHead_308
                      · have fc_142 := neq_f c_142
                        have b_170 : bd 1 1 v199_6 := neX fc_142 bv199_6 kb_0 (by decide)
                        refine lv_aload_n hx hb dX2_readMemberHead_210 rfl (lv_at hl 6 rfl) ?_
                        refine g_callv (va_runV (As := []) (rest := []) ⟨hx, hb, hml, hown, hts⟩ (r_X2_readParam_3 l dC dI L kd tys f H.size g.2.2.2.1 a0_ ma0_ ka0_ q0_ mq0_ kq0_ q1_ mq1_ kq1_ a_27 ma_27 ka_27 q5_ mq5_ kq5_ (g.fcts [8, 9, 3, 12] rfl)) (cwV 0 hts (gV_ t_1313 t_1315 t_34 t_183 t_1316) rfl rfl rfl (by decide +kernel) ⟨(Nat.le_of_ble_eq_true rfl), (Nat.le_of_ble_eq_true rfl)⟩) (pre3V g hK ma0_ ka0_ (by decide) (q := (RX2, TX2, 16)) rfl) rfl rfl hl.1 rfl (lv_room (Nat.le_of_ble_eq_true rfl)) dX2_readMemberHead_211 ⟨(Nat.le_of_ble_eq_true rfl), (Nat.le_of_ble_eq_true rfl)⟩) g hK (by decide) (by decide) (fx' := [(2, 6, a0_, .int 0), (9, 8, q3_, .int x_25), (2, 5, a0_, .ref a_27), (7, 3, q2_, .int x_28), (5, 2, q1_, .int x_21), (7, 2, q2_, .ref a_18), (9, 9, q3_, .ref a_11), (2, 0, a0_, .ref q0_), (2, 1, a0_, .ref q1_), (2, 3, a0_, .ref q2_), (2, 4, a0_, .ref q3_), (5, 1, q1_, .ref q5_)]) rfl (fun fr_171 H locs hp hMr_171 g => ?_)
                        rcases hp with ⟨x_172, h_173, x_174, h_175, x_176, h_177, x_178, h_179, hF_180⟩ | ⟨x_181, h_182, x_183, h_184, hF_185⟩
                        · have g := g.more hF_180
                          refine lv_aload_n hx hb dX2_readMemberHead_214 rfl (lv_at hl 6 rfl) ?_
                          refine g_getk (C := RX2) (T := TX2) (N := 16) hx hb hts (mc_ inX2) hown hK g rfl 0 (by decide) rfl (hts _ (List.mem_cons_of_mem _ t_416)) (fun _ h9 => h9) 11 rfl dX2_readMemberHead_215 ?_
                          refine g_calli (va_runV (As := []) (rest := []) ⟨hx, hb, hml, hown, hts⟩ (r_X8_kind l dC dI L kd tys fr_171 H.size g.2.2.2.1 q0_ mq0_ kq0_) (cwV 0 hts (gV_ t_1118 t_1119 t_1120 t_184 t_1121) rfl rfl rfl (by decide +kernel) ⟨(Nat.le_of_ble_eq_true rfl), (Nat.le_of_ble_eq_true rfl)⟩) (pre3V g hK mq0_ kq0_ (by decide) (q := (RX8, TX8, 10)) rfl) rfl rfl hl.1 rfl (lv_room (Nat.le_of_ble_eq_true rfl)) dX2_readMemberHead_218 ⟨(Nat.le_of_ble_eq_true rfl), (Nat.le_of_ble_eq_true rfl)⟩) g hK (by decide) (by decide) (fx' := [(6, 3, a_27, .int x_172), (5, 4, q1_, .int x_174), (8, 8, q0_, .int x_176), (8, 6, q0_, .int x_178), (2, 6, a0_, .int 0), (9, 8, q3_, .int x_25), (2, 5, a0_, .ref a_27), (7, 3, q2_, .int x_28), (5, 2, q1_, .int x_21), (7, 2, q2_, .ref a_18), (9, 9, q3_, .ref a_11), (2, 0, a0_, .ref q0_), (2, 1, a0_, .ref q1_), (2, 3, a0_, .ref q2_), (2, 4, a0_, .ref q3_), (5, 1, q1_, .ref q5_)]) rfl (fun r_186 fr_186 H locs hp hMr_186 g => ?_)
                          refine lv_bipush (v := 44) hx hb dX2_readMemberHead_221 (by decide) ?_
                          have kb_44 : bd 44 44 (44 : Int32) := ⟨by decide, by decide⟩
                          refine lv_icmp_ne (tgt := 230) hx hb dX2_readMemberHead_223 (by decide) (fun c_187 => ?_) (fun c_187 => ?_)
                          · have fc_187 := neq_f c_187
                            refine lv_iconst (v := 0) hx hb dX2_readMemberHead_230 (by decide) ?_
                            refine lv_istore (lv' := [(6, .int 0), (7, .int v199_7), (5, .int x_12), (4, .int r_7), (2, .long r_6), (1, .int r_5), (0, .ref a0_)]) hx hb dX2_readMemberHead_231 hl (by decide) rfl (fun ls hl => ?_)
                            refine lv_iload hx hb dX2_readMemberHead_233 (lv_at hl 0 rfl) ?_
                            refine lv_if_eq (tgt := 245) hx hb dX2_readMemberHead_235 (by decide) (fun c_ => ?_) (fun c_ => absurd (by decide) c_)
                            have kb_1 : bd 1 1 (1 : Int32) := ⟨by decide, by decide⟩
                            obtain ⟨y_188, ey_188⟩ : ∃ z : Int32, z = v199_7 + 1 := ⟨_, rfl⟩
                            refine lv_iinc (v := y_188) (lv' := [(7, .int y_188), (6, .int 0), (5, .int x_12), (4, .int r_7), (2, .long r_6), (1, .int r_5), (0, .ref a0_)]) hx hb dX2_readMemberHead_245 hl (k := 1) rfl (by rw [ey_188]; rfl) (by decide) rfl (fun ls hl => ?_)
                            have ty_188 := add_bd ey_188 b_141 kb_1 (by decide)
                            have b_189 : bd 1 4 y_188 := add_rg ty_188 b_141 kb_1 (by decide)
                            refine lv_goto (tgt := 199) hx hb dX2_readMemberHead_248 (by decide) ?_
                            have hl9 := lv_sub hl [0, 1, 2, 3, 4, 5, 6] (by rfl : lv_pick [(7, .int y_188), (6, .int 0), (5, .int x_12), (4, .int r_7), (2, .long r_6), (1, .int r_5), (0, .ref a0_)] [0, 1, 2, 3, 4, 5, 6] = [(7, .int y_188), (6, .int 0), (5, .int x_12), (4, .int r_7), (2, .long r_6), (1, .int r_5), (0, .ref a0_)])
                            have g9 := g.sub (fx' := [(8, 6, q0_, .int x_178), (2, 6, a0_, .int 0), (9, 8, q3_, .int x_25), (2, 5, a0_, .ref a_27), (7, 3, q2_, .int x_28), (5, 2, q1_, .int x_21), (7, 2, q2_, .ref a_18), (9, 9, q3_, .ref a_11), (2, 0, a0_, .ref q0_), (2, 1, a0_, .ref q1_), (2, 3, a0_, .ref q2_), (2, 4, a0_, .ref q3_), (5, 1, q1_, .ref q5_)]) [3, 4, 5, 6, 7, 8, 9, 10, 11, 12, 13, 14, 15] rfl
                            exact ih199  y_188 0 x_178 (bd_sub b_189 (by decide)) (bd_sub kb_0 (by decide)) h_179 (by have h9_0 := b_189; unfold bd at h9_0; have h9_1 := bv199_6; unfold bd at h9_1; have h9_2 := bv199_7; unfold bd at h9_2; have h9_3 := bw199_8_6_q0_; unfold bd at h9_3; have h9_4 := h_179; unfold bd at h9_4; have h9_5 := kb_0; unfold bd at h9_5; have h9_6 := kb_1; unfold bd at h9_6; have h9_7 := kb_3; unfold bd at h9_7; have h9_8 := kb_41; unfold bd at h9_8; have h9_9 := kb_44; unfold bd at h9_9; have h9_10 := kb_m1; unfold bd at h9_10; omega) _ _ _ _ g9  hl9
                          · have fc_187 := eq_f c_187
                            have b_190 : bd 44 44 r_186 := eqX fc_187 (bdT r_186) kb_44 (by decide)
                            refine lv_iconst (v := 1) hx hb dX2_readMemberHead_226 (by decide) ?_
                            refine lv_goto (tgt := 231) hx hb dX2_readMemberHead_227 (by decide) ?_
                            refine lv_istore (lv' := [(6, .int 1), (7, .int v199_7), (5, .int x_12), (4, .int r_7), (2, .long r_6), (1, .int r_5), (0, .ref a0_)]) hx hb dX2_readMemberHead_231 hl (by decide) rfl (fun ls hl => ?_)
                            refine lv_iload hx hb dX2_readMemberHead_233 (lv_at hl 0 rfl) ?_
                            refine lv_if_eq (tgt := 245) hx hb dX2_readMemberHead_235 (by decide) (fun c_ => absurd c_ (by decide)) (fun c_ => ?_)
                            refine lv_aload_n hx hb dX2_readMemberHead_238 rfl (lv_at hl 6 rfl) ?_
                            refine g_getk (C := RX2) (T := TX2) (N := 16) hx hb hts (mc_ inX2) hown hK g rfl 0 (by decide) rfl (hts _ (List.mem_cons_of_mem _ t_416)) (fun _ h9 => h9) 11 rfl dX2_readMemberHead_239 ?_
                            refine g_callv (va_runV (As := []) (rest := []) ⟨hx, hb, hml, hown, hts⟩ (r_X8_next l dC dI L kd tys fr_186 H.size g.2.2.2.1 q0_ mq0_ kq0_) (cwV 0 hts (gV_ t_1131 t_1103 t_1104 t_184 t_1105) rfl rfl rfl (by decide +kernel) ⟨(Nat.le_of_ble_eq_true rfl), (Nat.le_of_ble_eq_true rfl)⟩) (pre3V g hK mq0_ kq0_ (by decide) (q := (RX8, TX8, 10)) rfl) rfl rfl hl.1 rfl (lv_room (Nat.le_of_ble_eq_true rfl)) dX2_readMemberHead_242 ⟨(Nat.le_of_ble_eq_true rfl), (Nat.le_of_ble_eq_true rfl)⟩) g hK (by decide) (by decide) (fx' := [(6, 3, a_27, .int x_172), (5, 4, q1_, .int x_174), (8, 8, q0_, .int x_176), (2, 6, a0_, .int 0), (9, 8, q3_, .int x_25), (2, 5, a0_, .ref a_27), (7, 3, q2_, .int x_28), (5, 2, q1_, .int x_21), (7, 2, q2_, .ref a_18), (9, 9, q3_, .ref a_11), (2, 0, a0_, .ref q0_), (2, 1, a0_, .ref q1_), (2, 3, a0_, .ref q2_), (2, 4, a0_, .ref q3_), (5, 1, q1_, .ref q5_)]) rfl (fun fr_191 H locs hp hMr_191 g => ?_)
                            obtain ⟨x_192, h_193, hF_194⟩ := hp
                            have g := g.more hF_194
                            have kb_1 : bd 1 1 (1 : Int32) := ⟨by decide, by decide⟩
                            obtain ⟨y_195, ey_195⟩ : ∃ z : Int32, z = v199_7 + 1 := ⟨_, rfl⟩
                            refine lv_iinc (v := y_195) (lv' := [(7, .int y_195), (6, .int 1), (5, .int x_12), (4, .int r_7), (2, .long r_6), (1, .int r_5), (0, .ref a0_)]) hx hb dX2_readMemberHead_245 hl (k := 1) rfl (by rw [ey_195]; rfl) (by decide) rfl (fun ls hl => ?_)
                            have ty_195 := add_bd ey_195 b_141 kb_1 (by decide)
                            have b_196 : bd 1 4 y_195 := add_rg ty_195 b_141 kb_1 (by decide)
                            refine lv_goto (tgt := 199) hx hb dX2_readMemberHead_248 (by decide) ?_
                            have hl9 := lv_sub hl [0, 1, 2, 3, 4, 5, 6] (by rfl : lv_pick [(7, .int y_195), (6, .int 1), (5, .int x_12), (4, .int r_7), (2, .long r_6), (1, .int r_5), (0, .ref a0_)] [0, 1, 2, 3, 4, 5, 6] = [(7, .int y_195), (6, .int 1), (5, .int x_12), (4, .int r_7), (2, .long r_6), (1, .int r_5), (0, .ref a0_)])
                            have g9 := g.sub (fx' := [(8, 6, q0_, .int x_192), (2, 6, a0_, .int 0), (9, 8, q3_, .int x_25), (2, 5, a0_, .ref a_27), (7, 3, q2_, .int x_28), (5, 2, q1_, .int x_21), (7, 2, q2_, .ref a_18), (9, 9, q3_, .ref a_11), (2, 0, a0_, .ref q0_), (2, 1, a0_, .ref q1_), (2, 3, a0_, .ref q2_), (2, 4, a0_, .ref q3_), (5, 1, q1_, .ref q5_)]) [0, 4, 5, 6, 7, 8, 9, 10, 11, 12, 13, 14, 15] rfl
                            exact ih199  y_195 1 x_192 (bd_sub b_196 (by decide)) (bd_sub kb_1 (by decide)) h_193 (by have h9_0 := b_196; unfold bd at h9_0; have h9_1 := bv199_6; unfold bd at h9_1; have h9_2 := bv199_7; unfold bd at h9_2; have h9_3 := bw199_8_6_q0_; unfold bd at h9_3; have h9_4 := h_193; unfold bd at h9_4; have h9_5 := kb_0; unfold bd at h9_5; have h9_6 := kb_1; unfold bd at h9_6; have h9_7 := kb_3; unfold bd at h9_7; have h9_8 := kb_41; unfold bd at h9_8; have h9_9 := kb_44; unfold bd at h9_9; have h9_10 := kb_m1; unfold bd at h9_10; omega) _ _ _ _ g9  hl9
                        · have g := g.more hF_185
                          refine lv_aload_n hx hb dX2_readMemberHead_214 rfl (lv_at hl 6 rfl) ?_
                          refine g_getk (C := RX2) (T := TX2) (N := 16) hx hb hts (mc_ inX2) hown hK g rfl 0 (by decide) rfl (hts _ (List.mem_cons_of_mem _ t_416)) (fun _ h9 => h9) 9 rfl dX2_readMemberHead_215 ?_
                          refine g_calli (va_runV (As := []) (rest := []) ⟨hx, hb, hml, hown, hts⟩ (r_X8_kind l dC dI L kd tys fr_171 H.size g.2.2.2.1 q0_ mq0_ kq0_) (cwV 0 hts (gV_ t_1118 t_1119 t_1120 t_184 t_1121) rfl rfl rfl (by decide +kernel) ⟨(Nat.le_of_ble_eq_true rfl), (Nat.le_of_ble_eq_true rfl)⟩) (pre3V g hK mq0_ kq0_ (by decide) (q := (RX8, TX8, 10)) rfl) rfl rfl hl.1 rfl (lv_room (Nat.le_of_ble_eq_true rfl)) dX2_readMemberHead_218 ⟨(Nat.le_of_ble_eq_true rfl), (Nat.le_of_ble_eq_true rfl)⟩) g hK (by decide) (by decide) (fx' := [(8, 6, q0_, .int x_181), (8, 8, q0_, .int x_183), (2, 6, a0_, .int 0), (9, 8, q3_, .int x_25), (2, 5, a0_, .ref a_27), (7, 3, q2_, .int x_28), (5, 2, q1_, .int x_21), (7, 2, q2_, .ref a_18), (9, 9, q3_, .ref a_11), (2, 0, a0_, .ref q0_), (2, 1, a0_, .ref q1_), (2, 3, a0_, .ref q2_), (2, 4, a0_, .ref q3_), (5, 1, q1_, .ref q5_)]) rfl (fun r_197 fr_197 H locs hp hMr_197 g => ?_)
                          refine lv_bipush (v := 44) hx hb dX2_readMemberHead_221 (by decide) ?_
                          have kb_44 : bd 44 44 (44 : Int32) := ⟨by decide, by decide⟩
                          refine lv_icmp_ne (tgt := 230) hx hb dX2_readMemberHead_223 (by decide) (fun c_198 => ?_) (fun c_198 => ?_)
                          · have fc_198 := neq_f c_198
                            refine lv_iconst (v := 0) hx hb dX2_readMemberHead_230 (by decide) ?_
                            refine lv_istore (lv' := [(6, .int 0), (7, .int v199_7), (5, .int x_12), (4, .int r_7), (2, .long r_6), (1, .int r_5), (0, .ref a0_)]) hx hb dX2_readMemberHead_231 hl (by decide) rfl (fun ls hl => ?_)
                            refine lv_iload hx hb dX2_readMemberHead_233 (lv_at hl 0 rfl) ?_
                            refine lv_if_eq (tgt := 245) hx hb dX2_readMemberHead_235 (by decide) (fun c_ => ?_) (fun c_ => absurd (by decide) c_)
                            have kb_1 : bd 1 1 (1 : Int32) := ⟨by decide, by decide⟩
                            obtain ⟨y_199, ey_199⟩ : ∃ z : Int32, z = v199_7 + 1 := ⟨_, rfl⟩
                            refine lv_iinc (v := y_199) (lv' := [(7, .int y_199), (6, .int 0), (5, .int x_12), (4, .int r_7), (2, .long r_6), (1, .int r_5), (0, .ref a0_)]) hx hb dX2_readMemberHead_245 hl (k := 1) rfl (by rw [ey_199]; rfl) (by decide) rfl (fun ls hl => ?_)
                            have ty_199 := add_bd ey_199 b_141 kb_1 (by decide)
                            have b_200 : bd 1 4 y_199 := add_rg ty_199 b_141 kb_1 (by decide)
                            refine lv_goto (tgt := 199) hx hb dX2_readMemberHead_248 (by decide) ?_
                            have hl9 := lv_sub hl [0, 1, 2, 3, 4, 5, 6] (by rfl : lv_pick [(7, .int y_199), (6, .int 0), (5, .int x_12), (4, .int r_7), (2, .long r_6), (1, .int r_5), (0, .ref a0_)] [0, 1, 2, 3, 4, 5, 6] = [(7, .int y_199), (6, .int 0), (5, .int x_12), (4, .int r_7), (2, .long r_6), (1, .int r_5), (0, .ref a0_)])
                            have g9 := g.sub (fx' := [(8, 6, q0_, .int x_181), (2, 6, a0_, .int 0), (9, 8, q3_, .int x_25), (2, 5, a0_, .ref a_27), (7, 3, q2_, .int x_28), (5, 2, q1_, .int x_21), (7, 2, q2_, .ref a_18), (9, 9, q3_, .ref a_11), (2, 0, a0_, .ref q0_), (2, 1, a0_, .ref q1_), (2, 3, a0_, .ref q2_), (2, 4, a0_, .ref q3_), (5, 1, q1_, .ref q5_)]) [0, 2, 3, 4, 5, 6, 7, 8, 9, 10, 11, 12, 13] rfl
                            exact ih199  y_199 0 x_181 (bd_sub b_200 (by decide)) (bd_sub kb_0 (by decide)) h_182 (by have h9_0 := b_200; unfold bd at h9_0; have h9_1 := bv199_6; unfold bd at h9_1; have h9_2 := bv199_7; unfold bd at h9_2; have h9_3 := bw199_8_6_q0_; unfold bd at h9_3; have h9_4 := h_182; unfold bd at h9_4; have h9_5 := kb_0; unfold bd at h9_5; have h9_6 := kb_1; unfold bd at h9_6; have h9_7 := kb_3; unfold bd at h9_7; have h9_8 := kb_41; unfold bd at h9_8; have h9_9 := kb_44; unfold bd at h9_9; have h9_10 := kb_m1; unfold bd at h9_10; omega) _ _ _ _ g9  hl9
                          · have fc_198 := eq_f c_198
                            have b_201 : bd 44 44 r_197 := eqX fc_198 (bdT r_197) kb_44 (by decide)
                            refine lv_iconst (v := 1) hx hb dX2_readMemberHead_226 (by decide) ?_
                            refine lv_goto (tgt := 231) hx hb dX2_readMemberHead_227 (by decide) ?_
                            refine lv_istore (lv' := [(6, .int 1), (7, .int v199_7), (5, .int x_12), (4, .int r_7), (2, .long r_6), (1, .int r_5), (0, .ref a0_)]) hx hb dX2_readMemberHead_231 hl (by decide) rfl (fun ls hl => ?_)
                            refine lv_iload hx hb dX2_readMemberHead_233 (lv_at hl 0 rfl) ?_
                            refine lv_if_eq (tgt := 245) hx hb dX2_readMemberHead_235 (by decide) (fun c_ => absurd c_ (by decide)) (fun c_ => ?_)
                            refine lv_aload_n hx hb dX2_readMemberHead_238 rfl (lv_at hl 6 rfl) ?_
                            refine g_getk (C := RX2) (T := TX2) (N := 16) hx hb hts (mc_ inX2) hown hK g rfl 0 (by decide) rfl (hts _ (List.mem_cons_of_mem _ t_416)) (fun _ h9 => h9) 9 rfl dX2_readMemberHead_239 ?_
                            refine g_callv (va_runV (As := []) (rest := []) ⟨hx, hb, hml, hown, hts⟩ (r_X8_next l dC dI L kd tys fr_197 H.size g.2.2.2.1 q0_ mq0_ kq0_) (cwV 0 hts (gV_ t_1131 t_1103 t_1104 t_184 t_1105) rfl rfl rfl (by decide +kernel) ⟨(Nat.le_of_ble_eq_true rfl), (Nat.le_of_ble_eq_true rfl)⟩) (pre3V g hK mq0_ kq0_ (by decide) (q := (RX8, TX8, 10)) rfl) rfl rfl hl.1 rfl (lv_room (Nat.le_of_ble_eq_true rfl)) dX2_readMemberHead_242 ⟨(Nat.le_of_ble_eq_true rfl), (Nat.le_of_ble_eq_true rfl)⟩) g hK (by decide) (by decide) (fx' := [(8, 8, q0_, .int x_183), (2, 6, a0_, .int 0), (9, 8, q3_, .int x_25), (2, 5, a0_, .ref a_27), (7, 3, q2_, .int x_28), (5, 2, q1_, .int x_21), (7, 2, q2_, .ref a_18), (9, 9, q3_, .ref a_11), (2, 0, a0_, .ref q0_), (2, 1, a0_, .ref q1_), (2, 3, a0_, .ref q2_), (2, 4, a0_, .ref q3_), (5, 1, q1_, .ref q5_)]) rfl (fun fr_202 H locs hp hMr_202 g => ?_)
                            obtain ⟨x_203, h_204, hF_205⟩ := hp
                            have g := g.more hF_205
                            have kb_1 : bd 1 1 (1 : Int32) := ⟨by decide, by decide⟩
                            obtain ⟨y_206, ey_206⟩ : ∃ z : Int32, z = v199_7 + 1 := ⟨_, rfl⟩
                            refine lv_iinc (v := y_206) (lv' := [(7, .int y_206), (6, .int 1), (5, .int x_12), (4, .int r_7), (2, .long r_6), (1, .int r_5), (0, .ref a0_)]) hx hb dX2_readMemberHead_245 hl (k := 1) rfl (by rw [ey_206]; rfl) (by decide) rfl (fun ls hl => ?_)
                            have ty_206 := add_bd ey_206 b_141 kb_1 (by decide)
                            have b_207 : bd 1 4 y_206 := add_rg ty_206 b_141 kb_1 (by decide)
                            refine lv_goto (tgt := 199) hx hb dX2_readMemberHead_248 (by decide) ?_
                            have hl9 := lv_sub hl [0, 1, 2, 3, 4, 5, 6] (by rfl : lv_pick [(7, .int y_206), (6, .int 1), (5, .int x_12), (4, .int r_7), (2, .long r_6), (1, .int r_5), (0, .ref a0_)] [0, 1, 2, 3, 4, 5, 6] = [(7, .int y_206), (6, .int 1), (5, .int x_12), (4, .int r_7), (2, .long r_6), (1, .int r_5), (0, .ref a0_)])
                            have g9 := g.sub (fx' := [(8, 6, q0_, .int x_203), (2, 6, a0_, .int 0), (9, 8, q3_, .int x_25), (2, 5, a0_, .ref a_27), (7, 3, q2_, .int x_28), (5, 2, q1_, .int x_21), (7, 2, q2_, .ref a_18), (9, 9, q3_, .ref a_11), (2, 0, a0_, .ref q0_), (2, 1, a0_, .ref q1_), (2, 3, a0_, .ref q2_), (2, 4, a0_, .ref q3_), (5, 1, q1_, .ref q5_)]) [0, 2, 3, 4, 5, 6, 7, 8, 9, 10, 11, 12, 13] rfl
                            exact ih199  y_206 1 x_203 (bd_sub b_207 (by decide)) (bd_sub kb_1 (by decide)) h_204 (by have h9_0 := b_207; unfold bd at h9_0; have h9_1 := bv199_6; unfold bd at h9_1; have h9_2 := bv199_7; unfold bd at h9_2; have h9_3 := bw199_8_6_q0_; unfold bd at h9_3; have h9_4 := h_204; unfold bd at h9_4; have h9_5 := kb_0; unfold bd at h9_5; have h9_6 := kb_1; unfold bd at h9_6; have h9_7 := kb_3; unfold bd at h9_7; have h9_8 := kb_41; unfold bd at h9_8; have h9_9 := kb_44; unfold bd at h9_9; have h9_10 := kb_m1; unfold bd at h9_10; omega) _ _ _ _ g9  hl9
                have kb_0 : bd 0 0 (0 : Int32) := ⟨by decide, by decide⟩
                have kb_1 : bd 1 1 (1 : Int32) := ⟨by decide, by decide⟩
                have hl9 := lv_sub hl [0, 1, 2, 3, 4, 5, 6] (by rfl : lv_pick [(7, .int 0), (6, .int 1), (5, .int x_12), (4, .int r_7), (2, .long r_6), (1, .int r_5), (0, .ref a0_)] [0, 1, 2, 3, 4, 5, 6] = [(7, .int 0), (6, .int 1), (5, .int x_12), (4, .int r_7), (2, .long r_6), (1, .int r_5), (0, .ref a0_)])
                have g9 := g.sub (fx' := [(8, 6, q0_, .int x_39), (2, 6, a0_, .int 0), (9, 8, q3_, .int x_25), (2, 5, a0_, .ref a_27), (7, 3, q2_, .int x_28), (5, 2, q1_, .int x_21), (7, 2, q2_, .ref a_18), (9, 9, q3_, .ref a_11), (2, 0, a0_, .ref q0_), (2, 1, a0_, .ref q1_), (2, 3, a0_, .ref q2_), (2, 4, a0_, .ref q3_), (5, 1, q1_, .ref q5_)]) [0, 1, 2, 3, 4, 5, 6, 7, 8, 9, 10, 11, 12] rfl
                exact loop_112 (11) 0 1 x_39 (bd_sub kb_0 (by decide)) (bd_sub kb_1 (by decide)) h_40 (by have h9_0 := h_40; unfold bd at h9_0; have h9_1 := kb_0; unfold bd at h9_1; have h9_2 := kb_1; unfold bd at h9_2; have h9_3 := kb_3; unfold bd at h9_3; have h9_4 := kb_41; unfold bd at h9_4; have h9_5 := kb_m1; unfold bd at h9_5; omega) _ _ _ _ g9  hl9
          · have fc_23 := eq_f c_23
            have b_208 : bd 0 (-1) x_12 := eqX fc_23 bx_12 kb_m1 (by decide)
            exact bd_no b_208 (by decide)
        · have fc_22 := eq_f c_22
          refine lv_aload_n hx hb dX2_readMemberHead_111 rfl (lv_at hl 4 rfl) ?_
          refine g_getk (C := RX2) (T := TX2) (N := 16) hx hb hts (mc_ inX2) hown hK g rfl 0 (by decide) rfl (hts _ (List.mem_cons_of_mem _ t_416)) (fun _ h9 => h9) 5 rfl dX2_readMemberHead_112 ?_
          refine lv_iconst (v := 2) hx hb dX2_readMemberHead_115 (by decide) ?_
          refine lv_iload_n hx hb dX2_readMemberHead_116 rfl (lv_at hl 3 rfl) ?_
          have kb_2 : bd 2 2 (2 : Int32) := ⟨by decide, by decide⟩
          refine g_callv (va_runV (As := [.int 2, .int r_5]) (rest := []) ⟨hx, hb, hml, hown, hts⟩ (r_X8_fail_3 l dC dI L kd tys fr_13 H.size g.2.2.2.1 q0_ mq0_ kq0_ 2 kb_2 r_5) (cwV 2 hts (gV_ t_1122 t_1107 t_1108 t_184 t_1109) rfl rfl rfl (by decide +kernel) ⟨(Nat.le_of_ble_eq_true rfl), (Nat.le_of_ble_eq_true rfl)⟩) (pre3V g hK mq0_ kq0_ (by decide) (q := (RX8, TX8, 10)) rfl) rfl rfl hl.1 rfl (lv_room (Nat.le_of_ble_eq_true rfl)) dX2_readMemberHead_117 ⟨(Nat.le_of_ble_eq_true rfl), (Nat.le_of_ble_eq_true rfl)⟩) g hK (by decide) (by decide) (fx' := [(5, 2, q1_, .int x_21), (6, 2, a_19, .int x_20), (7, 2, q2_, .ref a_18), (9, 9, q3_, .ref a_11), (2, 0, a0_, .ref q0_), (2, 1, a0_, .ref q1_), (2, 3, a0_, .ref q2_), (2, 4, a0_, .ref q3_), (2, 5, a0_, .ref q4_), (5, 1, q1_, .ref q5_)]) rfl (fun fr_209 H locs hp hMr_209 g => ?_)
          obtain ⟨x_210, h_211, hF_212⟩ := hp
          have g := g.more hF_212
          refine lv_goto (tgt := 161) hx hb dX2_readMemberHead_120 (by decide) ?_
          refine lv_aload_n hx hb dX2_readMemberHead_161 rfl (lv_at hl 4 rfl) ?_
          refine g_getk (C := RX2) (T := TX2) (N := 16) hx hb hts (mc_ inX2) hown hK g rfl 0 (by decide) rfl (hts _ (List.mem_cons_of_mem _ t_416)) (fun _ h9 => h9) 6 rfl dX2_readMemberHead_162 ?_
          have kb_1201 : bd 1201 1201 (1201 : Int32) := ⟨by decide, by decide⟩
          refine g_callv (va_runV (As := []) (rest := []) ⟨hx, hb, hml, hown, hts⟩ (r_X8_next_2 l dC dI L kd tys fr_209 H.size g.2.2.2.1 q0_ mq0_ kq0_ 1201 kb_1201 (g.fcts [0] rfl)) (cwV 0 hts (gV_ t_1131 t_1103 t_1104 t_184 t_1105) rfl rfl rfl (by decide +kernel) ⟨(Nat.le_of_ble_eq_true rfl), (Nat.le_of_ble_eq_true rfl)⟩) (pre3V g hK mq0_ kq0_ (by decide) (q := (RX8, TX8, 10)) rfl) rfl rfl hl.1 rfl (lv_room (Nat.le_of_ble_eq_true rfl)) dX2_readMemberHead_165 ⟨(Nat.le_of_ble_eq_true rfl), (Nat.le_of_ble_eq_true rfl)⟩) g hK (by decide) (by decide) (fx' := [(8, 6, q0_, .int 1201), (8, 8, q0_, .int x_210), (5, 2, q1_, .int x_21), (6, 2, a_19, .int x_20), (7, 2, q2_, .ref a_18), (9, 9, q3_, .ref a_11), (2, 0, a0_, .ref q0_), (2, 1, a0_, .ref q1_), (2, 3, a0_, .ref q2_), (2, 4, a0_, .ref q3_), (2, 5, a0_, .ref q4_), (5, 1, q1_, .ref q5_)]) rfl (fun fr_213 H locs hp hMr_213 g => ?_)
          refine lv_aload_n hx hb dX2_readMemberHead_168 rfl (lv_at hl 4 rfl) ?_
          refine g_getk (C := RX2) (T := TX2) (N := 16) hx hb hts (mc_ inX2) hown hK g rfl 0 (by decide) rfl (hts _ (List.mem_cons_of_mem _ t_416)) (fun _ h9 => h9) 6 rfl dX2_readMemberHead_169 ?_
          refine lv_bipush (v := 40) hx hb dX2_readMemberHead_172 (by decide) ?_
          refine g_callv (va_runV (As := [.int 40]) (rest := []) ⟨hx, hb, hml, hown, hts⟩ (r_X8_take_2 l dC dI L kd tys fr_213 H.size g.2.2.2.1 q0_ mq0_ kq0_ 40 1201 kb_1201 x_210 h_211 (g.fcts [0, 1] rfl)) (cwV 1 hts (gV_ t_1098 t_1099 t_1100 t_184 t_1101) rfl rfl rfl (by decide +kernel) ⟨(Nat.le_of_ble_eq_true rfl), (Nat.le_of_ble_eq_true rfl)⟩) (pre3V g hK mq0_ kq0_ (by decide) (q := (RX8, TX8, 10)) rfl) rfl rfl hl.1 rfl (lv_room (Nat.le_of_ble_eq_true rfl)) dX2_readMemberHead_174 ⟨(Nat.le_of_ble_eq_true rfl), (Nat.le_of_ble_eq_true rfl)⟩) g hK (by decide) (by decide) (fx' := [(8, 8, q0_, .int x_210), (5, 2, q1_, .int x_21), (6, 2, a_19, .int x_20), (7, 2, q2_, .ref a_18), (9, 9, q3_, .ref a_11), (2, 0, a0_, .ref q0_), (2, 1, a0_, .ref q1_), (2, 3, a0_, .ref q2_), (2, 4, a0_, .ref q3_), (2, 5, a0_, .ref q4_), (5, 1, q1_, .ref q5_)]) rfl (fun fr_214 H locs hp hMr_214 g => ?_)
          obtain ⟨x_215, h_216, hF_217⟩ := hp
          have g := g.more hF_217
          refine lv_aload_n hx hb dX2_readMemberHead_177 rfl (lv_at hl 4 rfl) ?_
          refine g_getk (C := RX2) (T := TX2) (N := 16) hx hb hts (mc_ inX2) hown hK g rfl 0 (by decide) rfl (hts _ (List.mem_cons_of_mem _ t_416)) (fun _ h9 => h9) 6 rfl dX2_readMemberHead_178 ?_
          refine g_calli (va_runV (As := []) (rest := []) ⟨hx, hb, hml, hown, hts⟩ (r_X8_kind_2 l dC dI L kd tys fr_214 H.size g.2.2.2.1 q0_ mq0_ kq0_ x_215 h_216 (g.fcts [0] rfl)) (cwV 0 hts (gV_ t_1118 t_1119 t_1120 t_184 t_1121) rfl rfl rfl (by decide +kernel) ⟨(Nat.le_of_ble_eq_true rfl), (Nat.le_of_ble_eq_true rfl)⟩) (pre3V g hK mq0_ kq0_ (by decide) (q := (RX8, TX8, 10)) rfl) rfl rfl hl.1 rfl (lv_room (Nat.le_of_ble_eq_true rfl)) dX2_readMemberHead_181 ⟨(Nat.le_of_ble_eq_true rfl), (Nat.le_of_ble_eq_true rfl)⟩) g hK (by decide) (by decide) (fx' := [(8, 6, q0_, .int x_215), (8, 8, q0_, .int x_210), (5, 2, q1_, .int x_21), (6, 2, a_19, .int x_20), (7, 2, q2_, .ref a_18), (9, 9, q3_, .ref a_11), (2, 0, a0_, .ref q0_), (2, 1, a0_, .ref q1_), (2, 3, a0_, .ref q2_), (2, 4, a0_, .ref q3_), (2, 5, a0_, .ref q4_), (5, 1, q1_, .ref q5_)]) rfl (fun r_218 fr_218 H locs hp hMr_218 g => ?_)
          obtain ⟨h_219, -⟩ := hp
          obtain rfl : r_218 = 0 := h_219
          refine lv_bipush (v := 41) hx hb dX2_readMemberHead_184 (by decide) ?_
          refine lv_icmp_eq (tgt := 193) hx hb dX2_readMemberHead_186 (by decide) (fun c_ => absurd c_ (by decide)) (fun c_ => ?_)
          refine lv_iconst (v := 1) hx hb dX2_readMemberHead_189 (by decide) ?_
          refine lv_goto (tgt := 194) hx hb dX2_readMemberHead_190 (by decide) ?_
          refine lv_istore (lv' := [(6, .int 1), (5, .int x_12), (4, .int r_7), (2, .long r_6), (1, .int r_5), (0, .ref a0_)]) hx hb dX2_readMemberHead_194 hl (by decide) rfl (fun ls hl => ?_)
          refine lv_iconst (v := 0) hx hb dX2_readMemberHead_196 (by decide) ?_
          refine lv_istore (lv' := [(7, .int 0), (6, .int 1), (5, .int x_12), (4, .int r_7), (2, .long r_6), (1, .int r_5), (0, .ref a0_)]) hx hb dX2_readMemberHead_197 hl (by decide) rfl (fun ls hl => ?_)
          have loop_220 : ∀ (n : Nat) (v199_7 : Int32) (v199_6 : Int32) (w199_8_6_q0_ : Int32), bd 0 4 v199_7 → bd 0 1 v199_6 → bd 1201 1201 w199_8_6_q0_ → (4 - v199_7.toInt < (n : Int)) → ∀ (f : Nat → va_E) (H : Heap) (locs : List Loc) (ls : Array Slot), G3 (dC, dI) L kd tys s f0 [(2, 5), (2, 6), (5, 4), (6, 0), (6, 1), (6, 2), (6, 3), (6, 6), (6, 7), (6, 8), (6, 9), (6, 10), (6, 11), (6, 12), (7, 3), (8, 6), (8, 8), (8, 9), (9, 8)] [132, 134, 135, 156] f H locs [(8, 6, q0_, .int w199_8_6_q0_), (8, 8, q0_, .int x_210), (5, 2, q1_, .int x_21), (6, 2, a_19, .int x_20), (7, 2, q2_, .ref a_18), (9, 9, q3_, .ref a_11), (2, 0, a0_, .ref q0_), (2, 1, a0_, .ref q1_), (2, 3, a0_, .ref q2_), (2, 4, a0_, .ref q3_), (2, 5, a0_, .ref q4_), (5, 1, q1_, .ref q5_)] → lv_has ls 8 [(7, .int v199_7), (6, .int v199_6), (5, .int x_12), (4, .int r_7), (2, .long r_6), (1, .int r_5), (0, .ref a0_)] → W p l e ({ frames := 3, cells := 0, slots := 0, locals := 72 } : Room) s m [.ref a0_].toArray below meth c H locs 0 0 Q (F0 m 199 ls []) := by
            intro n199
            induction n199 with
            | zero =>
              intro v199_7 v199_6 w199_8_6_q0_ bv199_7 bv199_6 bw199_8_6_q0_ hm199 f H locs ls g  hl
              exact absurd hm199 (by have h9_v199_7 := bv199_7; unfold bd at h9_v199_7; have h9_v199_6 := bv199_6; unfold bd at h9_v199_6; have h9_w199_8_6_q0_ := bw199_8_6_q0_; unfold bd at h9_w199_8_6_q0_; omega)
            | succ n199 ih199 =>
              intro v199_7 v199_6 w199_8_6_q0_ bv199_7 bv199_6 bw199_8_6_q0_ hm199 f H locs ls g  hl
              refine lv_iload hx hb dX2_readMemberHead_199 (lv_at hl 0 rfl) ?_
              refine lv_iconst (v := 3) hx hb dX2_readMemberHead_201 (by decide) ?_
              refine lv_icmp_gt (tgt := 251) hx hb dX2_readMemberHead_202 (by decide) (fun c_221 => ?_) (fun c_221 => ?_)
              · have fc_221 := lt_f c_221
                have b_222 : bd 4 4 v199_7 := ltR fc_221 kb_3 bv199_7 (by decide)
                refine lv_aload_n hx hb dX2_readMemberHead_251 rfl (lv_at hl 6 rfl) ?_
                refine g_getk (C := RX2) (T := TX2) (N := 16) hx hb hts (mc_ inX2) hown hK g rfl 0 (by decide) rfl (hts _ (List.mem_cons_of_mem _ t_416)) (fun _ h9 => h9) 6 rfl dX2_readMemberHead_252 ?_
                refine g_calli (va_runV (As := []) (rest := []) ⟨hx, hb, hml, hown, hts⟩ (r_X8_place l dC dI L kd tys f H.size g.2.2.2.1 q0_ mq0_ kq0_) (cwV 0 hts (gV_ t_1110 t_1111 t_1112 t_184 t_1113) rfl rfl rfl (by decide +kernel) ⟨(Nat.le_of_ble_eq_true rfl), (Nat.le_of_ble_eq_true rfl)⟩) (pre3V g hK mq0_ kq0_ (by decide) (q := (RX8, TX8, 10)) rfl) rfl rfl hl.1 rfl (lv_room (Nat.le_of_ble_eq_true rfl)) dX2_readMemberHead_255 ⟨(Nat.le_of_ble_eq_true rfl), (Nat.le_of_ble_eq_true rfl)⟩) g hK (by decide) (by decide) (fx' := [(8, 6, q0_, .int w199_8_6_q0_), (8, 8, q0_, .int x_210), (5, 2, q1_, .int x_21), (6, 2, a_19, .int x_20), (7, 2, q2_, .ref a_18), (9, 9, q3_, .ref a_11), (2, 0, a0_, .ref q0_), (2, 1, a0_, .ref q1_), (2, 3, a0_, .ref q2_), (2, 4, a0_, .ref q3_), (2, 5, a0_, .ref q4_), (5, 1, q1_, .ref q5_)]) rfl (fun r_223 fr_223 H locs hp hMr_223 g => ?_)
                refine lv_istore (lv' := [(7, .int r_223), (6, .int v199_6), (5, .int x_12), (4, .int r_7), (2, .long r_6), (1, .int r_5), (0, .ref a0_)]) hx hb dX2_readMemberHead_258 hl (by decide) rfl (fun ls hl => ?_)
                refine lv_aload_n hx hb dX2_readMemberHead_260 rfl (lv_at hl 6 rfl) ?_
                refine g_getk (C := RX2) (T := TX2) (N := 16) hx hb hts (mc_ inX2) hown hK g rfl 0 (by decide) rfl (hts _ (List.mem_cons_of_mem _ t_416)) (fun _ h9 => h9) 6 rfl dX2_readMemberHead_261 ?_
                refine lv_bipush (v := 41) hx hb dX2_readMemberHead_264 (by decide) ?_
                refine g_callv (va_runV (As := [.int 41]) (rest := []) ⟨hx, hb, hml, hown, hts⟩ (r_X8_take_2 l dC dI L kd tys fr_223 H.size g.2.2.2.1 q0_ mq0_ kq0_ 41 w199_8_6_q0_ bw199_8_6_q0_ x_210 h_211 (g.fcts [0, 1] rfl)) (cwV 1 hts (gV_ t_1098 t_1099 t_1100 t_184 t_1101) rfl rfl rfl (by decide +kernel) ⟨(Nat.le_of_ble_eq_true rfl), (Nat.le_of_ble_eq_true rfl)⟩) (pre3V g hK mq0_ kq0_ (by decide) (q := (RX8, TX8, 10)) rfl) rfl rfl hl.1 rfl (lv_room (Nat.le_of_ble_eq_true rfl)) dX2_readMemberHead_266 ⟨(Nat.le_of_ble_eq_true rfl), (Nat.le_of_ble_eq_true rfl)⟩) g hK (by decide) (by decide) (fx' := [(8, 8, q0_, .int x_210), (5, 2, q1_, .int x_21), (6, 2, a_19, .int x_20), (7, 2, q2_, .ref a_18), (9, 9, q3_, .ref a_11), (2, 0, a0_, .ref q0_), (2, 1, a0_, .ref q1_), (2, 3, a0_, .ref q2_), (2, 4, a0_, .ref q3_), (2, 5, a0_, .ref q4_), (5, 1, q1_, .ref q5_)]) rfl (fun fr_224 H locs hp hMr_224 g => ?_)
                obtain ⟨x_225, h_226, hF_227⟩ := hp
                have g := g.more hF_227
                refine lv_iload hx hb dX2_readMemberHead_269 (lv_at hl 2 rfl) ?_
                refine lv_iconst (v := (-1)) hx hb dX2_readMemberHead_271 (by decide) ?_
                refine lv_icmp_eq (tgt := 308) hx hb dX2_readMemberHead_272 (by decide) (fun c_228 => ?_) (fun c_228 => ?_)
                · have fc_228 := eq_f c_228
                  have b_229 : bd 0 (-1) x_12 := eqX fc_228 bx_12 kb_m1 (by decide)
                  exact bd_no b_229 (by decide)
                · have fc_228 := neq_f c_228
                  refine lv_aload_n hx hb dX2_readMemberHead_275 rfl (lv_at hl 6 rfl) ?_
                  refine g_getk (C := RX2) (T := TX2) (N := 16) hx hb hts (mc_ inX2) hown hK g rfl 3 (by decide) rfl (hts _ (List.mem_cons_of_mem _ t_419)) (fun _ h9 => h9) 8 rfl dX2_readMemberHead_276 ?_
                  refine g_getk (C := RX7) (T := TX7) (N := 19) hx hb hts (mc_ inX7) hown hK g rfl 2 (by decide) rfl (hts _ (List.mem_cons_of_mem _ t_630)) (fun _ h9 => h9) 4 rfl dX2_readMemberHead_279 ?_
                  refine lv_iload hx hb dX2_readMemberHead_282 (lv_at hl 2 rfl) ?_
                  refine g_aald hx hb hK g ma_18 ka_18 (by decide) rfl (by decide) (in_bd bx_12 (by decide)) dX2_readMemberHead_284 (fun a_230 ma_230 ua_230 wa_230 => ?_)
                  have ka_230 : kd a_230 = 6 := by omega
                  refine g_geti (C := RX6) (T := TX6) (N := 13) hx hb hts (mc_ inX6) hown hK g ma_230 ka_230 (by decide) rfl 3 (by decide) rfl (hts _ (List.mem_cons_of_mem _ t_568)) (fun _ h9 => h9) rfl dX2_readMemberHead_285 (fun x_231 bx_231 g => ?_)
                  refine lv_aload_n hx hb dX2_readMemberHead_288 rfl (lv_at hl 6 rfl) ?_
                  refine g_getk (C := RX2) (T := TX2) (N := 16) hx hb hts (mc_ inX2) hown hK g rfl 5 (by decide) rfl (hts _ (List.mem_cons_of_mem _ t_421)) (fun _ h9 => h9) 11 rfl dX2_readMemberHead_289 ?_
                  refine g_geti (C := RX6) (T := TX6) (N := 13) hx hb hts (mc_ inX6) hown hK g mq4_ kq4_ (by decide) rfl 3 (by decide) rfl (hts _ (List.mem_cons_of_mem _ t_568)) (fun _ h9 => h9) rfl dX2_readMemberHead_292 (fun x_232 bx_232 g => ?_)
                  refine lv_icmp_eq (tgt := 308) hx hb dX2_readMemberHead_295 (by decide) (fun c_233 => ?_) (fun c_233 => ?_)
                  · have fc_233 := eq_f c_233
                    subst hQ
                    exact W.vret hx hb hr (fun t ht hW => ⟨⟨_, rfl, Or.inl ⟨x_225, h_226, x_210, h_211, q4_, ⟨mq4_, kq4_⟩, (g.fcts [2, 3, 12] rfl)⟩, q3_of g hK ht hW⟩, g.2.2.1.F ht⟩) g.2.2.1.2.2 dX2_readMemberHead_308
                  · have fc_233 := neq_f c_233
                    refine lv_aload_n hx hb dX2_readMemberHead_298 rfl (lv_at hl 6 rfl) ?_
                    refine g_getk (C := RX2) (T := TX2) (N := 16) hx hb hts (mc_ inX2) hown hK g rfl 0 (by decide) rfl (hts _ (List.mem_cons_of_mem _ t_416)) (fun _ h9 => h9) 8 rfl dX2_readMemberHead_299 ?_
                    refine lv_iconst (v := 5) hx hb dX2_readMemberHead_302 (by decide) ?_
                    refine lv_iload hx hb dX2_readMemberHead_303 (lv_at hl 0 rfl) ?_
                    have kb_5 : bd 5 5 (5 : Int32) := ⟨by decide, by decide⟩
                    refine g_callv (va_runV (As := [.int 5, .int r_223]) (rest := []) ⟨hx, hb, hml, hown, hts⟩ (r_X8_fail_9 l dC dI L kd tys fr_224 H.size g.2.2.2.1 q0_ mq0_ kq0_ 5 kb_5 r_223 x_210 h_211 (g.fcts [3] rfl)) (cwV 2 hts (gV_ t_1122 t_1107 t_1108 t_184 t_1109) rfl rfl rfl (by decide +kernel) ⟨(Nat.le_of_ble_eq_true rfl), (Nat.le_of_ble_eq_true rfl)⟩) (pre3V g hK mq0_ kq0_ (by decide) (q := (RX8, TX8, 10)) rfl) rfl rfl hl.1 rfl (lv_room (Nat.le_of_ble_eq_true rfl)) dX2_readMemberHead_305 ⟨(Nat.le_of_ble_eq_true rfl), (Nat.le_of_ble_eq_true rfl)⟩) g hK (by decide) (by decide) (fx' := [(6, 3, q4_, .int x_232), (6, 3, a_230, .int x_231), (8, 8, q0_, .int x_210), (5, 2, q1_, .int x_21), (6, 2, a_19, .int x_20), (7, 2, q2_, .ref a_18), (9, 9, q3_, .ref a_11), (2, 0, a0_, .ref q0_), (2, 1, a0_, .ref q1_), (2, 3, a0_, .ref q2_), (2, 4, a0_, .ref q3_), (2, 5, a0_, .ref q4_), (5, 1, q1_, .ref q5_)]) rfl (fun fr_234 H locs hp hMr_234 g => ?_)
                    have hF_235 := hp
                    have g := g.more hF_235
                    subst hQ
                    exact W.vret hx hb hr (fun t ht hW => ⟨⟨_, rfl, Or.inl ⟨1201, kb_1201, x_210, h_211, q4_, ⟨mq4_, kq4_⟩, (g.fcts [0, 3, 12] rfl)⟩, q3_of g hK ht hW⟩, g.2.2.1.F ht⟩) g.2.2.1.2.2 dX2_readMemberHead_308
              · have fc_221 := nlt_f c_221
                have b_236 : bd 0 3 v199_7 := leL fc_221 bv199_7 kb_3 (by decide)
                refine lv_iload hx hb dX2_readMemberHead_205 (lv_at hl 1 rfl) ?_
                have kb_0 : bd 0 0 (0 : Int32) := ⟨by decide, by decide⟩
                refine lv_if_eq (tgt := 251) hx hb dX2_readMemberHead_207 (by decide) (fun c_237 => ?_) (fun c_237 => ?_)
                · have fc_237 := eq_f c_237
                  have b_238 : bd 0 0 v199_6 := eqX fc_237 bv199_6 kb_0 (by decide)
                  refine lv_aload_n hx hb dX2_readMemberHead_251 rfl (lv_at hl 6 rfl) ?_
                  refine g_getk (C := RX2) (T := TX2) (N := 16) hx hb hts (mc_ inX2) hown hK g rfl 0 (by decide) rfl (hts _ (List.mem_cons_of_mem _ t_416)) (fun _ h9 => h9) 6 rfl dX2_readMemberHead_252 ?_
                  refine g_calli (va_runV (As := []) (rest := []) ⟨hx, hb, hml, hown, hts⟩ (r_X8_place l dC dI L kd tys f H.size g.2.2.2.1 q0_ mq0_ kq0_) (cwV 0 hts (gV_ t_1110 t_1111 t_1112 t_184 t_1113) rfl rfl rfl (by decide +kernel) ⟨(Nat.le_of_ble_eq_true rfl), (Nat.le_of_ble_eq_true rfl)⟩) (pre3V g hK mq0_ kq0_ (by decide) (q := (RX8, TX8, 10)) rfl) rfl rfl hl.1 rfl (lv_room (Nat.le_of_ble_eq_true rfl)) dX2_readMemberHead_255 ⟨(Nat.le_of_ble_eq_true rfl), (Nat.le_of_ble_eq_true rfl)⟩) g hK (by decide) (by decide) (fx' := [(8, 6, q0_, .int w199_8_6_q0_), (8, 8, q0_, .int x_210), (5, 2, q1_, .int x_21), (6, 2, a_19, .int x_20), (7, 2, q2_, .ref a_18), (9, 9, q3_, .ref a_11), (2, 0, a0_, .ref q0_), (2, 1, a0_, .ref q1_), (2, 3, a0_, .ref q2_), (2, 4, a0_, .ref q3_), (2, 5, a0_, .ref q4_), (5, 1, q1_, .ref q5_)]) rfl (fun r_239 fr_239 H locs hp hMr_239 g => ?_)
                  refine lv_istore (lv' := [(7, .int r_239), (6, .int v199_6), (5, .int x_12), (4, .int r_7), (2, .long r_6), (1, .int r_5), (0, .ref a0_)]) hx hb dX2_readMemberHead_258 hl (by decide) rfl (fun ls hl => ?_)
                  refine lv_aload_n hx hb dX2_readMemberHead_260 rfl (lv_at hl 6 rfl) ?_
                  refine g_getk (C := RX2) (T := TX2) (N := 16) hx hb hts (mc_ inX2) hown hK g rfl 0 (by decide) rfl (hts _ (List.mem_cons_of_mem _ t_416)) (fun _ h9 => h9) 6 rfl dX2_readMemberHead_261 ?_
                  refine lv_bipush (v := 41) hx hb dX2_readMemberHead_264 (by decide) ?_
                  refine g_callv (va_runV (As := [.int 41]) (rest := []) ⟨hx, hb, hml, hown, hts⟩ (r_X8_take_2 l dC dI L kd tys fr_239 H.size g.2.2.2.1 q0_ mq0_ kq0_ 41 w199_8_6_q0_ bw199_8_6_q0_ x_210 h_211 (g.fcts [0, 1] rfl)) (cwV 1 hts (gV_ t_1098 t_1099 t_1100 t_184 t_1101) rfl rfl rfl (by decide +kernel) ⟨(Nat.le_of_ble_eq_true rfl), (Nat.le_of_ble_eq_true rfl)⟩) (pre3V g hK mq0_ kq0_ (by decide) (q := (RX8, TX8, 10)) rfl) rfl rfl hl.1 rfl (lv_room (Nat.le_of_ble_eq_true rfl)) dX2_readMemberHead_266 ⟨(Nat.le_of_ble_eq_true rfl), (Nat.le_of_ble_eq_true rfl)⟩) g hK (by decide) (by decide) (fx' := [(8, 8, q0_, .int x_210), (5, 2, q1_, .int x_21), (6, 2, a_19, .int x_20), (7, 2, q2_, .ref a_18), (9, 9, q3_, .ref a_11), (2, 0, a0_, .ref q0_), (2, 1, a0_, .ref q1_), (2, 3, a0_, .ref q2_), (2, 4, a0_, .ref q3_), (2, 5, a0_, .ref q4_), (5, 1, q1_, .ref q5_)]) rfl (fun fr_240 H locs hp hMr_240 g => ?_)
                  obtain ⟨x_241, h_242, hF_243⟩ := hp
                  have g := g.more hF_243
                  refine lv_iload hx hb dX2_readMemberHead_269 (lv_at hl 2 rfl) ?_
                  refine lv_iconst (v := (-1)) hx hb dX2_readMemberHead_271 (by decide) ?_
                  refine lv_icmp_eq (tgt := 308) hx hb dX2_readMemberHead_272 (by decide) (fun c_244 => ?_) (fun c_244 => ?_)
                  · have fc_244 := eq_f c_244
                    have b_245 : bd 0 (-1) x_12 := eqX fc_244 bx_12 kb_m1 (by decide)
                    exact bd_no b_245 (by decide)
                  · have fc_244 := neq_f c_244
                    refine lv_aload_n hx hb dX2_readMemberHead_275 rfl (lv_at hl 6 rfl) ?_
                    refine g_getk (C := RX2) (T := TX2) (N := 16) hx hb hts (mc_ inX2) hown hK g rfl 3 (by decide) rfl (hts _ (List.mem_cons_of_mem _ t_419)) (fun _ h9 => h9) 8 rfl dX2_readMemberHead_276 ?_
                    refine g_getk (C := RX7) (T := TX7) (N := 19) hx hb hts (mc_ inX7) hown hK g rfl 2 (by decide) rfl (hts _ (List.mem_cons_of_mem _ t_630)) (fun _ h9 => h9) 4 rfl dX2_readMemberHead_279 ?_
                    refine lv_iload hx hb dX2_readMemberHead_282 (lv_at hl 2 rfl) ?_
                    refine g_aald hx hb hK g ma_18 ka_18 (by decide) rfl (by decide) (in_bd bx_12 (by decide)) dX2_readMemberHead_284 (fun a_246 ma_246 ua_246 wa_246 => ?_)
                    have ka_246 : kd a_246 = 6 := by omega
                    refine g_geti (C := RX6) (T := TX6) (N := 13) hx hb hts (mc_ inX6) hown hK g ma_246 ka_246 (by decide) rfl 3 (by decide) rfl (hts _ (List.mem_cons_of_mem _ t_568)) (fun _ h9 => h9) rfl dX2_readMemberHead_285 (fun x_247 bx_247 g => ?_)
                    refine lv_aload_n hx hb dX2_readMemberHead_288 rfl (lv_at hl 6 rfl) ?_
                    refine g_getk (C := RX2) (T := TX2) (N := 16) hx hb hts (mc_ inX2) hown hK g rfl 5 (by decide) rfl (hts _ (List.mem_cons_of_mem _ t_421)) (fun _ h9 => h9) 11 rfl dX2_readMemberHead_289 ?_
                    refine g_geti (C := RX6) (T := TX6) (N := 13) hx hb hts (mc_ inX6) hown hK g mq4_ kq4_ (by decide) rfl 3 (by decide) rfl (hts _ (List.mem_cons_of_mem _ t_568)) (fun _ h9 => h9) rfl dX2_readMemberHead_292 (fun x_248 bx_248 g => ?_)
                    refine lv_icmp_eq (tgt := 308) hx hb dX2_readMemberHead_295 (by decide) (fun c_249 => ?_) (fun c_249 => ?_)
                    · have fc_249 := eq_f c_249
                      subst hQ
                      exact W.vret hx hb hr (fun t ht hW => ⟨⟨_, rfl, Or.inl ⟨x_241, h_242, x_210, h_211, q4_, ⟨mq4_, kq4_⟩, (g.fcts [2, 3, 12] rfl)⟩, q3_of g hK ht hW⟩, g.2.2.1.F ht⟩) g.2.2.1.2.2 dX2_readMemberHead_308
                    · have fc_249 := neq_f c_249
                      refine lv_aload_n hx hb dX2_readMemberHead_298 rfl (lv_at hl 6 rfl) ?_
                      refine g_getk (C := RX2) (T := TX2) (N := 16) hx hb hts (mc_ inX2) hown hK g rfl 0 (by decide) rfl (hts _ (List.mem_cons_of_mem _ t_416)) (fun _ h9 => h9) 8 rfl dX2_readMemberHead_299 ?_
                      refine lv_iconst (v := 5) hx hb dX2_readMemberHead_302 (by decide) ?_
                      refine lv_iload hx hb dX2_readMemberHead_303 (lv_at hl 0 rfl) ?_
                      have kb_5 : bd 5 5 (5 : Int32) := ⟨by decide, by decide⟩
                      refine g_callv (va_runV (As := [.int 5, .int r_239]) (rest := []) ⟨hx, hb, hml, hown, hts⟩ (r_X8_fail_9 l dC dI L kd tys fr_240 H.size g.2.2.2.1 q0_ mq0_ kq0_ 5 kb_5 r_239 x_210 h_211 (g.fcts [3] rfl)) (cwV 2 hts (gV_ t_1122 t_1107 t_1108 t_184 t_1109) rfl rfl rfl (by decide +kernel) ⟨(Nat.le_of_ble_eq_true rfl), (Nat.le_of_ble_eq_true rfl)⟩) (pre3V g hK mq0_ kq0_ (by decide) (q := (RX8, TX8, 10)) rfl) rfl rfl hl.1 rfl (lv_room (Nat.le_of_ble_eq_true rfl)) dX2_readMemberHead_305 ⟨(Nat.le_of_ble_eq_true rfl), (Nat.le_of_ble_eq_true rfl)⟩) g hK (by decide) (by decide) (fx' := [(6, 3, q4_, .int x_248), (6, 3, a_246, .int x_247), (8, 8, q0_, .int x_210), (5, 2, q1_, .int x_21), (6, 2, a_19, .int x_20), (7, 2, q2_, .ref a_18), (9, 9, q3_, .ref a_11), (2, 0, a0_, .ref q0_), (2, 1, a0_, .ref q1_), (2, 3, a0_, .ref q2_), (2, 4, a0_, .ref q3_), (2, 5, a0_, .ref q4_), (5, 1, q1_, .ref q5_)]) rfl (fun fr_250 H locs hp hMr_250 g => ?_)
                      have hF_251 := hp
                      have g := g.more hF_251
                      subst hQ
                      exact W.vret hx hb hr (fun t ht hW => ⟨⟨_, rfl, Or.inl ⟨1201, kb_1201, x_210, h_211, q4_, ⟨mq4_, kq4_⟩, (g.fcts [0, 3, 12] rfl)⟩, q3_of g hK ht hW⟩, g.2.2.1.F ht⟩) g.2.2.1.2.2 dX2_readMemberHead_308
                · have fc_237 := neq_f c_237
                  have b_252 : bd 1 1 v199_6 := neX fc_237 bv199_6 kb_0 (by decide)
                  refine lv_aload_n hx hb dX2_readMemberHead_210 rfl (lv_at hl 6 rfl) ?_
                  refine g_callv (va_runV (As := []) (rest := []) ⟨hx, hb, hml, hown, hts⟩ (r_X2_readParam_2 l dC dI L kd tys f H.size g.2.2.2.1 a0_ ma0_ ka0_ q0_ mq0_ kq0_ q1_ mq1_ kq1_ q4_ mq4_ kq4_ q5_ mq5_ kq5_ w199_8_6_q0_ bw199_8_6_q0_ x_210 h_211 (g.fcts [6, 7, 10, 11, 0, 1] rfl)) (cwV 0 hts (gV_ t_1313 t_1315 t_34 t_183 t_1316) rfl rfl rfl (by decide +kernel) ⟨(Nat.le_of_ble_eq_true rfl), (Nat.le_of_ble_eq_true rfl)⟩) (pre3V g hK ma0_ ka0_ (by decide) (q := (RX2, TX2, 16)) rfl) rfl rfl hl.1 rfl (lv_room (Nat.le_of_ble_eq_true rfl)) dX2_readMemberHead_211 ⟨(Nat.le_of_ble_eq_true rfl), (Nat.le_of_ble_eq_true rfl)⟩) g hK (by decide) (by decide) (fx' := [(8, 8, q0_, .int x_210), (5, 2, q1_, .int x_21), (6, 2, a_19, .int x_20), (7, 2, q2_, .ref a_18), (9, 9, q3_, .ref a_11), (2, 0, a0_, .ref q0_), (2, 1, a0_, .ref q1_), (2, 3, a0_, .ref q2_), (2, 4, a0_, .ref q3_), (2, 5, a0_, .ref q4_), (5, 1, q1_, .ref q5_)]) rfl (fun fr_253 H locs hp hMr_253 g => ?_)
                  have hF_254 := hp
                  have g := g.more hF_254
                  refine lv_aload_n hx hb dX2_readMemberHead_214 rfl (lv_at hl 6 rfl) ?_
                  refine g_getk (C := RX2) (T := TX2) (N := 16) hx hb hts (mc_ inX2) hown hK g rfl 0 (by decide) rfl (hts _ (List.mem_cons_of_mem _ t_416)) (fun _ h9 => h9) 6 rfl dX2_readMemberHead_215 ?_
                  refine g_calli (va_runV (As := []) (rest := []) ⟨hx, hb, hml, hown, hts⟩ (r_X8_kind_2 l dC dI L kd tys fr_253 H.size g.2.2.2.1 q0_ mq0_ kq0_ 1201 kb_1201 (g.fcts [0] rfl)) (cwV 0 hts (gV_ t_1118 t_1119 t_1120 t_184 t_1121) rfl rfl rfl (by decide +kernel) ⟨(Nat.le_of_ble_eq_true rfl), (Nat.le_of_ble_eq_true rfl)⟩) (pre3V g hK mq0_ kq0_ (by decide) (q := (RX8, TX8, 10)) rfl) rfl rfl hl.1 rfl (lv_room (Nat.le_of_ble_eq_true rfl)) dX2_readMemberHead_218 ⟨(Nat.le_of_ble_eq_true rfl), (Nat.le_of_ble_eq_true rfl)⟩) g hK (by decide) (by decide) (fx' := [(8, 6, q0_, .int 1201), (8, 8, q0_, .int x_210), (5, 2, q1_, .int x_21), (6, 2, a_19, .int x_20), (7, 2, q2_, .ref a_18), (9, 9, q3_, .ref a_11), (2, 0, a0_, .ref q0_), (2, 1, a0_, .ref q1_), (2, 3, a0_, .ref q2_), (2, 4, a0_, .ref q3_), (2, 5, a0_, .ref q4_), (5, 1, q1_, .ref q5_)]) rfl (fun r_255 fr_255 H locs hp hMr_255 g => ?_)
                  obtain ⟨h_256, -⟩ := hp
                  obtain rfl : r_255 = 0 := h_256
                  refine lv_bipush (v := 44) hx hb dX2_readMemberHead_221 (by decide) ?_
                  refine lv_icmp_ne (tgt := 230) hx hb dX2_readMemberHead_223 (by decide) (fun c_ => ?_) (fun c_ => absurd c_ (by decide))
                  refine lv_iconst (v := 0) hx hb dX2_readMemberHead_230 (by decide) ?_
                  refine lv_istore (lv' := [(6, .int 0), (7, .int v199_7), (5, .int x_12), (4, .int r_7), (2, .long r_6), (1, .int r_5), (0, .ref a0_)]) hx hb dX2_readMemberHead_231 hl (by decide) rfl (fun ls hl => ?_)
                  refine lv_iload hx hb dX2_readMemberHead_233 (lv_at hl 0 rfl) ?_
                  refine lv_if_eq (tgt := 245) hx hb dX2_readMemberHead_235 (by decide) (fun c_ => ?_) (fun c_ => absurd (by decide) c_)
                  have kb_1 : bd 1 1 (1 : Int32) := ⟨by decide, by decide⟩
                  obtain ⟨y_257, ey_257⟩ : ∃ z : Int32, z = v199_7 + 1 := ⟨_, rfl⟩
                  refine lv_iinc (v := y_257) (lv' := [(7, .int y_257), (6, .int 0), (5, .int x_12), (4, .int r_7), (2, .long r_6), (1, .int r_5), (0, .ref a0_)]) hx hb dX2_readMemberHead_245 hl (k := 1) rfl (by rw [ey_257]; rfl) (by decide) rfl (fun ls hl => ?_)
                  have ty_257 := add_bd ey_257 b_236 kb_1 (by decide)
                  have b_258 : bd 1 4 y_257 := add_rg ty_257 b_236 kb_1 (by decide)
                  refine lv_goto (tgt := 199) hx hb dX2_readMemberHead_248 (by decide) ?_
                  have hl9 := lv_sub hl [0, 1, 2, 3, 4, 5, 6] (by rfl : lv_pick [(7, .int y_257), (6, .int 0), (5, .int x_12), (4, .int r_7), (2, .long r_6), (1, .int r_5), (0, .ref a0_)] [0, 1, 2, 3, 4, 5, 6] = [(7, .int y_257), (6, .int 0), (5, .int x_12), (4, .int r_7), (2, .long r_6), (1, .int r_5), (0, .ref a0_)])
                  have g9 := g.sub (fx' := [(8, 6, q0_, .int 1201), (8, 8, q0_, .int x_210), (5, 2, q1_, .int x_21), (6, 2, a_19, .int x_20), (7, 2, q2_, .ref a_18), (9, 9, q3_, .ref a_11), (2, 0, a0_, .ref q0_), (2, 1, a0_, .ref q1_), (2, 3, a0_, .ref q2_), (2, 4, a0_, .ref q3_), (2, 5, a0_, .ref q4_), (5, 1, q1_, .ref q5_)]) [0, 1, 2, 3, 4, 5, 6, 7, 8, 9, 10, 11] rfl
                  exact ih199  y_257 0 1201 (bd_sub b_258 (by decide)) (bd_sub kb_0 (by decide)) kb_1201 (by have h9_0 := b_258; unfold bd at h9_0; have h9_1 := bv199_6; unfold bd at h9_1; have h9_2 := bv199_7; unfold bd at h9_2; have h9_3 := bw199_8_6_q0_; unfold bd at h9_3; have h9_4 := kb_0; unfold bd at h9_4; have h9_5 := kb_1; unfold bd at h9_5; have h9_6 := kb_1201; unfold bd at h9_6; have h9_7 := kb_2; unfold bd at h9_7; have h9_8 := kb_3; unfold bd at h9_8; have h9_9 := kb_m1; unfold bd at h9_9; omega) _ _ _ _ g9  hl9
          have kb_0 : bd 0 0 (0 : Int32) := ⟨by decide, by decide⟩
          have kb_1 : bd 1 1 (1 : Int32) := ⟨by decide, by decide⟩
          have hl9 := lv_sub hl [0, 1, 2, 3, 4, 5, 6] (by rfl : lv_pick [(7, .int 0), (6, .int 1), (5, .int x_12), (4, .int r_7), (2, .long r_6), (1, .int r_5), (0, .ref a0_)] [0, 1, 2, 3, 4, 5, 6] = [(7, .int 0), (6, .int 1), (5, .int x_12), (4, .int r_7), (2, .long r_6), (1, .int r_5), (0, .ref a0_)])
          have g9 := g.sub (fx' := [(8, 6, q0_, .int x_215), (8, 8, q0_, .int x_210), (5, 2, q1_, .int x_21), (6, 2, a_19, .int x_20), (7, 2, q2_, .ref a_18), (9, 9, q3_, .ref a_11), (2, 0, a0_, .ref q0_), (2, 1, a0_, .ref q1_), (2, 3, a0_, .ref q2_), (2, 4, a0_, .ref q3_), (2, 5, a0_, .ref q4_), (5, 1, q1_, .ref q5_)]) [0, 1, 2, 3, 4, 5, 6, 7, 8, 9, 10, 11] rfl
          exact loop_220 (11) 0 1 x_215 (bd_sub kb_0 (by decide)) (bd_sub kb_1 (by decide)) h_216 (by have h9_0 := h_216; unfold bd at h9_0; have h9_1 := kb_0; unfold bd at h9_1; have h9_2 := kb_1; unfold bd at h9_2; have h9_3 := kb_1201; unfold bd at h9_3; have h9_4 := kb_2; unfold bd at h9_4; have h9_5 := kb_3; unfold bd at h9_5; have h9_6 := kb_m1; unfold bd at h9_6; omega) _ _ _ _ g9  hl9
    · have fc_14 := neq_f c_14
      refine lv_aload_n hx hb dX2_readMemberHead_70 rfl (lv_at hl 4 rfl) ?_
      refine g_getk (C := RX2) (T := TX2) (N := 16) hx hb hts (mc_ inX2) hown hK g rfl 0 (by decide) rfl (hts _ (List.mem_cons_of_mem _ t_416)) (fun _ h9 => h9) 2 rfl dX2_readMemberHead_71 ?_
      refine lv_iconst (v := 1) hx hb dX2_readMemberHead_74 (by decide) ?_
      refine lv_iload_n hx hb dX2_readMemberHead_75 rfl (lv_at hl 3 rfl) ?_
      have kb_1 : bd 1 1 (1 : Int32) := ⟨by decide, by decide⟩
      refine g_callv (va_runV (As := [.int 1, .int r_5]) (rest := []) ⟨hx, hb, hml, hown, hts⟩ (r_X8_fail_7 l dC dI L kd tys fr_13 H.size g.2.2.2.1 q0_ mq0_ kq0_ 1 kb_1 r_5) (cwV 2 hts (gV_ t_1122 t_1107 t_1108 t_184 t_1109) rfl rfl rfl (by decide +kernel) ⟨(Nat.le_of_ble_eq_true rfl), (Nat.le_of_ble_eq_true rfl)⟩) (pre3V g hK mq0_ kq0_ (by decide) (q := (RX8, TX8, 10)) rfl) rfl rfl hl.1 rfl (lv_room (Nat.le_of_ble_eq_true rfl)) dX2_readMemberHead_76 ⟨(Nat.le_of_ble_eq_true rfl), (Nat.le_of_ble_eq_true rfl)⟩) g hK (by decide) (by decide) (fx' := [(9, 9, q3_, .ref a_11), (2, 0, a0_, .ref q0_), (2, 1, a0_, .ref q1_), (2, 3, a0_, .ref q2_), (2, 4, a0_, .ref q3_), (2, 5, a0_, .ref q4_), (5, 1, q1_, .ref q5_)]) rfl (fun fr_259 H locs hp hMr_259 g => ?_)
      obtain ⟨x_260, h_261, hF_262⟩ := hp
      have g := g.more hF_262
      refine lv_goto (tgt := 161) hx hb dX2_readMemberHead_79 (by decide) ?_
      refine lv_aload_n hx hb dX2_readMemberHead_161 rfl (lv_at hl 4 rfl) ?_
      refine g_getk (C := RX2) (T := TX2) (N := 16) hx hb hts (mc_ inX2) hown hK g rfl 0 (by decide) rfl (hts _ (List.mem_cons_of_mem _ t_416)) (fun _ h9 => h9) 3 rfl dX2_readMemberHead_162 ?_
      have kb_1201 : bd 1201 1201 (1201 : Int32) := ⟨by decide, by decide⟩
      refine g_callv (va_runV (As := []) (rest := []) ⟨hx, hb, hml, hown, hts⟩ (r_X8_next_2 l dC dI L kd tys fr_259 H.size g.2.2.2.1 q0_ mq0_ kq0_ 1201 kb_1201 (g.fcts [0] rfl)) (cwV 0 hts (gV_ t_1131 t_1103 t_1104 t_184 t_1105) rfl rfl rfl (by decide +kernel) ⟨(Nat.le_of_ble_eq_true rfl), (Nat.le_of_ble_eq_true rfl)⟩) (pre3V g hK mq0_ kq0_ (by decide) (q := (RX8, TX8, 10)) rfl) rfl rfl hl.1 rfl (lv_room (Nat.le_of_ble_eq_true rfl)) dX2_readMemberHead_165 ⟨(Nat.le_of_ble_eq_true rfl), (Nat.le_of_ble_eq_true rfl)⟩) g hK (by decide) (by decide) (fx' := [(8, 6, q0_, .int 1201), (8, 8, q0_, .int x_260), (9, 9, q3_, .ref a_11), (2, 0, a0_, .ref q0_), (2, 1, a0_, .ref q1_), (2, 3, a0_, .ref q2_), (2, 4, a0_, .ref q3_), (2, 5, a0_, .ref q4_), (5, 1, q1_, .ref q5_)]) rfl (fun fr_263 H locs hp hMr_263 g => ?_)
      refine lv_aload_n hx hb dX2_readMemberHead_168 rfl (lv_at hl 4 rfl) ?_
      refine g_getk (C := RX2) (T := TX2) (N := 16) hx hb hts (mc_ inX2) hown hK g rfl 0 (by decide) rfl (hts _ (List.mem_cons_of_mem _ t_416)) (fun _ h9 => h9) 3 rfl dX2_readMemberHead_169 ?_
      refine lv_bipush (v := 40) hx hb dX2_readMemberHead_172 (by decide) ?_
      refine g_callv (va_runV (As := [.int 40]) (rest := []) ⟨hx, hb, hml, hown, hts⟩ (r_X8_take_2 l dC dI L kd tys fr_263 H.size g.2.2.2.1 q0_ mq0_ kq0_ 40 1201 kb_1201 x_260 h_261 (g.fcts [0, 1] rfl)) (cwV 1 hts (gV_ t_1098 t_1099 t_1100 t_184 t_1101) rfl rfl rfl (by decide +kernel) ⟨(Nat.le_of_ble_eq_true rfl), (Nat.le_of_ble_eq_true rfl)⟩) (pre3V g hK mq0_ kq0_ (by decide) (q := (RX8, TX8, 10)) rfl) rfl rfl hl.1 rfl (lv_room (Nat.le_of_ble_eq_true rfl)) dX2_readMemberHead_174 ⟨(Nat.le_of_ble_eq_true rfl), (Nat.le_of_ble_eq_true rfl)⟩) g hK (by decide) (by decide) (fx' := [(8, 8, q0_, .int x_260), (9, 9, q3_, .ref a_11), (2, 0, a0_, .ref q0_), (2, 1, a0_, .ref q1_), (2, 3, a0_, .ref q2_), (2, 4, a0_, .ref q3_), (2, 5, a0_, .ref q4_), (5, 1, q1_, .ref q5_)]) rfl (fun fr_264 H locs hp hMr_264 g => ?_)
      obtain ⟨x_265, h_266, hF_267⟩ := hp
      have g := g.more hF_267
      refine lv_aload_n hx hb dX2_readMemberHead_177 rfl (lv_at hl 4 rfl) ?_
      refine g_getk (C := RX2) (T := TX2) (N := 16) hx hb hts (mc_ inX2) hown hK g rfl 0 (by decide) rfl (hts _ (List.mem_cons_of_mem _ t_416)) (fun _ h9 => h9) 3 rfl dX2_readMemberHead_178 ?_
      refine g_calli (va_runV (As := []) (rest := []) ⟨hx, hb, hml, hown, hts⟩ (r_X8_kind_2 l dC dI L kd tys fr_264 H.size g.2.2.2.1 q0_ mq0_ kq0_ x_265 h_266 (g.fcts [0] rfl)) (cwV 0 hts (gV_ t_1118 t_1119 t_1120 t_184 t_1121) rfl rfl rfl (by decide +kernel) ⟨(Nat.le_of_ble_eq_true rfl), (Nat.le_of_ble_eq_true rfl)⟩) (pre3V g hK mq0_ kq0_ (by decide) (q := (RX8, TX8, 10)) rfl) rfl rfl hl.1 rfl (lv_room (Nat.le_of_ble_eq_true rfl)) dX2_readMemberHead_181 ⟨(Nat.le_of_ble_eq_true rfl), (Nat.le_of_ble_eq_true rfl)⟩) g hK (by decide) (by decide) (fx' := [(8, 6, q0_, .int x_265), (8, 8, q0_, .int x_260), (9, 9, q3_, .ref a_11), (2, 0, a0_, .ref q0_), (2, 1, a0_, .ref q1_), (2, 3, a0_, .ref q2_), (2, 4, a0_, .ref q3_), (2, 5, a0_, .ref q4_), (5, 1, q1_, .ref q5_)]) rfl (fun r_268 fr_268 H locs hp hMr_268 g => ?_)
      obtain ⟨h_269, -⟩ := hp
      obtain rfl : r_268 = 0 := h_269
      refine lv_bipush (v := 41) hx hb dX2_readMemberHead_184 (by decide) ?_
      refine lv_icmp_eq (tgt := 193) hx hb dX2_readMemberHead_186 (by decide) (fun c_ => absurd c_ (by decide)) (fun c_ => ?_)
      refine lv_iconst (v := 1) hx hb dX2_readMemberHead_189 (by decide) ?_
      refine lv_goto (tgt := 194) hx hb dX2_readMemberHead_190 (by decide) ?_
      refine lv_istore (lv' := [(6, .int 1), (5, .int x_12), (4, .int r_7), (2, .long r_6), (1, .int r_5), (0, .ref a0_)]) hx hb dX2_readMemberHead_194 hl (by decide) rfl (fun ls hl => ?_)
      refine lv_iconst (v := 0) hx hb dX2_readMemberHead_196 (by decide) ?_
      refine lv_istore (lv' := [(7, .int 0), (6, .int 1), (5, .int x_12), (4, .int r_7), (2, .long r_6), (1, .int r_5), (0, .ref a0_)]) hx hb dX2_readMemberHead_197 hl (by decide) rfl (fun ls hl => ?_)
      have loop_270 : ∀ (n : Nat) (v199_7 : Int32) (v199_6 : Int32) (w199_8_6_q0_ : Int32), bd 0 4 v199_7 → bd 0 1 v199_6 → bd 1201 1201 w199_8_6_q0_ → (4 - v199_7.toInt < (n : Int)) → ∀ (f : Nat → va_E) (H : Heap) (locs : List Loc) (ls : Array Slot), G3 (dC, dI) L kd tys s f0 [(2, 5), (2, 6), (5, 4), (6, 0), (6, 1), (6, 2), (6, 3), (6, 6), (6, 7), (6, 8), (6, 9), (6, 10), (6, 11), (6, 12), (7, 3), (8, 6), (8, 8), (8, 9), (9, 8)] [132, 134, 135, 156] f H locs [(8, 6, q0_, .int w199_8_6_q0_), (8, 8, q0_, .int x_260), (9, 9, q3_, .ref a_11), (2, 0, a0_, .ref q0_), (2, 1, a0_, .ref q1_), (2, 3, a0_, .ref q2_), (2, 4, a0_, .ref q3_), (2, 5, a0_, .ref q4_), (5, 1, q1_, .ref q5_)] → lv_has ls 8 [(7, .int v199_7), (6, .int v199_6), (5, .int x_12), (4, .int r_7), (2, .long r_6), (1, .int r_5), (0, .ref a0_)] → W p l e ({ frames := 3, cells := 0, slots := 0, locals := 72 } : Room) s m [.ref a0_].toArray below meth c H locs 0 0 Q (F0 m 199 ls []) := by
        intro n199
        induction n199 with
        | zero =>
          intro v199_7 v199_6 w199_8_6_q0_ bv199_7 bv199_6 bw199_8_6_q0_ hm199 f H locs ls g  hl
          exact absurd hm199 (by have h9_v199_7 := bv199_7; unfold bd at h9_v199_7; have h9_v199_6 := bv199_6; unfold bd at h9_v199_6; have h9_w199_8_6_q0_ := bw199_8_6_q0_; unfold bd at h9_w199_8_6_q0_; omega)
        | succ n199 ih199 =>
          intro v199_7 v199_6 w199_8_6_q0_ bv199_7 bv199_6 bw199_8_6_q0_ hm199 f H locs ls g  hl
          refine lv_iload hx hb dX2_readMemberHead_199 (lv_at hl 0 rfl) ?_
          refine lv_iconst (v := 3) hx hb dX2_readMemberHead_201 (by decide) ?_
          refine lv_icmp_gt (tgt := 251) hx hb dX2_readMemberHead_202 (by decide) (fun c_271 => ?_) (fun c_271 => ?_)
          · have fc_271 := lt_f c_271
            have b_272 : bd 4 4 v199_7 := ltR fc_271 kb_3 bv199_7 (by decide)
            refine lv_aload_n hx hb dX2_readMemberHead_251 rfl (lv_at hl 6 rfl) ?_
            refine g_getk (C := RX2) (T := TX2) (N := 16) hx hb hts (mc_ inX2) hown hK g rfl 0 (by decide) rfl (hts _ (List.mem_cons_of_mem _ t_416)) (fun _ h9 => h9) 3 rfl dX2_readMemberHead_252 ?_
            refine g_calli (va_runV (As := []) (rest := []) ⟨hx, hb, hml, hown, hts⟩ (r_X8_place l dC dI L kd tys f H.size g.2.2.2.1 q0_ mq0_ kq0_) (cwV 0 hts (gV_ t_1110 t_1111 t_1112 t_184 t_1113) rfl rfl rfl (by decide +kernel) ⟨(Nat.le_of_ble_eq_true rfl), (Nat.le_of_ble_eq_true rfl)⟩) (pre3V g hK mq0_ kq0_ (by decide) (q := (RX8, TX8, 10)) rfl) rfl rfl hl.1 rfl (lv_room (Nat.le_of_ble_eq_true rfl)) dX2_readMemberHead_255 ⟨(Nat.le_of_ble_eq_true rfl), (Nat.le_of_ble_eq_true rfl)⟩) g hK (by decide) (by decide) (fx' := [(8, 6, q0_, .int w199_8_6_q0_), (8, 8, q0_, .int x_260), (9, 9, q3_, .ref a_11), (2, 0, a0_, .ref q0_), (2, 1, a0_, .ref q1_), (2, 3, a0_, .ref q2_), (2, 4, a0_, .ref q3_), (2, 5, a0_, .ref q4_), (5, 1, q1_, .ref q5_)]) rfl (fun r_273 fr_273 H locs hp hMr_273 g => ?_)
            refine lv_istore (lv' := [(7, .int r_273), (6, .int v199_6), (5, .int x_12), (4, .int r_7), (2, .long r_6), (1, .int r_5), (0, .ref a0_)]) hx hb dX2_readMemberHead_258 hl (by decide) rfl (fun ls hl => ?_)
            refine lv_aload_n hx hb dX2_readMemberHead_260 rfl (lv_at hl 6 rfl) ?_
            refine g_getk (C := RX2) (T := TX2) (N := 16) hx hb hts (mc_ inX2) hown hK g rfl 0 (by decide) rfl (hts _ (List.mem_cons_of_mem _ t_416)) (fun _ h9 => h9) 3 rfl dX2_readMemberHead_261 ?_
            refine lv_bipush (v := 41) hx hb dX2_readMemberHead_264 (by decide) ?_
            refine g_callv (va_runV (As := [.int 41]) (rest := []) ⟨hx, hb, hml, hown, hts⟩ (r_X8_take_2 l dC dI L kd tys fr_273 H.size g.2.2.2.1 q0_ mq0_ kq0_ 41 w199_8_6_q0_ bw199_8_6_q0_ x_260 h_261 (g.fcts [0, 1] rfl)) (cwV 1 hts (gV_ t_1098 t_1099 t_1100 t_184 t_1101) rfl rfl rfl (by decide +kernel) ⟨(Nat.le_of_ble_eq_true rfl), (Nat.le_of_ble_eq_true rfl)⟩) (pre3V g hK mq0_ kq0_ (by decide) (q := (RX8, TX8, 10)) rfl) rfl rfl hl.1 rfl (lv_room (Nat.le_of_ble_eq_true rfl)) dX2_readMemberHead_266 ⟨(Nat.le_of_ble_eq_true rfl), (Nat.le_of_ble_eq_true rfl)⟩) g hK (by decide) (by decide) (fx' := [(8, 8, q0_, .int x_260), (9, 9, q3_, .ref a_11), (2, 0, a0_, .ref q0_), (2, 1, a0_, .ref q1_), (2, 3, a0_, .ref q2_), (2, 4, a0_, .ref q3_), (2, 5, a0_, .ref q4_), (5, 1, q1_, .ref q5_)]) rfl (fun fr_274 H locs hp hMr_274 g => ?_)
            obtain ⟨x_275, h_276, hF_277⟩ := hp
            have g := g.more hF_277
            refine lv_iload hx hb dX2_readMemberHead_269 (lv_at hl 2 rfl) ?_
            refine lv_iconst (v := (-1)) hx hb dX2_readMemberHead_271 (by decide) ?_
            refine lv_icmp_eq (tgt := 308) hx hb dX2_readMemberHead_272 (by decide) (fun c_278 => ?_) (fun c_278 => ?_)
            · have fc_278 := eq_f c_278
              have b_279 : bd 0 (-1) x_12 := eqX fc_278 bx_12 kb_m1 (by decide)
              exact bd_no b_279 (by decide)
            · have fc_278 := neq_f c_278
              refine lv_aload_n hx hb dX2_readMemberHead_275 rfl (lv_at hl 6 rfl) ?_
              refine g_getk (C := RX2) (T := TX2) (N := 16) hx hb hts (mc_ inX2) hown hK g rfl 3 (by decide) rfl (hts _ (List.mem_cons_of_mem _ t_419)) (fun _ h9 => h9) 5 rfl dX2_readMemberHead_276 ?_
              refine g_getr (K := 137) (C := RX7) (T := TX7) (N := 19) hx hb hts (mc_ inX7) hown hK g mq2_ kq2_ (by decide) rfl 2 (by decide) rfl (hts _ (List.mem_cons_of_mem _ t_630)) (fun _ h9 => h9) rfl dX2_readMemberHead_279 (fun a_280 ma_280 ka_280 g => ?_)
              refine lv_iload hx hb dX2_readMemberHead_282 (lv_at hl 2 rfl) ?_
              refine g_aald hx hb hK g ma_280 ka_280 (by decide) rfl (by decide) (in_bd bx_12 (by decide)) dX2_readMemberHead_284 (fun a_281 ma_281 ua_281 wa_281 => ?_)
              have ka_281 : kd a_281 = 6 := by omega
              refine g_geti (C := RX6) (T := TX6) (N := 13) hx hb hts (mc_ inX6) hown hK g ma_281 ka_281 (by decide) rfl 3 (by decide) rfl (hts _ (List.mem_cons_of_mem _ t_568)) (fun _ h9 => h9) rfl dX2_readMemberHead_285 (fun x_282 bx_282 g => ?_)
              refine lv_aload_n hx hb dX2_readMemberHead_288 rfl (lv_at hl 6 rfl) ?_
              refine g_getk (C := RX2) (T := TX2) (N := 16) hx hb hts (mc_ inX2) hown hK g rfl 5 (by decide) rfl (hts _ (List.mem_cons_of_mem _ t_421)) (fun _ h9 => h9) 9 rfl dX2_readMemberHead_289 ?_
              refine g_geti (C := RX6) (T := TX6) (N := 13) hx hb hts (mc_ inX6) hown hK g mq4_ kq4_ (by decide) rfl 3 (by decide) rfl (hts _ (List.mem_cons_of_mem _ t_568)) (fun _ h9 => h9) rfl dX2_readMemberHead_292 (fun x_283 bx_283 g => ?_)
              refine lv_icmp_eq (tgt := 308) hx hb dX2_readMemberHead_295 (by decide) (fun c_284 => ?_) (fun c_284 => ?_)
              · have fc_284 := eq_f c_284
                subst hQ
                exact W.vret hx hb hr (fun t ht hW => ⟨⟨_, rfl, Or.inl ⟨x_275, h_276, x_260, h_261, q4_, ⟨mq4_, kq4_⟩, (g.fcts [3, 4, 10] rfl)⟩, q3_of g hK ht hW⟩, g.2.2.1.F ht⟩) g.2.2.1.2.2 dX2_readMemberHead_308
              · have fc_284 := neq_f c_284
                refine lv_aload_n hx hb dX2_readMemberHead_298 rfl (lv_at hl 6 rfl) ?_
                refine g_getk (C := RX2) (T := TX2) (N := 16) hx hb hts (mc_ inX2) hown hK g rfl 0 (by decide) rfl (hts _ (List.mem_cons_of_mem _ t_416)) (fun _ h9 => h9) 6 rfl dX2_readMemberHead_299 ?_
                refine lv_iconst (v := 5) hx hb dX2_readMemberHead_302 (by decide) ?_
                refine lv_iload hx hb dX2_readMemberHead_303 (lv_at hl 0 rfl) ?_
                have kb_5 : bd 5 5 (5 : Int32) := ⟨by decide, by decide⟩
                refine g_callv (va_runV (As := [.int 5, .int r_273]) (rest := []) ⟨hx, hb, hml, hown, hts⟩ (r_X8_fail_9 l dC dI L kd tys fr_274 H.size g.2.2.2.1 q0_ mq0_ kq0_ 5 kb_5 r_273 x_260 h_261 (g.fcts [4] rfl)) (cwV 2 hts (gV_ t_1122 t_1107 t_1108 t_184 t_1109) rfl rfl rfl (by decide +kernel) ⟨(Nat.le_of_ble_eq_true rfl), (Nat.le_of_ble_eq_true rfl)⟩) (pre3V g hK mq0_ kq0_ (by decide) (q := (RX8, TX8, 10)) rfl) rfl rfl hl.1 rfl (lv_room (Nat.le_of_ble_eq_true rfl)) dX2_readMemberHead_305 ⟨(Nat.le_of_ble_eq_true rfl), (Nat.le_of_ble_eq_true rfl)⟩) g hK (by decide) (by decide) (fx' := [(6, 3, q4_, .int x_283), (6, 3, a_281, .int x_282), (7, 2, q2_, .ref a_280), (8, 8, q0_, .int x_260), (9, 9, q3_, .ref a_11), (2, 0, a0_, .ref q0_), (2, 1, a0_, .ref q1_), (2, 3, a0_, .ref q2_), (2, 4, a0_, .ref q3_), (2, 5, a0_, .ref q4_), (5, 1, q1_, .ref q5_)]) rfl (fun fr_285 H locs hp hMr_285 g => ?_)
                have hF_286 := hp
                have g := g.more hF_286
                subst hQ
                exact W.vret hx hb hr (fun t ht hW => ⟨⟨_, rfl, Or.inl ⟨1201, kb_1201, x_260, h_261, q4_, ⟨mq4_, kq4_⟩, (g.fcts [0, 4, 10] rfl)⟩, q3_of g hK ht hW⟩, g.2.2.1.F ht⟩) g.2.2.1.2.2 dX2_readMemberHead_308
          · have fc_271 := nlt_f c_271
            have b_287 : bd 0 3 v199_7 := leL fc_271 bv199_7 kb_3 (by decide)
            refine lv_iload hx hb dX2_readMemberHead_205 (lv_at hl 1 rfl) ?_
            have kb_0 : bd 0 0 (0 : Int32) := ⟨by decide, by decide⟩
            refine lv_if_eq (tgt := 251) hx hb dX2_readMemberHead_207 (by decide) (fun c_288 => ?_) (fun c_288 => ?_)
            · have fc_288 := eq_f c_288
              have b_289 : bd 0 0 v199_6 := eqX fc_288 bv199_6 kb_0 (by decide)
              refine lv_aload_n hx hb dX2_readMemberHead_251 rfl (lv_at hl 6 rfl) ?_
              refine g_getk (C := RX2) (T := TX2) (N := 16) hx hb hts (mc_ inX2) hown hK g rfl 0 (by decide) rfl (hts _ (List.mem_cons_of_mem _ t_416)) (fun _ h9 => h9) 3 rfl dX2_readMemberHead_252 ?_
              refine g_calli (va_runV (As := []) (rest := []) ⟨hx, hb, hml, hown, hts⟩ (r_X8_place l dC dI L kd tys f H.size g.2.2.2.1 q0_ mq0_ kq0_) (cwV 0 hts (gV_ t_1110 t_1111 t_1112 t_184 t_1113) rfl rfl rfl (by decide +kernel) ⟨(Nat.le_of_ble_eq_true rfl), (Nat.le_of_ble_eq_true rfl)⟩) (pre3V g hK mq0_ kq0_ (by decide) (q := (RX8, TX8, 10)) rfl) rfl rfl hl.1 rfl (lv_room (Nat.le_of_ble_eq_true rfl)) dX2_readMemberHead_255 ⟨(Nat.le_of_ble_eq_true rfl), (Nat.le_of_ble_eq_true rfl)⟩) g hK (by decide) (by decide) (fx' := [(8, 6, q0_, .int w199_8_6_q0_), (8, 8, q0_, .int x_260), (9, 9, q3_, .ref a_11), (2, 0, a0_, .ref q0_), (2, 1, a0_, .ref q1_), (2, 3, a0_, .ref q2_), (2, 4, a0_, .ref q3_), (2, 5, a0_, .ref q4_), (5, 1, q1_, .ref q5_)]) rfl (fun r_290 fr_290 H locs hp hMr_290 g => ?_)
              refine lv_istore (lv' := [(7, .int r_290), (6, .int v199_6), (5, .int x_12), (4, .int r_7), (2, .long r_6), (1, .int r_5), (0, .ref a0_)]) hx hb dX2_readMemberHead_258 hl (by decide) rfl (fun ls hl => ?_)
              refine lv_aload_n hx hb dX2_readMemberHead_260 rfl (lv_at hl 6 rfl) ?_
              refine g_getk (C := RX2) (T := TX2) (N := 16) hx hb hts (mc_ inX2) hown hK g rfl 0 (by decide) rfl (hts _ (List.mem_cons_of_mem _ t_416)) (fun _ h9 => h9) 3 rfl dX2_readMemberHead_261 ?_
              refine lv_bipush (v := 41) hx hb dX2_readMemberHead_264 (by decide) ?_
              refine g_callv (va_runV (As := [.int 41]) (rest := []) ⟨hx, hb, hml, hown, hts⟩ (r_X8_take_2 l dC dI L kd tys fr_290 H.size g.2.2.2.1 q0_ mq0_ kq0_ 41 w199_8_6_q0_ bw199_8_6_q0_ x_260 h_261 (g.fcts [0, 1] rfl)) (cwV 1 hts (gV_ t_1098 t_1099 t_1100 t_184 t_1101) rfl rfl rfl (by decide +kernel) ⟨(Nat.le_of_ble_eq_true rfl), (Nat.le_of_ble_eq_true rfl)⟩) (pre3V g hK mq0_ kq0_ (by decide) (q := (RX8, TX8, 10)) rfl) rfl rfl hl.1 rfl (lv_room (Nat.le_of_ble_eq_true rfl)) dX2_readMemberHead_266 ⟨(Nat.le_of_ble_eq_true rfl), (Nat.le_of_ble_eq_true rfl)⟩) g hK (by decide) (by decide) (fx' := [(8, 8, q0_, .int x_260), (9, 9, q3_, .ref a_11), (2, 0, a0_, .ref q0_), (2, 1, a0_, .ref q1_), (2, 3, a0_, .ref q2_), (2, 4, a0_, .ref q3_), (2, 5, a0_, .ref q4_), (5, 1, q1_, .ref q5_)]) rfl (fun fr_291 H locs hp hMr_291 g => ?_)
              obtain ⟨x_292, h_293, hF_294⟩ := hp
              have g := g.more hF_294
              refine lv_iload hx hb dX2_readMemberHead_269 (lv_at hl 2 rfl) ?_
              refine lv_iconst (v := (-1)) hx hb dX2_readMemberHead_271 (by decide) ?_
              refine lv_icmp_eq (tgt := 308) hx hb dX2_readMemberHead_272 (by decide) (fun c_295 => ?_) (fun c_295 => ?_)
              · have fc_295 := eq_f c_295
                have b_296 : bd 0 (-1) x_12 := eqX fc_295 bx_12 kb_m1 (by decide)
                exact bd_no b_296 (by decide)
              · have fc_295 := neq_f c_295
                refine lv_aload_n hx hb dX2_readMemberHead_275 rfl (lv_at hl 6 rfl) ?_
                refine g_getk (C := RX2) (T := TX2) (N := 16) hx hb hts (mc_ inX2) hown hK g rfl 3 (by decide) rfl (hts _ (List.mem_cons_of_mem _ t_419)) (fun _ h9 => h9) 5 rfl dX2_readMemberHead_276 ?_
                refine g_getr (K := 137) (C := RX7) (T := TX7) (N := 19) hx hb hts (mc_ inX7) hown hK g mq2_ kq2_ (by decide) rfl 2 (by decide) rfl (hts _ (List.mem_cons_of_mem _ t_630)) (fun _ h9 => h9) rfl dX2_readMemberHead_279 (fun a_297 ma_297 ka_297 g => ?_)
                refine lv_iload hx hb dX2_readMemberHead_282 (lv_at hl 2 rfl) ?_
                refine g_aald hx hb hK g ma_297 ka_297 (by decide) rfl (by decide) (in_bd bx_12 (by decide)) dX2_readMemberHead_284 (fun a_298 ma_298 ua_298 wa_298 => ?_)
                have ka_298 : kd a_298 = 6 := by omega
                refine g_geti (C := RX6) (T := TX6) (N := 13) hx hb hts (mc_ inX6) hown hK g ma_298 ka_298 (by decide) rfl 3 (by decide) rfl (hts _ (List.mem_cons_of_mem _ t_568)) (fun _ h9 => h9) rfl dX2_readMemberHead_285 (fun x_299 bx_299 g => ?_)
                refine lv_aload_n hx hb dX2_readMemberHead_288 rfl (lv_at hl 6 rfl) ?_
                refine g_getk (C := RX2) (T := TX2) (N := 16) hx hb hts (mc_ inX2) hown hK g rfl 5 (by decide) rfl (hts _ (List.mem_cons_of_mem _ t_421)) (fun _ h9 => h9) 9 rfl dX2_readMemberHead_289 ?_
                refine g_geti (C := RX6) (T := TX6) (N := 13) hx hb hts (mc_ inX6) hown hK g mq4_ kq4_ (by decide) rfl 3 (by decide) rfl (hts _ (List.mem_cons_of_mem _ t_568)) (fun _ h9 => h9) rfl dX2_readMemberHead_292 (fun x_300 bx_300 g => ?_)
                refine lv_icmp_eq (tgt := 308) hx hb dX2_readMemberHead_295 (by decide) (fun c_301 => ?_) (fun c_301 => ?_)
                · have fc_301 := eq_f c_301
                  subst hQ
                  exact W.vret hx hb hr (fun t ht hW => ⟨⟨_, rfl, Or.inl ⟨x_292, h_293, x_260, h_261, q4_, ⟨mq4_, kq4_⟩, (g.fcts [3, 4, 10] rfl)⟩, q3_of g hK ht hW⟩, g.2.2.1.F ht⟩) g.2.2.1.2.2 dX2_readMemberHead_308
                · have fc_301 := neq_f c_301
                  refine lv_aload_n hx hb dX2_readMemberHead_298 rfl (lv_at hl 6 rfl) ?_
                  refine g_getk (C := RX2) (T := TX2) (N := 16) hx hb hts (mc_ inX2) hown hK g rfl 0 (by decide) rfl (hts _ (List.mem_cons_of_mem _ t_416)) (fun _ h9 => h9) 6 rfl dX2_readMemberHead_299 ?_
                  refine lv_iconst (v := 5) hx hb dX2_readMemberHead_302 (by decide) ?_
                  refine lv_iload hx hb dX2_readMemberHead_303 (lv_at hl 0 rfl) ?_
                  have kb_5 : bd 5 5 (5 : Int32) := ⟨by decide, by decide⟩
                  refine g_callv (va_runV (As := [.int 5, .int r_290]) (rest := []) ⟨hx, hb, hml, hown, hts⟩ (r_X8_fail_9 l dC dI L kd tys fr_291 H.size g.2.2.2.1 q0_ mq0_ kq0_ 5 kb_5 r_290 x_260 h_261 (g.fcts [4] rfl)) (cwV 2 hts (gV_ t_1122 t_1107 t_1108 t_184 t_1109) rfl rfl rfl (by decide +kernel) ⟨(Nat.le_of_ble_eq_true rfl), (Nat.le_of_ble_eq_true rfl)⟩) (pre3V g hK mq0_ kq0_ (by decide) (q := (RX8, TX8, 10)) rfl) rfl rfl hl.1 rfl (lv_room (Nat.le_of_ble_eq_true rfl)) dX2_readMemberHead_305 ⟨(Nat.le_of_ble_eq_true rfl), (Nat.le_of_ble_eq_true rfl)⟩) g hK (by decide) (by decide) (fx' := [(6, 3, q4_, .int x_300), (6, 3, a_298, .int x_299), (7, 2, q2_, .ref a_297), (8, 8, q0_, .int x_260), (9, 9, q3_, .ref a_11), (2, 0, a0_, .ref q0_), (2, 1, a0_, .ref q1_), (2, 3, a0_, .ref q2_), (2, 4, a0_, .ref q3_), (2, 5, a0_, .ref q4_), (5, 1, q1_, .ref q5_)]) rfl (fun fr_302 H locs hp hMr_302 g => ?_)
                  have hF_303 := hp
                  have g := g.more hF_303
                  subst hQ
                  exact W.vret hx hb hr (fun t ht hW => ⟨⟨_, rfl, Or.inl ⟨1201, kb_1201, x_260, h_261, q4_, ⟨mq4_, kq4_⟩, (g.fcts [0, 4, 10] rfl)⟩, q3_of g hK ht hW⟩, g.2.2.1.F ht⟩) g.2.2.1.2.2 dX2_readMemberHead_308
            · have fc_288 := neq_f c_288
              have b_304 : bd 1 1 v199_6 := neX fc_288 bv199_6 kb_0 (by decide)
              refine lv_aload_n hx hb dX2_readMemberHead_210 rfl (lv_at hl 6 rfl) ?_
              refine g_callv (va_runV (As := []) (rest := []) ⟨hx, hb, hml, hown, hts⟩ (r_X2_readParam_2 l dC dI L kd tys f H.size g.2.2.2.1 a0_ ma0_ ka0_ q0_ mq0_ kq0_ q1_ mq1_ kq1_ q4_ mq4_ kq4_ q5_ mq5_ kq5_ w199_8_6_q0_ bw199_8_6_q0_ x_260 h_261 (g.fcts [3, 4, 7, 8, 0, 1] rfl)) (cwV 0 hts (gV_ t_1313 t_1315 t_34 t_183 t_1316) rfl rfl rfl (by decide +kernel) ⟨(Nat.le_of_ble_eq_true rfl), (Nat.le_of_ble_eq_true rfl)⟩) (pre3V g hK ma0_ ka0_ (by decide) (q := (RX2, TX2, 16)) rfl) rfl rfl hl.1 rfl (lv_room (Nat.le_of_ble_eq_true rfl)) dX2_readMemberHead_211 ⟨(Nat.le_of_ble_eq_true rfl), (Nat.le_of_ble_eq_true rfl)⟩) g hK (by decide) (by decide) (fx' := [(8, 8, q0_, .int x_260), (9, 9, q3_, .ref a_11), (2, 0, a0_, .ref q0_), (2, 1, a0_, .ref q1_), (2, 3, a0_, .ref q2_), (2, 4, a0_, .ref q3_), (2, 5, a0_, .ref q4_), (5, 1, q1_, .ref q5_)]) rfl (fun fr_305 H locs hp hMr_305 g => ?_)
              have hF_306 := hp
              have g := g.more hF_306
              refine lv_aload_n hx hb dX2_readMemberHead_214 rfl (lv_at hl 6 rfl) ?_
              refine g_getk (C := RX2) (T := TX2) (N := 16) hx hb hts (mc_ inX2) hown hK g rfl 0 (by decide) rfl (hts _ (List.mem_cons_of_mem _ t_416)) (fun _ h9 => h9) 3 rfl dX2_readMemberHead_215 ?_
              refine g_calli (va_runV (As := []) (rest := []) ⟨hx, hb, hml, hown, hts⟩ (r_X8_kind_2 l dC dI L kd tys fr_305 H.size g.2.2.2.1 q0_ mq0_ kq0_ 1201 kb_1201 (g.fcts [0] rfl)) (cwV 0 hts (gV_ t_1118 t_1119 t_1120 t_184 t_1121) rfl rfl rfl (by decide +kernel) ⟨(Nat.le_of_ble_eq_true rfl), (Nat.le_of_ble_eq_true rfl)⟩) (pre3V g hK mq0_ kq0_ (by decide) (q := (RX8, TX8, 10)) rfl) rfl rfl hl.1 rfl (lv_room (Nat.le_of_ble_eq_true rfl)) dX2_readMemberHead_218 ⟨(Nat.le_of_ble_eq_true rfl), (Nat.le_of_ble_eq_true rfl)⟩) g hK (by decide) (by decide) (fx' := [(8, 6, q0_, .int 1201), (8, 8, q0_, .int x_260), (9, 9, q3_, .ref a_11), (2, 0, a0_, .ref q0_), (2, 1, a0_, .ref q1_), (2, 3, a0_, .ref q2_), (2, 4, a0_, .ref q3_), (2, 5, a0_, .ref q4_), (5, 1, q1_, .ref q5_)]) rfl (fun r_307 fr_307 H locs hp hMr_307 g => ?_)
              obtain ⟨h_308, -⟩ := hp
              obtain rfl : r_307 = 0 := h_308
              refine lv_bipush (v := 44) hx hb dX2_readMemberHead_221 (by decide) ?_
              refine lv_icmp_ne (tgt := 230) hx hb dX2_readMemberHead_223 (by decide) (fun c_ => ?_) (fun c_ => absurd c_ (by decide))
              refine lv_iconst (v := 0) hx hb dX2_readMemberHead_230 (by decide) ?_
              refine lv_istore (lv' := [(6, .int 0), (7, .int v199_7), (5, .int x_12), (4, .int r_7), (2, .long r_6), (1, .int r_5), (0, .ref a0_)]) hx hb dX2_readMemberHead_231 hl (by decide) rfl (fun ls hl => ?_)
              refine lv_iload hx hb dX2_readMemberHead_233 (lv_at hl 0 rfl) ?_
              refine lv_if_eq (tgt := 245) hx hb dX2_readMemberHead_235 (by decide) (fun c_ => ?_) (fun c_ => absurd (by decide) c_)
              obtain ⟨y_309, ey_309⟩ : ∃ z : Int32, z = v199_7 + 1 := ⟨_, rfl⟩
              refine lv_iinc (v := y_309) (lv' := [(7, .int y_309), (6, .int 0), (5, .int x_12), (4, .int r_7), (2, .long r_6), (1, .int r_5), (0, .ref a0_)]) hx hb dX2_readMemberHead_245 hl (k := 1) rfl (by rw [ey_309]; rfl) (by decide) rfl (fun ls hl => ?_)
              have ty_309 := add_bd ey_309 b_287 kb_1 (by decide)
              have b_310 : bd 1 4 y_309 := add_rg ty_309 b_287 kb_1 (by decide)
              refine lv_goto (tgt := 199) hx hb dX2_readMemberHead_248 (by decide) ?_
              have hl9 := lv_sub hl [0, 1, 2, 3, 4, 5, 6] (by rfl : lv_pick [(7, .int y_309), (6, .int 0), (5, .int x_12), (4, .int r_7), (2, .long r_6), (1, .int r_5), (0, .ref a0_)] [0, 1, 2, 3, 4, 5, 6] = [(7, .int y_309), (6, .int 0), (5, .int x_12), (4, .int r_7), (2, .long r_6), (1, .int r_5), (0, .ref a0_)])
              have g9 := g.sub (fx' := [(8, 6, q0_, .int 1201), (8, 8, q0_, .int x_260), (9, 9, q3_, .ref a_11), (2, 0, a0_, .ref q0_), (2, 1, a0_, .ref q1_), (2, 3, a0_, .ref q2_), (2, 4, a0_, .ref q3_), (2, 5, a0_, .ref q4_), (5, 1, q1_, .ref q5_)]) [0, 1, 2, 3, 4, 5, 6, 7, 8] rfl
              exact ih199  y_309 0 1201 (bd_sub b_310 (by decide)) (bd_sub kb_0 (by decide)) kb_1201 (by have h9_0 := b_310; unfold bd at h9_0; have h9_1 := bv199_6; unfold bd at h9_1; have h9_2 := bv199_7; unfold bd at h9_2; have h9_3 := bw199_8_6_q0_; unfold bd at h9_3; have h9_4 := kb_0; unfold bd at h9_4; have h9_5 := kb_1; unfold bd at h9_5; have h9_6 := kb_1201; unfold bd at h9_6; have h9_7 := kb_3; unfold bd at h9_7; have h9_8 := kb_m1; unfold bd at h9_8; omega) _ _ _ _ g9  hl9
      have kb_0 : bd 0 0 (0 : Int32) := ⟨by decide, by decide⟩
      have hl9 := lv_sub hl [0, 1, 2, 3, 4, 5, 6] (by rfl : lv_pick [(7, .int 0), (6, .int 1), (5, .int x_12), (4, .int r_7), (2, .long r_6), (1, .int r_5), (0, .ref a0_)] [0, 1, 2, 3, 4, 5, 6] = [(7, .int 0), (6, .int 1), (5, .int x_12), (4, .int r_7), (2, .long r_6), (1, .int r_5), (0, .ref a0_)])
      have g9 := g.sub (fx' := [(8, 6, q0_, .int x_265), (8, 8, q0_, .int x_260), (9, 9, q3_, .ref a_11), (2, 0, a0_, .ref q0_), (2, 1, a0_, .ref q1_), (2, 3, a0_, .ref q2_), (2, 4, a0_, .ref q3_), (2, 5, a0_, .ref q4_), (5, 1, q1_, .ref q5_)]) [0, 1, 2, 3, 4, 5, 6, 7, 8] rfl
      exact loop_270 (11) 0 1 x_265 (bd_sub kb_0 (by decide)) (bd_sub kb_1 (by decide)) h_266 (by have h9_0 := h_266; unfold bd at h9_0; have h9_1 := kb_0; unfold bd at h9_1; have h9_2 := kb_1; unfold bd at h9_2; have h9_3 := kb_1201; unfold bd at h9_3; have h9_4 := kb_3; unfold bd at h9_4; have h9_5 := kb_m1; unfold bd at h9_5; omega) _ _ _ _ g9  hl9
  · have fc_9 := eq_f c_9
    have b_311 : bd (-1) (-1) r_7 := eqX fc_9 h_8 kb_m1 (by decide)
    refine lv_iconst (v := (-1)) hx hb dX2_readMemberHead_43 (by decide) ?_
    refine lv_goto (tgt := 57) hx hb dX2_readMemberHead_44 (by decide) ?_
    refine lv_istore (lv' := [(5, .int (-1)), (4, .int r_7), (2, .long r_6), (1, .int r_5), (0, .ref a0_)]) hx hb dX2_readMemberHead_57 hl (by decide) rfl (fun ls hl => ?_)
    refine lv_aload_n hx hb dX2_readMemberHead_59 rfl (lv_at hl 4 rfl) ?_
    refine g_getk (C := RX2) (T := TX2) (N := 16) hx hb hts (mc_ inX2) hown hK g rfl 0 (by decide) rfl (hts _ (List.mem_cons_of_mem _ t_416)) (fun _ h9 => h9) 1 rfl dX2_readMemberHead_60 ?_
    refine g_calli (va_runV (As := []) (rest := []) ⟨hx, hb, hml, hown, hts⟩ (r_X8_kind l dC dI L kd tys fr_7 H.size g.2.2.2.1 q0_ mq0_ kq0_) (cwV 0 hts (gV_ t_1118 t_1119 t_1120 t_184 t_1121) rfl rfl rfl (by decide +kernel) ⟨(Nat.le_of_ble_eq_true rfl), (Nat.le_of_ble_eq_true rfl)⟩) (pre3V g hK mq0_ kq0_ (by decide) (q := (RX8, TX8, 10)) rfl) rfl rfl hl.1 rfl (lv_room (Nat.le_of_ble_eq_true rfl)) dX2_readMemberHead_63 ⟨(Nat.le_of_ble_eq_true rfl), (Nat.le_of_ble_eq_true rfl)⟩) g hK (by decide) (by decide) (fx' := [(8, 6, q0_, .int x_2), (2, 0, a0_, .ref q0_), (2, 1, a0_, .ref q1_), (2, 3, a0_, .ref q2_), (2, 4, a0_, .ref q3_), (2, 5, a0_, .ref q4_), (5, 1, q1_, .ref q5_)]) rfl (fun r_312 fr_312 H locs hp hMr_312 g => ?_)
    refine lv_iconst (v := 3) hx hb dX2_readMemberHead_66 (by decide) ?_
    have kb_3 : bd 3 3 (3 : Int32) := ⟨by decide, by decide⟩
    refine lv_icmp_eq (tgt := 82) hx hb dX2_readMemberHead_67 (by decide) (fun c_313 => ?_) (fun c_313 => ?_)
    · have fc_313 := eq_f c_313
      have b_314 : bd 3 3 r_312 := eqX fc_313 (bdT r_312) kb_3 (by decide)
      refine lv_iload hx hb dX2_readMemberHead_82 (lv_at hl 0 rfl) ?_
      refine lv_iconst (v := (-1)) hx hb dX2_readMemberHead_84 (by decide) ?_
      refine lv_icmp_eq (tgt := 123) hx hb dX2_readMemberHead_85 (by decide) (fun c_ => ?_) (fun c_ => absurd (by decide) c_)
      refine lv_iload hx hb dX2_readMemberHead_123 (lv_at hl 0 rfl) ?_
      refine lv_iconst (v := (-1)) hx hb dX2_readMemberHead_125 (by decide) ?_
      refine lv_icmp_ne (tgt := 153) hx hb dX2_readMemberHead_126 (by decide) (fun c_ => absurd c_ (by decide)) (fun c_ => ?_)
      refine lv_aload_n hx hb dX2_readMemberHead_129 rfl (lv_at hl 4 rfl) ?_
      refine g_getk (C := RX2) (T := TX2) (N := 16) hx hb hts (mc_ inX2) hown hK g rfl 4 (by decide) rfl (hts _ (List.mem_cons_of_mem _ t_420)) (fun _ h9 => h9) 4 rfl dX2_readMemberHead_130 ?_
      refine g_geti (C := RX9) (T := TX9) (N := 13) hx hb hts (mc_ inX9) hown hK g mq3_ kq3_ (by decide) rfl 8 (by decide) rfl (hts _ (List.mem_cons_of_mem _ t_502)) (fun _ h9 => h9) rfl dX2_readMemberHead_133 (fun x_315 bx_315 g => ?_)
      refine lv_bipush (v := 12) hx hb dX2_readMemberHead_136 (by decide) ?_
      have kb_12 : bd 12 12 (12 : Int32) := ⟨by decide, by decide⟩
      refine lv_icmp_lt (tgt := 153) hx hb dX2_readMemberHead_138 (by decide) (fun c_316 => ?_) (fun c_316 => ?_)
      · have fc_316 := lt_f c_316
        have b_317 : bd 0 11 x_315 := ltL fc_316 bx_315 kb_12 (by decide)
        refine lv_aload_n hx hb dX2_readMemberHead_153 rfl (lv_at hl 4 rfl) ?_
        refine lv_lload_n hx hb dX2_readMemberHead_154 rfl (lv_at hl 2 rfl) ?_
        refine lv_iload_n hx hb dX2_readMemberHead_155 rfl (lv_at hl 3 rfl) ?_
        refine lv_iload hx hb dX2_readMemberHead_156 (lv_at hl 1 rfl) ?_
        refine g_callv (va_runV (As := [.long r_6, .int r_5, .int r_7]) (rest := []) ⟨hx, hb, hml, hown, hts⟩ (r_X2_beginTelling_2 l dC dI L kd tys fr_312 H.size g.2.2.2.1 a0_ ma0_ ka0_ r_6 r_5 r_7 b_311 q0_ mq0_ kq0_ q2_ mq2_ kq2_ q3_ mq3_ kq3_ x_315 b_317 (g.fcts [2, 4, 5, 0] rfl)) (cwV 3 hts (gV_ t_1307 t_1309 t_33 t_183 t_1310) rfl rfl rfl (by decide +kernel) ⟨(Nat.le_of_ble_eq_true rfl), (Nat.le_of_ble_eq_true rfl)⟩) (pre3V g hK ma0_ ka0_ (by decide) (q := (RX2, TX2, 16)) rfl) rfl rfl hl.1 rfl (lv_room (Nat.le_of_ble_eq_true rfl)) dX2_readMemberHead_158 ⟨(Nat.le_of_ble_eq_true rfl), (Nat.le_of_ble_eq_true rfl)⟩) g hK (by decide) (by decide) (fx' := [(8, 6, q0_, .int x_2), (2, 0, a0_, .ref q0_), (2, 1, a0_, .ref q1_), (2, 3, a0_, .ref q2_), (2, 4, a0_, .ref q3_), (5, 1, q1_, .ref q5_)]) rfl (fun fr_318 H locs hp hMr_318 g => ?_)
        obtain ⟨x_319, h_320, a_321, ⟨ma_321, ka_321⟩, x_322, h_323, hF_324⟩ := hp
        have g := g.more hF_324
        refine lv_aload_n hx hb dX2_readMemberHead_161 rfl (lv_at hl 4 rfl) ?_
        refine g_getk (C := RX2) (T := TX2) (N := 16) hx hb hts (mc_ inX2) hown hK g rfl 0 (by decide) rfl (hts _ (List.mem_cons_of_mem _ t_416)) (fun _ h9 => h9) 5 rfl dX2_readMemberHead_162 ?_
        refine g_callv (va_runV (As := []) (rest := []) ⟨hx, hb, hml, hown, hts⟩ (r_X8_next l dC dI L kd tys fr_318 H.size g.2.2.2.1 q0_ mq0_ kq0_) (cwV 0 hts (gV_ t_1131 t_1103 t_1104 t_184 t_1105) rfl rfl rfl (by decide +kernel) ⟨(Nat.le_of_ble_eq_true rfl), (Nat.le_of_ble_eq_true rfl)⟩) (pre3V g hK mq0_ kq0_ (by decide) (q := (RX8, TX8, 10)) rfl) rfl rfl hl.1 rfl (lv_room (Nat.le_of_ble_eq_true rfl)) dX2_readMemberHead_165 ⟨(Nat.le_of_ble_eq_true rfl), (Nat.le_of_ble_eq_true rfl)⟩) g hK (by decide) (by decide) (fx' := [(2, 6, a0_, .int 0), (9, 8, q3_, .int x_319), (2, 5, a0_, .ref a_321), (7, 3, q2_, .int x_322), (2, 0, a0_, .ref q0_), (2, 1, a0_, .ref q1_), (2, 3, a0_, .ref q2_), (2, 4, a0_, .ref q3_), (5, 1, q1_, .ref q5_)]) rfl (fun fr_325 H locs hp hMr_325 g => ?_)
        obtain ⟨x_326, h_327, hF_328⟩ := hp
        have g := g.more hF_328
        refine lv_aload_n hx hb dX2_readMemberHead_168 rfl (lv_at hl 4 rfl) ?_
        refine g_getk (C := RX2) (T := TX2) (N := 16) hx hb hts (mc_ inX2) hown hK g rfl 0 (by decide) rfl (hts _ (List.mem_cons_of_mem _ t_416)) (fun _ h9 => h9) 5 rfl dX2_readMemberHead_169 ?_
        refine lv_bipush (v := 40) hx hb dX2_readMemberHead_172 (by decide) ?_
        refine g_callv (va_runV (As := [.int 40]) (rest := []) ⟨hx, hb, hml, hown, hts⟩ (r_X8_take l dC dI L kd tys fr_325 H.size g.2.2.2.1 q0_ mq0_ kq0_ 40) (cwV 1 hts (gV_ t_1098 t_1099 t_1100 t_184 t_1101) rfl rfl rfl (by decide +kernel) ⟨(Nat.le_of_ble_eq_true rfl), (Nat.le_of_ble_eq_true rfl)⟩) (pre3V g hK mq0_ kq0_ (by decide) (q := (RX8, TX8, 10)) rfl) rfl rfl hl.1 rfl (lv_room (Nat.le_of_ble_eq_true rfl)) dX2_readMemberHead_174 ⟨(Nat.le_of_ble_eq_true rfl), (Nat.le_of_ble_eq_true rfl)⟩) g hK (by decide) (by decide) (fx' := [(2, 6, a0_, .int 0), (9, 8, q3_, .int x_319), (2, 5, a0_, .ref a_321), (7, 3, q2_, .int x_322), (2, 0, a0_, .ref q0_), (2, 1, a0_, .ref q1_), (2, 3, a0_, .ref q2_), (2, 4, a0_, .ref q3_), (5, 1, q1_, .ref q5_)]) rfl (fun fr_329 H locs hp hMr_329 g => ?_)
        rcases hp with ⟨x_330, h_331, hF_332⟩ | ⟨x_333, h_334, hF_335⟩
        · have g := g.more hF_332
          refine lv_aload_n hx hb dX2_readMemberHead_177 rfl (lv_at hl 4 rfl) ?_
          refine g_getk (C := RX2) (T := TX2) (N := 16) hx hb hts (mc_ inX2) hown hK g rfl 0 (by decide) rfl (hts _ (List.mem_cons_of_mem _ t_416)) (fun _ h9 => h9) 6 rfl dX2_readMemberHead_178 ?_
          have kb_1201 : bd 1201 1201 (1201 : Int32) := ⟨by decide, by decide⟩
          refine g_calli (va_runV (As := []) (rest := []) ⟨hx, hb, hml, hown, hts⟩ (r_X8_kind_2 l dC dI L kd tys fr_329 H.size g.2.2.2.1 q0_ mq0_ kq0_ 1201 kb_1201 (g.fcts [0] rfl)) (cwV 0 hts (gV_ t_1118 t_1119 t_1120 t_184 t_1121) rfl rfl rfl (by decide +kernel) ⟨(Nat.le_of_ble_eq_true rfl), (Nat.le_of_ble_eq_true rfl)⟩) (pre3V g hK mq0_ kq0_ (by decide) (q := (RX8, TX8, 10)) rfl) rfl rfl hl.1 rfl (lv_room (Nat.le_of_ble_eq_true rfl)) dX2_readMemberHead_181 ⟨(Nat.le_of_ble_eq_true rfl), (Nat.le_of_ble_eq_true rfl)⟩) g hK (by decide) (by decide) (fx' := [(8, 6, q0_, .int 1201), (8, 8, q0_, .int x_330), (2, 6, a0_, .int 0), (9, 8, q3_, .int x_319), (2, 5, a0_, .ref a_321), (7, 3, q2_, .int x_322), (2, 0, a0_, .ref q0_), (2, 1, a0_, .ref q1_), (2, 3, a0_, .ref q2_), (2, 4, a0_, .ref q3_), (5, 1, q1_, .ref q5_)]) rfl (fun r_336 fr_336 H locs hp hMr_336 g => ?_)
          obtain ⟨h_337, -⟩ := hp
          obtain rfl : r_336 = 0 := h_337
          refine lv_bipush (v := 41) hx hb dX2_readMemberHead_184 (by decide) ?_
          refine lv_icmp_eq (tgt := 193) hx hb dX2_readMemberHead_186 (by decide) (fun c_ => absurd c_ (by decide)) (fun c_ => ?_)
          refine lv_iconst (v := 1) hx hb dX2_readMemberHead_189 (by decide) ?_
          refine lv_goto (tgt := 194) hx hb dX2_readMemberHead_190 (by decide) ?_
          refine lv_istore (lv' := [(6, .int 1), (5, .int (-1)), (4, .int r_7), (2, .long r_6), (1, .int r_5), (0, .ref a0_)]) hx hb dX2_readMemberHead_194 hl (by decide) rfl (fun ls hl => ?_)
          refine lv_iconst (v := 0) hx hb dX2_readMemberHead_196 (by decide) ?_
          refine lv_istore (lv' := [(7, .int 0), (6, .int 1), (5, .int (-1)), (4, .int r_7), (2, .long r_6), (1, .int r_5), (0, .ref a0_)]) hx hb dX2_readMemberHead_197 hl (by decide) rfl (fun ls hl => ?_)
          have loop_338 : ∀ (n : Nat) (v199_7 : Int32) (v199_6 : Int32), bd 0 4 v199_7 → bd 0 1 v199_6 → (4 - v199_7.toInt < (n : Int)) → ∀ (f : Nat → va_E) (H : Heap) (locs : List Loc) (ls : Array Slot), G3 (dC, dI) L kd tys s f0 [(2, 5), (2, 6), (5, 4), (6, 0), (6, 1), (6, 2), (6, 3), (6, 6), (6, 7), (6, 8), (6, 9), (6, 10), (6, 11), (6, 12), (7, 3), (8, 6), (8, 8), (8, 9), (9, 8)] [132, 134, 135, 156] f H locs [(8, 6, q0_, .int 1201), (8, 8, q0_, .int x_330), (2, 6, a0_, .int 0), (9, 8, q3_, .int x_319), (2, 5, a0_, .ref a_321), (7, 3, q2_, .int x_322), (2, 0, a0_, .ref q0_), (2, 1, a0_, .ref q1_), (2, 3, a0_, .ref q2_), (2, 4, a0_, .ref q3_), (5, 1, q1_, .ref q5_)] → lv_has ls 8 [(7, .int v199_7), (6, .int v199_6), (5, .int (-1)), (4, .int r_7), (2, .long r_6), (1, .int r_5), (0, .ref a0_)] → W p l e ({ frames := 3, cells := 0, slots := 0, locals := 72 } : Room) s m [.ref a0_].toArray below meth c H locs 0 0 Q (F0 m 199 ls []) := by
            intro n199
            induction n199 with
            | zero =>
              intro v199_7 v199_6 bv199_7 bv199_6 hm199 f H locs ls g  hl
              exact absurd hm199 (by have h9_v199_7 := bv199_7; unfold bd at h9_v199_7; have h9_v199_6 := bv199_6; unfold bd at h9_v199_6; omega)
            | succ n199 ih199 =>
              intro v199_7 v199_6 bv199_7 bv199_6 hm199 f H locs ls g  hl
              refine lv_iload hx hb dX2_readMemberHead_199 (lv_at hl 0 rfl) ?_
              refine lv_iconst (v := 3) hx hb dX2_readMemberHead_201 (by decide) ?_
              refine lv_icmp_gt (tgt := 251) hx hb dX2_readMemberHead_202 (by decide) (fun c_339 => ?_) (fun c_339 => ?_)
              · have fc_339 := lt_f c_339
                have b_340 : bd 4 4 v199_7 := ltR fc_339 kb_3 bv199_7 (by decide)
                refine lv_aload_n hx hb dX2_readMemberHead_251 rfl (lv_at hl 6 rfl) ?_
                refine g_getk (C := RX2) (T := TX2) (N := 16) hx hb hts (mc_ inX2) hown hK g rfl 0 (by decide) rfl (hts _ (List.mem_cons_of_mem _ t_416)) (fun _ h9 => h9) 6 rfl dX2_readMemberHead_252 ?_
                refine g_calli (va_runV (As := []) (rest := []) ⟨hx, hb, hml, hown, hts⟩ (r_X8_place l dC dI L kd tys f H.size g.2.2.2.1 q0_ mq0_ kq0_) (cwV 0 hts (gV_ t_1110 t_1111 t_1112 t_184 t_1113) rfl rfl rfl (by decide +kernel) ⟨(Nat.le_of_ble_eq_true rfl), (Nat.le_of_ble_eq_true rfl)⟩) (pre3V g hK mq0_ kq0_ (by decide) (q := (RX8, TX8, 10)) rfl) rfl rfl hl.1 rfl (lv_room (Nat.le_of_ble_eq_true rfl)) dX2_readMemberHead_255 ⟨(Nat.le_of_ble_eq_true rfl), (Nat.le_of_ble_eq_true rfl)⟩) g hK (by decide) (by decide) (fx' := [(8, 6, q0_, .int 1201), (8, 8, q0_, .int x_330), (2, 6, a0_, .int 0), (9, 8, q3_, .int x_319), (2, 5, a0_, .ref a_321), (7, 3, q2_, .int x_322), (2, 0, a0_, .ref q0_), (2, 1, a0_, .ref q1_), (2, 3, a0_, .ref q2_), (2, 4, a0_, .ref q3_), (5, 1, q1_, .ref q5_)]) rfl (fun r_341 fr_341 H locs hp hMr_341 g => ?_)
                refine lv_istore (lv' := [(7, .int r_341), (6, .int v199_6), (5, .int (-1)), (4, .int r_7), (2, .long r_6), (1, .int r_5), (0, .ref a0_)]) hx hb dX2_readMemberHead_258 hl (by decide) rfl (fun ls hl => ?_)
                refine lv_aload_n hx hb dX2_readMemberHead_260 rfl (lv_at hl 6 rfl) ?_
                refine g_getk (C := RX2) (T := TX2) (N := 16) hx hb hts (mc_ inX2) hown hK g rfl 0 (by decide) rfl (hts _ (List.mem_cons_of_mem _ t_416)) (fun _ h9 => h9) 6 rfl dX2_readMemberHead_261 ?_
                refine lv_bipush (v := 41) hx hb dX2_readMemberHead_264 (by decide) ?_
                refine g_callv (va_runV (As := [.int 41]) (rest := []) ⟨hx, hb, hml, hown, hts⟩ (r_X8_take_2 l dC dI L kd tys fr_341 H.size g.2.2.2.1 q0_ mq0_ kq0_ 41 1201 kb_1201 x_330 h_331 (g.fcts [0, 1] rfl)) (cwV 1 hts (gV_ t_1098 t_1099 t_1100 t_184 t_1101) rfl rfl rfl (by decide +kernel) ⟨(Nat.le_of_ble_eq_true rfl), (Nat.le_of_ble_eq_true rfl)⟩) (pre3V g hK mq0_ kq0_ (by decide) (q := (RX8, TX8, 10)) rfl) rfl rfl hl.1 rfl (lv_room (Nat.le_of_ble_eq_true rfl)) dX2_readMemberHead_266 ⟨(Nat.le_of_ble_eq_true rfl), (Nat.le_of_ble_eq_true rfl)⟩) g hK (by decide) (by decide) (fx' := [(8, 8, q0_, .int x_330), (2, 6, a0_, .int 0), (9, 8, q3_, .int x_319), (2, 5, a0_, .ref a_321), (7, 3, q2_, .int x_322), (2, 0, a0_, .ref q0_), (2, 1, a0_, .ref q1_), (2, 3, a0_, .ref q2_), (2, 4, a0_, .ref q3_), (5, 1, q1_, .ref q5_)]) rfl (fun fr_342 H locs hp hMr_342 g => ?_)
                obtain ⟨x_343, h_344, hF_345⟩ := hp
                have g := g.more hF_345
                refine lv_iload hx hb dX2_readMemberHead_269 (lv_at hl 2 rfl) ?_
                refine lv_iconst (v := (-1)) hx hb dX2_readMemberHead_271 (by decide) ?_
                refine lv_icmp_eq (tgt := 308) hx hb dX2_readMemberHead_272 (by decide) (fun c_ => ?_) (fun c_ => absurd (by decide) c_)
                subst hQ
                exact W.vret hx hb hr (fun t ht hW => ⟨⟨_, rfl, Or.inl ⟨x_343, h_344, x_330, h_331, a_321, ⟨ma_321, ka_321⟩, (g.fcts [0, 1, 4] rfl)⟩, q3_of g hK ht hW⟩, g.2.2.1.F ht⟩) g.2.2.1.2.2 dX2_readMemberHead_308
              · have fc_339 := nlt_f c_339
                have b_346 : bd 0 3 v199_7 := leL fc_339 bv199_7 kb_3 (by decide)
                refine lv_iload hx hb dX2_readMemberHead_205 (lv_at hl 1 rfl) ?_
                have kb_0 : bd 0 0 (0 : Int32) := ⟨by decide, by decide⟩
                refine lv_if_eq (tgt := 251) hx hb dX2_readMemberHead_207 (by decide) (fun c_347 => ?_) (fun c_347 => ?_)
                · have fc_347 := eq_f c_347
                  have b_348 : bd 0 0 v199_6 := eqX fc_347 bv199_6 kb_0 (by decide)
                  refine lv_aload_n hx hb dX2_readMemberHead_251 rfl (lv_at hl 6 rfl) ?_
                  refine g_getk (C := RX2) (T := TX2) (N := 16) hx hb hts (mc_ inX2) hown hK g rfl 0 (by decide) rfl (hts _ (List.mem_cons_of_mem _ t_416)) (fun _ h9 => h9) 6 rfl dX2_readMemberHead_252 ?_
                  refine g_calli (va_runV (As := []) (rest := []) ⟨hx, hb, hml, hown, hts⟩ (r_X8_place l dC dI L kd tys f H.size g.2.2.2.1 q0_ mq0_ kq0_) (cwV 0 hts (gV_ t_1110 t_1111 t_1112 t_184 t_1113) rfl rfl rfl (by decide +kernel) ⟨(Nat.le_of_ble_eq_true rfl), (Nat.le_of_ble_eq_true rfl)⟩) (pre3V g hK mq0_ kq0_ (by decide) (q := (RX8, TX8, 10)) rfl) rfl rfl hl.1 rfl (lv_room (Nat.le_of_ble_eq_true rfl)) dX2_readMemberHead_255 ⟨(Nat.le_of_ble_eq_true rfl), (Nat.le_of_ble_eq_true rfl)⟩) g hK (by decide) (by decide) (fx' := [(8, 6, q0_, .int 1201), (8, 8, q0_, .int x_330), (2, 6, a0_, .int 0), (9, 8, q3_, .int x_319), (2, 5, a0_, .ref a_321), (7, 3, q2_, .int x_322), (2, 0, a0_, .ref q0_), (2, 1, a0_, .ref q1_), (2, 3, a0_, .ref q2_), (2, 4, a0_, .ref q3_), (5, 1, q1_, .ref q5_)]) rfl (fun r_349 fr_349 H locs hp hMr_349 g => ?_)
                  refine lv_istore (lv' := [(7, .int r_349), (6, .int v199_6), (5, .int (-1)), (4, .int r_7), (2, .long r_6), (1, .int r_5), (0, .ref a0_)]) hx hb dX2_readMemberHead_258 hl (by decide) rfl (fun ls hl => ?_)
                  refine lv_aload_n hx hb dX2_readMemberHead_260 rfl (lv_at hl 6 rfl) ?_
                  refine g_getk (C := RX2) (T := TX2) (N := 16) hx hb hts (mc_ inX2) hown hK g rfl 0 (by decide) rfl (hts _ (List.mem_cons_of_mem _ t_416)) (fun _ h9 => h9) 6 rfl dX2_readMemberHead_261 ?_
                  refine lv_bipush (v := 41) hx hb dX2_readMemberHead_264 (by decide) ?_
                  refine g_callv (va_runV (As := [.int 41]) (rest := []) ⟨hx, hb, hml, hown, hts⟩ (r_X8_take_2 l dC dI L kd tys fr_349 H.size g.2.2.2.1 q0_ mq0_ kq0_ 41 1201 kb_1201 x_330 h_331 (g.fcts [0, 1] rfl)) (cwV 1 hts (gV_ t_1098 t_1099 t_1100 t_184 t_1101) rfl rfl rfl (by decide +kernel) ⟨(Nat.le_of_ble_eq_true rfl), (Nat.le_of_ble_eq_true rfl)⟩) (pre3V g hK mq0_ kq0_ (by decide) (q := (RX8, TX8, 10)) rfl) rfl rfl hl.1 rfl (lv_room (Nat.le_of_ble_eq_true rfl)) dX2_readMemberHead_266 ⟨(Nat.le_of_ble_eq_true rfl), (Nat.le_of_ble_eq_true rfl)⟩) g hK (by decide) (by decide) (fx' := [(8, 8, q0_, .int x_330), (2, 6, a0_, .int 0), (9, 8, q3_, .int x_319), (2, 5, a0_, .ref a_321), (7, 3, q2_, .int x_322), (2, 0, a0_, .ref q0_), (2, 1, a0_, .ref q1_), (2, 3, a0_, .ref q2_), (2, 4, a0_, .ref q3_), (5, 1, q1_, .ref q5_)]) rfl (fun fr_350 H locs hp hMr_350 g => ?_)
                  obtain ⟨x_351, h_352, hF_353⟩ := hp
                  have g := g.more hF_353
                  refine lv_iload hx hb dX2_readMemberHead_269 (lv_at hl 2 rfl) ?_
                  refine lv_iconst (v := (-1)) hx hb dX2_readMemberHead_271 (by decide) ?_
                  refine lv_icmp_eq (tgt := 308) hx hb dX2_readMemberHead_272 (by decide) (fun c_ => ?_) (fun c_ => absurd (by decide) c_)
                  subst hQ
                  exact W.vret hx hb hr (fun t ht hW => ⟨⟨_, rfl, Or.inl ⟨x_351, h_352, x_330, h_331, a_321, ⟨ma_321, ka_321⟩, (g.fcts [0, 1, 4] rfl)⟩, q3_of g hK ht hW⟩, g.2.2.1.F ht⟩) g.2.2.1.2.2 dX2_readMemberHead_308
                · have fc_347 := neq_f c_347
                  have b_354 : bd 1 1 v199_6 := neX fc_347 bv199_6 kb_0 (by decide)
                  refine lv_aload_n hx hb dX2_readMemberHead_210 rfl (lv_at hl 6 rfl) ?_
                  refine g_callv (va_runV (As := []) (rest := []) ⟨hx, hb, hml, hown, hts⟩ (r_X2_readParam_2 l dC dI L kd tys f H.size g.2.2.2.1 a0_ ma0_ ka0_ q0_ mq0_ kq0_ q1_ mq1_ kq1_ a_321 ma_321 ka_321 q5_ mq5_ kq5_ 1201 kb_1201 x_330 h_331 (g.fcts [6, 7, 4, 10, 0, 1] rfl)) (cwV 0 hts (gV_ t_1313 t_1315 t_34 t_183 t_1316) rfl rfl rfl (by decide +kernel) ⟨(Nat.le_of_ble_eq_true rfl), (Nat.le_of_ble_eq_true rfl)⟩) (pre3V g hK ma0_ ka0_ (by decide) (q := (RX2, TX2, 16)) rfl) rfl rfl hl.1 rfl (lv_room (Nat.le_of_ble_eq_true rfl)) dX2_readMemberHead_211 ⟨(Nat.le_of_ble_eq_true rfl), (Nat.le_of_ble_eq_true rfl)⟩) g hK (by decide) (by decide) (fx' := [(8, 8, q0_, .int x_330), (2, 6, a0_, .int 0), (9, 8, q3_, .int x_319), (2, 5, a0_, .ref a_321), (7, 3, q2_, .int x_322), (2, 0, a0_, .ref q0_), (2, 1, a0_, .ref q1_), (2, 3, a0_, .ref q2_), (2, 4, a0_, .ref q3_), (5, 1, q1_, .ref q5_)]) rfl (fun fr_355 H locs hp hMr_355 g => ?_)
                  have hF_356 := hp
                  have g := g.more hF_356
                  refine lv_aload_n hx hb dX2_readMemberHead_214 rfl (lv_at hl 6 rfl) ?_
                  refine g_getk (C := RX2) (T := TX2) (N := 16) hx hb hts (mc_ inX2) hown hK g rfl 0 (by decide) rfl (hts _ (List.mem_cons_of_mem _ t_416)) (fun _ h9 => h9) 6 rfl dX2_readMemberHead_215 ?_
                  refine g_calli (va_runV (As := []) (rest := []) ⟨hx, hb, hml, hown, hts⟩ (r_X8_kind_2 l dC dI L kd tys fr_355 H.size g.2.2.2.1 q0_ mq0_ kq0_ 1201 kb_1201 (g.fcts [0] rfl)) (cwV 0 hts (gV_ t_1118 t_1119 t_1120 t_184 t_1121) rfl rfl rfl (by decide +kernel) ⟨(Nat.le_of_ble_eq_true rfl), (Nat.le_of_ble_eq_true rfl)⟩) (pre3V g hK mq0_ kq0_ (by decide) (q := (RX8, TX8, 10)) rfl) rfl rfl hl.1 rfl (lv_room (Nat.le_of_ble_eq_true rfl)) dX2_readMemberHead_218 ⟨(Nat.le_of_ble_eq_true rfl), (Nat.le_of_ble_eq_true rfl)⟩) g hK (by decide) (by decide) (fx' := [(8, 6, q0_, .int 1201), (8, 8, q0_, .int x_330), (2, 6, a0_, .int 0), (9, 8, q3_, .int x_319), (2, 5, a0_, .ref a_321), (7, 3, q2_, .int x_322), (2, 0, a0_, .ref q0_), (2, 1, a0_, .ref q1_), (2, 3, a0_, .ref q2_), (2, 4, a0_, .ref q3_), (5, 1, q1_, .ref q5_)]) rfl (fun r_357 fr_357 H locs hp hMr_357 g => ?_)
                  obtain ⟨h_358, -⟩ := hp
                  obtain rfl : r_357 = 0 := h_358
                  refine lv_bipush (v := 44) hx hb dX2_readMemberHead_221 (by decide) ?_
                  refine lv_icmp_ne (tgt := 230) hx hb dX2_readMemberHead_223 (by decide) (fun c_ => ?_) (fun c_ => absurd c_ (by decide))
                  refine lv_iconst (v := 0) hx hb dX2_readMemberHead_230 (by decide) ?_
                  refine lv_istore (lv' := [(6, .int 0), (7, .int v199_7), (5, .int (-1)), (4, .int r_7), (2, .long r_6), (1, .int r_5), (0, .ref a0_)]) hx hb dX2_readMemberHead_231 hl (by decide) rfl (fun ls hl => ?_)
                  refine lv_iload hx hb dX2_readMemberHead_233 (lv_at hl 0 rfl) ?_
                  refine lv_if_eq (tgt := 245) hx hb dX2_readMemberHead_235 (by decide) (fun c_ => ?_) (fun c_ => absurd (by decide) c_)
                  have kb_1 : bd 1 1 (1 : Int32) := ⟨by decide, by decide⟩
                  obtain ⟨y_359, ey_359⟩ : ∃ z : Int32, z = v199_7 + 1 := ⟨_, rfl⟩
                  refine lv_iinc (v := y_359) (lv' := [(7, .int y_359), (6, .int 0), (5, .int (-1)), (4, .int r_7), (2, .long r_6), (1, .int r_5), (0, .ref a0_)]) hx hb dX2_readMemberHead_245 hl (k := 1) rfl (by rw [ey_359]; rfl) (by decide) rfl (fun ls hl => ?_)
                  have ty_359 := add_bd ey_359 b_346 kb_1 (by decide)
                  have b_360 : bd 1 4 y_359 := add_rg ty_359 b_346 kb_1 (by decide)
                  refine lv_goto (tgt := 199) hx hb dX2_readMemberHead_248 (by decide) ?_
                  have hl9 := lv_sub hl [0, 1, 2, 3, 4, 5, 6] (by rfl : lv_pick [(7, .int y_359), (6, .int 0), (5, .int (-1)), (4, .int r_7), (2, .long r_6), (1, .int r_5), (0, .ref a0_)] [0, 1, 2, 3, 4, 5, 6] = [(7, .int y_359), (6, .int 0), (5, .int (-1)), (4, .int r_7), (2, .long r_6), (1, .int r_5), (0, .ref a0_)])
                  have g9 := g.sub (fx' := [(8, 6, q0_, .int 1201), (8, 8, q0_, .int x_330), (2, 6, a0_, .int 0), (9, 8, q3_, .int x_319), (2, 5, a0_, .ref a_321), (7, 3, q2_, .int x_322), (2, 0, a0_, .ref q0_), (2, 1, a0_, .ref q1_), (2, 3, a0_, .ref q2_), (2, 4, a0_, .ref q3_), (5, 1, q1_, .ref q5_)]) [0, 1, 2, 3, 4, 5, 6, 7, 8, 9, 10] rfl
                  exact ih199  y_359 0 (bd_sub b_360 (by decide)) (bd_sub kb_0 (by decide)) (by have h9_0 := b_360; unfold bd at h9_0; have h9_1 := bv199_6; unfold bd at h9_1; have h9_2 := bv199_7; unfold bd at h9_2; have h9_3 := kb_0; unfold bd at h9_3; have h9_4 := kb_1; unfold bd at h9_4; have h9_5 := kb_12; unfold bd at h9_5; have h9_6 := kb_1201; unfold bd at h9_6; have h9_7 := kb_3; unfold bd at h9_7; have h9_8 := kb_m1; unfold bd at h9_8; omega) _ _ _ _ g9  hl9
          have kb_0 : bd 0 0 (0 : Int32) := ⟨by decide, by decide⟩
          have kb_1 : bd 1 1 (1 : Int32) := ⟨by decide, by decide⟩
          have hl9 := lv_sub hl [0, 1, 2, 3, 4, 5, 6] (by rfl : lv_pick [(7, .int 0), (6, .int 1), (5, .int (-1)), (4, .int r_7), (2, .long r_6), (1, .int r_5), (0, .ref a0_)] [0, 1, 2, 3, 4, 5, 6] = [(7, .int 0), (6, .int 1), (5, .int (-1)), (4, .int r_7), (2, .long r_6), (1, .int r_5), (0, .ref a0_)])
          have g9 := g.sub (fx' := [(8, 6, q0_, .int 1201), (8, 8, q0_, .int x_330), (2, 6, a0_, .int 0), (9, 8, q3_, .int x_319), (2, 5, a0_, .ref a_321), (7, 3, q2_, .int x_322), (2, 0, a0_, .ref q0_), (2, 1, a0_, .ref q1_), (2, 3, a0_, .ref q2_), (2, 4, a0_, .ref q3_), (5, 1, q1_, .ref q5_)]) [0, 1, 2, 3, 4, 5, 6, 7, 8, 9, 10] rfl
          exact loop_338 (11) 0 1 (bd_sub kb_0 (by decide)) (bd_sub kb_1 (by decide)) (by have h9_0 := kb_0; unfold bd at h9_0; have h9_1 := kb_1; unfold bd at h9_1; have h9_2 := kb_12; unfold bd at h9_2; have h9_3 := kb_1201; unfold bd at h9_3; have h9_4 := kb_3; unfold bd at h9_4; have h9_5 := kb_m1; unfold bd at h9_5; omega) _ _ _ _ g9  hl9
        · have g := g.more hF_335
          refine lv_aload_n hx hb dX2_readMemberHead_177 rfl (lv_at hl 4 rfl) ?_
          refine g_getk (C := RX2) (T := TX2) (N := 16) hx hb hts (mc_ inX2) hown hK g rfl 0 (by decide) rfl (hts _ (List.mem_cons_of_mem _ t_416)) (fun _ h9 => h9) 5 rfl dX2_readMemberHead_178 ?_
          refine g_calli (va_runV (As := []) (rest := []) ⟨hx, hb, hml, hown, hts⟩ (r_X8_kind l dC dI L kd tys fr_329 H.size g.2.2.2.1 q0_ mq0_ kq0_) (cwV 0 hts (gV_ t_1118 t_1119 t_1120 t_184 t_1121) rfl rfl rfl (by decide +kernel) ⟨(Nat.le_of_ble_eq_true rfl), (Nat.le_of_ble_eq_true rfl)⟩) (pre3V g hK mq0_ kq0_ (by decide) (q := (RX8, TX8, 10)) rfl) rfl rfl hl.1 rfl (lv_room (Nat.le_of_ble_eq_true rfl)) dX2_readMemberHead_181 ⟨(Nat.le_of_ble_eq_true rfl), (Nat.le_of_ble_eq_true rfl)⟩) g hK (by decide) (by decide) (fx' := [(8, 6, q0_, .int x_333), (2, 6, a0_, .int 0), (9, 8, q3_, .int x_319), (2, 5, a0_, .ref a_321), (7, 3, q2_, .int x_322), (2, 0, a0_, .ref q0_), (2, 1, a0_, .ref q1_), (2, 3, a0_, .ref q2_), (2, 4, a0_, .ref q3_), (5, 1, q1_, .ref q5_)]) rfl (fun r_361 fr_361 H locs hp hMr_361 g => ?_)
          refine lv_bipush (v := 41) hx hb dX2_readMemberHead_184 (by decide) ?_
          have kb_41 : bd 41 41 (41 : Int32) := ⟨by decide, by decide⟩
          refine lv_icmp_eq (tgt := 193) hx hb dX2_readMemberHead_186 (by decide) (fun c_362 => ?_) (fun c_362 => ?_)
          · have fc_362 := eq_f c_362
            have b_363 : bd 41 41 r_361 := eqX fc_362 (bdT r_361) kb_41 (by decide)
            refine lv_iconst (v := 0) hx hb dX2_readMemberHead_193 (by decide) ?_
            refine lv_istore (lv' := [(6, .int 0), (5, .int (-1)), (4, .int r_7), (2, .long r_6), (1, .int r_5), (0, .ref a0_)]) hx hb dX2_readMemberHead_194 hl (by decide) rfl (fun ls hl => ?_)
            refine lv_iconst (v := 0) hx hb dX2_readMemberHead_196 (by decide) ?_
            refine lv_istore (lv' := [(7, .int 0), (6, .int 0), (5, .int (-1)), (4, .int r_7), (2, .long r_6), (1, .int r_5), (0, .ref a0_)]) hx hb dX2_readMemberHead_197 hl (by decide) rfl (fun ls hl => ?_)
            refine lv_iload hx hb dX2_readMemberHead_199 (lv_at hl 0 rfl) ?_
            refine lv_iconst (v := 3) hx hb dX2_readMemberHead_201 (by decide) ?_
            refine lv_icmp_gt (tgt := 251) hx hb dX2_readMemberHead_202 (by decide) (fun c_ => absurd c_ (by decide)) (fun c_ => ?_)
            refine lv_iload hx hb dX2_readMemberHead_205 (lv_at hl 1 rfl) ?_
            refine lv_if_eq (tgt := 251) hx hb dX2_readMemberHead_207 (by decide) (fun c_ => ?_) (fun c_ => absurd (by decide) c_)
            refine lv_aload_n hx hb dX2_readMemberHead_251 rfl (lv_at hl 6 rfl) ?_
            refine g_getk (C := RX2) (T := TX2) (N := 16) hx hb hts (mc_ inX2) hown hK g rfl 0 (by decide) rfl (hts _ (List.mem_cons_of_mem _ t_416)) (fun _ h9 => h9) 5 rfl dX2_readMemberHead_252 ?_
            refine g_calli (va_runV (As := []) (rest := []) ⟨hx, hb, hml, hown, hts⟩ (r_X8_place l dC dI L kd tys fr_361 H.size g.2.2.2.1 q0_ mq0_ kq0_) (cwV 0 hts (gV_ t_1110 t_1111 t_1112 t_184 t_1113) rfl rfl rfl (by decide +kernel) ⟨(Nat.le_of_ble_eq_true rfl), (Nat.le_of_ble_eq_true rfl)⟩) (pre3V g hK mq0_ kq0_ (by decide) (q := (RX8, TX8, 10)) rfl) rfl rfl hl.1 rfl (lv_room (Nat.le_of_ble_eq_true rfl)) dX2_readMemberHead_255 ⟨(Nat.le_of_ble_eq_true rfl), (Nat.le_of_ble_eq_true rfl)⟩) g hK (by decide) (by decide) (fx' := [(8, 6, q0_, .int x_333), (2, 6, a0_, .int 0), (9, 8, q3_, .int x_319), (2, 5, a0_, .ref a_321), (7, 3, q2_, .int x_322), (2, 0, a0_, .ref q0_), (2, 1, a0_, .ref q1_), (2, 3, a0_, .ref q2_), (2, 4, a0_, .ref q3_), (5, 1, q1_, .ref q5_)]) rfl (fun r_364 fr_364 H locs hp hMr_364 g => ?_)
            refine lv_istore (lv' := [(7, .int r_364), (6, .int 0), (5, .int (-1)), (4, .int r_7), (2, .long r_6), (1, .int r_5), (0, .ref a0_)]) hx hb dX2_readMemberHead_258 hl (by decide) rfl (fun ls hl => ?_)
            refine lv_aload_n hx hb dX2_readMemberHead_260 rfl (lv_at hl 6 rfl) ?_
            refine g_getk (C := RX2) (T := TX2) (N := 16) hx hb hts (mc_ inX2) hown hK g rfl 0 (by decide) rfl (hts _ (List.mem_cons_of_mem _ t_416)) (fun _ h9 => h9) 5 rfl dX2_readMemberHead_261 ?_
            refine lv_bipush (v := 41) hx hb dX2_readMemberHead_264 (by decide) ?_
            refine g_callv (va_runV (As := [.int 41]) (rest := []) ⟨hx, hb, hml, hown, hts⟩ (r_X8_take l dC dI L kd tys fr_364 H.size g.2.2.2.1 q0_ mq0_ kq0_ 41) (cwV 1 hts (gV_ t_1098 t_1099 t_1100 t_184 t_1101) rfl rfl rfl (by decide +kernel) ⟨(Nat.le_of_ble_eq_true rfl), (Nat.le_of_ble_eq_true rfl)⟩) (pre3V g hK mq0_ kq0_ (by decide) (q := (RX8, TX8, 10)) rfl) rfl rfl hl.1 rfl (lv_room (Nat.le_of_ble_eq_true rfl)) dX2_readMemberHead_266 ⟨(Nat.le_of_ble_eq_true rfl), (Nat.le_of_ble_eq_true rfl)⟩) g hK (by decide) (by decide) (fx' := [(2, 6, a0_, .int 0), (9, 8, q3_, .int x_319), (2, 5, a0_, .ref a_321), (7, 3, q2_, .int x_322), (2, 0, a0_, .ref q0_), (2, 1, a0_, .ref q1_), (2, 3, a0_, .ref q2_), (2, 4, a0_, .ref q3_), (5, 1, q1_, .ref q5_)]) rfl (fun fr_365 H locs hp hMr_365 g => ?_)
            rcases hp with ⟨x_366, h_367, hF_368⟩ | ⟨x_369, h_370, hF_371⟩
            · have g := g.more hF_368
              refine lv_iload hx hb dX2_readMemberHead_269 (lv_at hl 2 rfl) ?_
              refine lv_iconst (v := (-1)) hx hb dX2_readMemberHead_271 (by decide) ?_
              refine lv_icmp_eq (tgt := 308) hx hb dX2_readMemberHead_272 (by decide) (fun c_ => ?_) (fun c_ => absurd (by decide) c_)
              have kb_1201 : bd 1201 1201 (1201 : Int32) := ⟨by decide, by decide⟩
              subst hQ
              exact W.vret hx hb hr (fun t ht hW => ⟨⟨_, rfl, Or.inl ⟨1201, kb_1201, x_366, h_367, a_321, ⟨ma_321, ka_321⟩, (g.fcts [0, 1, 4] rfl)⟩, q3_of g hK ht hW⟩, g.2.2.1.F ht⟩) g.2.2.1.2.2 dX2_readMemberHead_308
            · have g := g.more hF_371
              refine lv_iload hx hb dX2_readMemberHead_269 (lv_at hl 2 rfl) ?_
              refine lv_iconst (v := (-1)) hx hb dX2_readMemberHead_271 (by decide) ?_
              refine lv_icmp_eq (tgt := 308) hx hb dX2_readMemberHead_272 (by decide) (fun c_ => ?_) (fun c_ => absurd (by decide) c_)
              subst hQ
              exact W.vret hx hb hr (fun t ht hW => ⟨⟨_, rfl, Or.inr (⟨x_369, h_370, x_319, h_320, a_321, ⟨ma_321, ka_321⟩, x_322, h_323, (g.fcts [0, 1, 2, 3, 4] rfl)⟩), q3_of g hK ht hW⟩, g.2.2.1.F ht⟩) g.2.2.1.2.2 dX2_readMemberHead_308
          · have fc_362 := neq_f c_362
            refine lv_iconst (v := 1) hx hb dX2_readMemberHead_189 (by decide) ?_
            refine lv_goto (tgt := 194) hx hb dX2_readMemberHead_190 (by decide) ?_
            refine lv_istore (lv' := [(6, .int 1), (5, .int (-1)), (4, .int r_7), (2, .long r_6), (1, .int r_5), (0, .ref a0_)]) hx hb dX2_readMemberHead_194 hl (by decide) rfl (fun ls hl => ?_)
            refine lv_iconst (v := 0) hx hb dX2_readMemberHead_196 (by decide) ?_
            refine lv_istore (lv' := [(7, .int 0), (6, .int 1), (5, .int (-1)), (4, .int r_7), (2, .long r_6), (1, .int r_5), (0, .ref a0_)]) hx hb dX2_readMemberHead_197 hl (by decide) rfl (fun ls hl => ?_)
            have loop_372 : ∀ (n : Nat) (v199_7 : Int32) (v199_6 : Int32) (w199_8_6_q0_ : Int32), bd 0 4 v199_7 → bd 0 1 v199_6 → bd 1 1201 w199_8_6_q0_ → (4 - v199_7.toInt < (n : Int)) → ∀ (f : Nat → va_E) (H : Heap) (locs : List Loc) (ls : Array Slot), G3 (dC, dI) L kd tys s f0 [(2, 5), (2, 6), (5, 4), (6, 0), (6, 1), (6, 2), (6, 3), (6, 6), (6, 7), (6, 8), (6, 9), (6, 10), (6, 11), (6, 12), (7, 3), (8, 6), (8, 8), (8, 9), (9, 8)] [132, 134, 135, 156] f H locs [(8, 6, q0_, .int w199_8_6_q0_), (2, 6, a0_, .int 0), (9, 8, q3_, .int x_319), (2, 5, a0_, .ref a_321), (7, 3, q2_, .int x_322), (2, 0, a0_, .ref q0_), (2, 1, a0_, .ref q1_), (2, 3, a0_, .ref q2_), (2, 4, a0_, .ref q3_), (5, 1, q1_, .ref q5_)] → lv_has ls 8 [(7, .int v199_7), (6, .int v199_6), (5, .int (-1)), (4, .int r_7), (2, .long r_6), (1, .int r_5), (0, .ref a0_)] → W p l e ({ frames := 3, cells := 0, slots := 0, locals := 72 } : Room) s m [.ref a0_].toArray below meth c H locs 0 0 Q (F0 m 199 ls []) := by
              intro n199
              induction n199 with
              | zero =>
                intro v199_7 v199_6 w199_8_6_q0_ bv199_7 bv199_6 bw199_8_6_q0_ hm199 f H locs ls g  hl
                exact absurd hm199 (by have h9_v199_7 := bv199_7; unfold bd at h9_v199_7; have h9_v199_6 := bv199_6; unfold bd at h9_v199_6; have h9_w199_8_6_q0_ := bw199_8_6_q0_; unfold bd at h9_w199_8_6_q0_; omega)
              | succ n199 ih199 =>
                intro v199_7 v199_6 w199_8_6_q0_ bv199_7 bv199_6 bw199_8_6_q0_ hm199 f H locs ls g  hl
                refine lv_iload hx hb dX2_readMemberHead_199 (lv_at hl 0 rfl) ?_
                refine lv_iconst (v := 3) hx hb dX2_readMemberHead_201 (by decide) ?_
                refine lv_icmp_gt (tgt := 251) hx hb dX2_readMemberHead_202 (by decide) (fun c_373 => ?_) (fun c_373 => ?_)
                · have fc_373 := lt_f c_373
                  have b_374 : bd 4 4 v199_7 := ltR fc_373 kb_3 bv199_7 (by decide)
                  refine lv_aload_n hx hb dX2_readMemberHead_251 rfl (lv_at hl 6 rfl) ?_
                  refine g_getk (C := RX2) (T := TX2) (N := 16) hx hb hts (mc_ inX2) hown hK g rfl 0 (by decide) rfl (hts _ (List.mem_cons_of_mem _ t_416)) (fun _ h9 => h9) 5 rfl dX2_readMemberHead_252 ?_
                  refine g_calli (va_runV (As := []) (rest := []) ⟨hx, hb, hml, hown, hts⟩ (r_X8_place l dC dI L kd tys f H.size g.2.2.2.1 q0_ mq0_ kq0_) (cwV 0 hts (gV_ t_1110 t_1111 t_1112 t_184 t_1113) rfl rfl rfl (by decide +kernel) ⟨(Nat.le_of_ble_eq_true rfl), (Nat.le_of_ble_eq_true rfl)⟩) (pre3V g hK mq0_ kq0_ (by decide) (q := (RX8, TX8, 10)) rfl) rfl rfl hl.1 rfl (lv_room (Nat.le_of_ble_eq_true rfl)) dX2_readMemberHead_255 ⟨(Nat.le_of_ble_eq_true rfl), (Nat.le_of_ble_eq_true rfl)⟩) g hK (by decide) (by decide) (fx' := [(8, 6, q0_, .int w199_8_6_q0_), (2, 6, a0_, .int 0), (9, 8, q3_, .int x_319), (2, 5, a0_, .ref a_321), (7, 3, q2_, .int x_322), (2, 0, a0_, .ref q0_), (2, 1, a0_, .ref q1_), (2, 3, a0_, .ref q2_), (2, 4, a0_, .ref q3_), (5, 1, q1_, .ref q5_)]) rfl (fun r_375 fr_375 H locs hp hMr_375 g => ?_)
                  refine lv_istore (lv' := [(7, .int r_375), (6, .int v199_6), (5, .int (-1)), (4, .int r_7), (2, .long r_6), (1, .int r_5), (0, .ref a0_)]) hx hb dX2_readMemberHead_258 hl (by decide) rfl (fun ls hl => ?_)
                  refine lv_aload_n hx hb dX2_readMemberHead_260 rfl (lv_at hl 6 rfl) ?_
                  refine g_getk (C := RX2) (T := TX2) (N := 16) hx hb hts (mc_ inX2) hown hK g rfl 0 (by decide) rfl (hts _ (List.mem_cons_of_mem _ t_416)) (fun _ h9 => h9) 5 rfl dX2_readMemberHead_261 ?_
                  refine lv_bipush (v := 41) hx hb dX2_readMemberHead_264 (by decide) ?_
                  refine g_callv (va_runV (As := [.int 41]) (rest := []) ⟨hx, hb, hml, hown, hts⟩ (r_X8_take l dC dI L kd tys fr_375 H.size g.2.2.2.1 q0_ mq0_ kq0_ 41) (cwV 1 hts (gV_ t_1098 t_1099 t_1100 t_184 t_1101) rfl rfl rfl (by decide +kernel) ⟨(Nat.le_of_ble_eq_true rfl), (Nat.le_of_ble_eq_true rfl)⟩) (pre3V g hK mq0_ kq0_ (by decide) (q := (RX8, TX8, 10)) rfl) rfl rfl hl.1 rfl (lv_room (Nat.le_of_ble_eq_true rfl)) dX2_readMemberHead_266 ⟨(Nat.le_of_ble_eq_true rfl), (Nat.le_of_ble_eq_true rfl)⟩) g hK (by decide) (by decide) (fx' := [(2, 6, a0_, .int 0), (9, 8, q3_, .int x_319), (2, 5, a0_, .ref a_321), (7, 3, q2_, .int x_322), (2, 0, a0_, .ref q0_), (2, 1, a0_, .ref q1_), (2, 3, a0_, .ref q2_), (2, 4, a0_, .ref q3_), (5, 1, q1_, .ref q5_)]) rfl (fun fr_376 H locs hp hMr_376 g => ?_)
                  rcases hp with ⟨x_377, h_378, hF_379⟩ | ⟨x_380, h_381, hF_382⟩
                  · have g := g.more hF_379
                    refine lv_iload hx hb dX2_readMemberHead_269 (lv_at hl 2 rfl) ?_
                    refine lv_iconst (v := (-1)) hx hb dX2_readMemberHead_271 (by decide) ?_
                    refine lv_icmp_eq (tgt := 308) hx hb dX2_readMemberHead_272 (by decide) (fun c_ => ?_) (fun c_ => absurd (by decide) c_)
                    have kb_1201 : bd 1201 1201 (1201 : Int32) := ⟨by decide, by decide⟩
                    subst hQ
                    exact W.vret hx hb hr (fun t ht hW => ⟨⟨_, rfl, Or.inl ⟨1201, kb_1201, x_377, h_378, a_321, ⟨ma_321, ka_321⟩, (g.fcts [0, 1, 4] rfl)⟩, q3_of g hK ht hW⟩, g.2.2.1.F ht⟩) g.2.2.1.2.2 dX2_readMemberHead_308
                  · have g := g.more hF_382
                    refine lv_iload hx hb dX2_readMemberHead_269 (lv_at hl 2 rfl) ?_
                    refine lv_iconst (v := (-1)) hx hb dX2_readMemberHead_271 (by decide) ?_
                    refine lv_icmp_eq (tgt := 308) hx hb dX2_readMemberHead_272 (by decide) (fun c_ => ?_) (fun c_ => absurd (by decide) c_)
                    subst hQ
                    exact W.vret hx hb hr (fun t ht hW => ⟨⟨_, rfl, Or.inr (⟨x_380, h_381, x_319, h_320, a_321, ⟨ma_321, ka_321⟩, x_322, h_323, (g.fcts [0, 1, 2, 3, 4] rfl)⟩), q3_of g hK ht hW⟩, g.2.2.1.F ht⟩) g.2.2.1.2.2 dX2_readMemberHead_308
                · have fc_373 := nlt_f c_373
                  have b_383 : bd 0 3 v199_7 := leL fc_373 bv199_7 kb_3 (by decide)
                  refine lv_iload hx hb dX2_readMemberHead_205 (lv_at hl 1 rfl) ?_
                  have kb_0 : bd 0 0 (0 : Int32) := ⟨by decide, by decide⟩
                  refine lv_if_eq (tgt := 251) hx hb dX2_readMemberHead_207 (by decide) (fun c_384 => ?_) (fun c_384 => ?_)
                  · have fc_384 := eq_f c_384
                    have b_385 : bd 0 0 v199_6 := eqX fc_384 bv199_6 kb_0 (by decide)
                    refine lv_aload_n hx hb dX2_readMemberHead_251 rfl (lv_at hl 6 rfl) ?_
                    refine g_getk (C := RX2) (T := TX2) (N := 16) hx hb hts (mc_ inX2) hown hK g rfl 0 (by decide) rfl (hts _ (List.mem_cons_of_mem _ t_416)) (fun _ h9 => h9) 5 rfl dX2_readMemberHead_252 ?_
                    refine g_calli (va_runV (As := []) (rest := []) ⟨hx, hb, hml, hown, hts⟩ (r_X8_place l dC dI L kd tys f H.size g.2.2.2.1 q0_ mq0_ kq0_) (cwV 0 hts (gV_ t_1110 t_1111 t_1112 t_184 t_1113) rfl rfl rfl (by decide +kernel) ⟨(Nat.le_of_ble_eq_true rfl), (Nat.le_of_ble_eq_true rfl)⟩) (pre3V g hK mq0_ kq0_ (by decide) (q := (RX8, TX8, 10)) rfl) rfl rfl hl.1 rfl (lv_room (Nat.le_of_ble_eq_true rfl)) dX2_readMemberHead_255 ⟨(Nat.le_of_ble_eq_true rfl), (Nat.le_of_ble_eq_true rfl)⟩) g hK (by decide) (by decide) (fx' := [(8, 6, q0_, .int w199_8_6_q0_), (2, 6, a0_, .int 0), (9, 8, q3_, .int x_319), (2, 5, a0_, .ref a_321), (7, 3, q2_, .int x_322), (2, 0, a0_, .ref q0_), (2, 1, a0_, .ref q1_), (2, 3, a0_, .ref q2_), (2, 4, a0_, .ref q3_), (5, 1, q1_, .ref q5_)]) rfl (fun r_386 fr_386 H locs hp hMr_386 g => ?_)
                    refine lv_istore (lv' := [(7, .int r_386), (6, .int v199_6), (5, .int (-1)), (4, .int r_7), (2, .long r_6), (1, .int r_5), (0, .ref a0_)]) hx hb dX2_readMemberHead_258 hl (by decide) rfl (fun ls hl => ?_)
                    refine lv_aload_n hx hb dX2_readMemberHead_260 rfl (lv_at hl 6 rfl) ?_
                    refine g_getk (C := RX2) (T := TX2) (N := 16) hx hb hts (mc_ inX2) hown hK g rfl 0 (by decide) rfl (hts _ (List.mem_cons_of_mem _ t_416)) (fun _ h9 => h9) 5 rfl dX2_readMemberHead_261 ?_
                    refine lv_bipush (v := 41) hx hb dX2_readMemberHead_264 (by decide) ?_
                    refine g_callv (va_runV (As := [.int 41]) (rest := []) ⟨hx, hb, hml, hown, hts⟩ (r_X8_take l dC dI L kd tys fr_386 H.size g.2.2.2.1 q0_ mq0_ kq0_ 41) (cwV 1 hts (gV_ t_1098 t_1099 t_1100 t_184 t_1101) rfl rfl rfl (by decide +kernel) ⟨(Nat.le_of_ble_eq_true rfl), (Nat.le_of_ble_eq_true rfl)⟩) (pre3V g hK mq0_ kq0_ (by decide) (q := (RX8, TX8, 10)) rfl) rfl rfl hl.1 rfl (lv_room (Nat.le_of_ble_eq_true rfl)) dX2_readMemberHead_266 ⟨(Nat.le_of_ble_eq_true rfl), (Nat.le_of_ble_eq_true rfl)⟩) g hK (by decide) (by decide) (fx' := [(2, 6, a0_, .int 0), (9, 8, q3_, .int x_319), (2, 5, a0_, .ref a_321), (7, 3, q2_, .int x_322), (2, 0, a0_, .ref q0_), (2, 1, a0_, .ref q1_), (2, 3, a0_, .ref q2_), (2, 4, a0_, .ref q3_), (5, 1, q1_, .ref q5_)]) rfl (fun fr_387 H locs hp hMr_387 g => ?_)
                    rcases hp with ⟨x_388, h_389, hF_390⟩ | ⟨x_391, h_392, hF_393⟩
                    · have g := g.more hF_390
                      refine lv_iload hx hb dX2_readMemberHead_269 (lv_at hl 2 rfl) ?_
                      refine lv_iconst (v := (-1)) hx hb dX2_readMemberHead_271 (by decide) ?_
                      refine lv_icmp_eq (tgt := 308) hx hb dX2_readMemberHead_272 (by decide) (fun c_ => ?_) (fun c_ => absurd (by decide) c_)
                      have kb_1201 : bd 1201 1201 (1201 : Int32) := ⟨by decide, by decide⟩
                      subst hQ
                      exact W.vret hx hb hr (fun t ht hW => ⟨⟨_, rfl, Or.inl ⟨1201, kb_1201, x_388, h_389, a_321, ⟨ma_321, ka_321⟩, (g.fcts [0, 1, 4] rfl)⟩, q3_of g hK ht hW⟩, g.2.2.1.F ht⟩) g.2.2.1.2.2 dX2_readMemberHead_308
                    · have g := g.more hF_393
                      refine lv_iload hx hb dX2_readMemberHead_269 (lv_at hl 2 rfl) ?_
                      refine lv_iconst (v := (-1)) hx hb dX2_readMemberHead_271 (by decide) ?_
                      refine lv_icmp_eq (tgt := 308) hx hb dX2_readMemberHead_272 (by decide) (fun c_ => ?_) (fun c_ => absurd (by decide) c_)
                      subst hQ
                      exact W.vret hx hb hr (fun t ht hW => ⟨⟨_, rfl, Or.inr (⟨x_391, h_392, x_319, h_320, a_321, ⟨ma_321, ka_321⟩, x_322, h_323, (g.fcts [0, 1, 2, 3, 4] rfl)⟩), q3_of g hK ht hW⟩, g.2.2.1.F ht⟩) g.2.2.1.2.2 dX2_readMemberHead_308
                  · have fc_384 := neq_f c_384
                    have b_394 : bd 1 1 v199_6 := neX fc_384 bv199_6 kb_0 (by decide)
                    refine lv_aload_n hx hb dX2_readMemberHead_210 rfl (lv_at hl 6 rfl) ?_
                    refine g_callv (va_runV (As := []) (rest := []) ⟨hx, hb, hml, hown, hts⟩ (r_X2_readParam_3 l dC dI L kd tys f H.size g.2.2.2.1 a0_ ma0_ ka0_ q0_ mq0_ kq0_ q1_ mq1_ kq1_ a_321 ma_321 ka_321 q5_ mq5_ kq5_ (g.fcts [5, 6, 3, 9] rfl)) (cwV 0 hts (gV_ t_1313 t_1315 t_34 t_183 t_1316) rfl rfl rfl (by decide +kernel) ⟨(Nat.le_of_ble_eq_true rfl), (Nat.le_of_ble_eq_true rfl)⟩) (pre3V g hK ma0_ ka0_ (by decide) (q := (RX2, TX2, 16)) rfl) rfl rfl hl.1 rfl (lv_room (Nat.le_of_ble_eq_true rfl)) dX2_readMemberHead_211 ⟨(Nat.le_of_ble_eq_true rfl), (Nat.le_of_ble_eq_true rfl)⟩) g hK (by decide) (by decide) (fx' := [(2, 6, a0_, .int 0), (9, 8, q3_, .int x_319), (2, 5, a0_, .ref a_321), (7, 3, q2_, .int x_322), (2, 0, a0_, .ref q0_), (2, 1, a0_, .ref q1_), (2, 3, a0_, .ref q2_), (2, 4, a0_, .ref q3_), (5, 1, q1_, .ref q5_)]) rfl (fun fr_395 H locs hp hMr_395 g => ?_)
                    rcases hp with ⟨x_396, h_397, x_398, h_399, x_400, h_401, x_402, h_403, hF_404⟩ | ⟨x_405, h_406, x_407, h_408, hF_409⟩
                    · have g := g.more hF_404
                      refine lv_aload_n hx hb dX2_readMemberHead_214 rfl (lv_at hl 6 rfl) ?_
                      refine g_getk (C := RX2) (T := TX2) (N := 16) hx hb hts (mc_ inX2) hown hK g rfl 0 (by decide) rfl (hts _ (List.mem_cons_of_mem _ t_416)) (fun _ h9 => h9) 8 rfl dX2_readMemberHead_215 ?_
                      refine g_calli (va_runV (As := []) (rest := []) ⟨hx, hb, hml, hown, hts⟩ (r_X8_kind l dC dI L kd tys fr_395 H.size g.2.2.2.1 q0_ mq0_ kq0_) (cwV 0 hts (gV_ t_1118 t_1119 t_1120 t_184 t_1121) rfl rfl rfl (by decide +kernel) ⟨(Nat.le_of_ble_eq_true rfl), (Nat.le_of_ble_eq_true rfl)⟩) (pre3V g hK mq0_ kq0_ (by decide) (q := (RX8, TX8, 10)) rfl) rfl rfl hl.1 rfl (lv_room (Nat.le_of_ble_eq_true rfl)) dX2_readMemberHead_218 ⟨(Nat.le_of_ble_eq_true rfl), (Nat.le_of_ble_eq_true rfl)⟩) g hK (by decide) (by decide) (fx' := [(6, 3, a_321, .int x_396), (5, 4, q1_, .int x_398), (8, 8, q0_, .int x_400), (8, 6, q0_, .int x_402), (2, 6, a0_, .int 0), (9, 8, q3_, .int x_319), (2, 5, a0_, .ref a_321), (7, 3, q2_, .int x_322), (2, 0, a0_, .ref q0_), (2, 1, a0_, .ref q1_), (2, 3, a0_, .ref q2_), (2, 4, a0_, .ref q3_), (5, 1, q1_, .ref q5_)]) rfl (fun r_410 fr_410 H locs hp hMr_410 g => ?_)
                      refine lv_bipush (v := 44) hx hb dX2_readMemberHead_221 (by decide) ?_
                      have kb_44 : bd 44 44 (44 : Int32) := ⟨by decide, by decide⟩
                      refine lv_icmp_ne (tgt := 230) hx hb dX2_readMemberHead_223 (by decide) (fun c_411 => ?_) (fun c_411 => ?_)
                      · have fc_411 := neq_f c_411
                        refine lv_iconst (v := 0) hx hb dX2_readMemberHead_230 (by decide) ?_
                        refine lv_istore (lv' := [(6, .int 0), (7, .int v199_7), (5, .int (-1)), (4, .int r_7), (2, .long r_6), (1, .int r_5), (0, .ref a0_)]) hx hb dX2_readMemberHead_231 hl (by decide) rfl (fun ls hl => ?_)
                        refine lv_iload hx hb dX2_readMemberHead_233 (lv_at hl 0 rfl) ?_
                        refine lv_if_eq (tgt := 245) hx hb dX2_readMemberHead_235 (by decide) (fun c_ => ?_) (fun c_ => absurd (by decide) c_)
                        have kb_1 : bd 1 1 (1 : Int32) := ⟨by decide, by decide⟩
                        obtain ⟨y_412, ey_412⟩ : ∃ z : Int32, z = v199_7 + 1 := ⟨_, rfl⟩
                        refine lv_iinc (v := y_412) (lv' := [(7, .int y_412), (6, .int 0), (5, .int (-1)), (4, .int r_7), (2, .long r_6), (1, .int r_5), (0, .ref a0_)]) hx hb dX2_readMemberHead_245 hl (k := 1) rfl (by rw [ey_412]; rfl) (by decide) rfl (fun ls hl => ?_)
                        have ty_412 := add_bd ey_412 b_383 kb_1 (by decide)
                        have b_413 : bd 1 4 y_412 := add_rg ty_412 b_383 kb_1 (by decide)
                        refine lv_goto (tgt := 199) hx hb dX2_readMemberHead_248 (by decide) ?_
                        have hl9 := lv_sub hl [0, 1, 2, 3, 4, 5, 6] (by rfl : lv_pick [(7, .int y_412), (6, .int 0), (5, .int (-1)), (4, .int r_7), (2, .long r_6), (1, .int r_5), (0, .ref a0_)] [0, 1, 2, 3, 4, 5, 6] = [(7, .int y_412), (6, .int 0), (5, .int (-1)), (4, .int r_7), (2, .long r_6), (1, .int r_5), (0, .ref a0_)])
                        have g9 := g.sub (fx' := [(8, 6, q0_, .int x_402), (2, 6, a0_, .int 0), (9, 8, q3_, .int x_319), (2, 5, a0_, .ref a_321), (7, 3, q2_, .int x_322), (2, 0, a0_, .ref q0_), (2, 1, a0_, .ref q1_), (2, 3, a0_, .ref q2_), (2, 4, a0_, .ref q3_), (5, 1, q1_, .ref q5_)]) [3, 4, 5, 6, 7, 8, 9, 10, 11, 12] rfl
                        exact ih199  y_412 0 x_402 (bd_sub b_413 (by decide)) (bd_sub kb_0 (by decide)) h_403 (by have h9_0 := b_413; unfold bd at h9_0; have h9_1 := bv199_6; unfold bd at h9_1; have h9_2 := bv199_7; unfold bd at h9_2; have h9_3 := bw199_8_6_q0_; unfold bd at h9_3; have h9_4 := h_403; unfold bd at h9_4; have h9_5 := kb_0; unfold bd at h9_5; have h9_6 := kb_1; unfold bd at h9_6; have h9_7 := kb_12; unfold bd at h9_7; have h9_8 := kb_3; unfold bd at h9_8; have h9_9 := kb_41; unfold bd at h9_9; have h9_10 := kb_44; unfold bd at h9_10; have h9_11 := kb_m1; unfold bd at h9_11; omega) _ _ _ _ g9  hl9
                      · have fc_411 := eq_f c_411
                        have b_414 : bd 44 44 r_410 := eqX fc_411 (bdT r_410) kb_44 (by decide)
                        refine lv_iconst (v := 1) hx hb dX2_readMemberHead_226 (by decide) ?_
                        refine lv_goto (tgt := 231) hx hb dX2_readMemberHead_227 (by decide) ?_
                        refine lv_istore (lv' := [(6, .int 1), (7, .int v199_7), (5, .int (-1)), (4, .int r_7), (2, .long r_6), (1, .int r_5), (0, .ref a0_)]) hx hb dX2_readMemberHead_231 hl (by decide) rfl (fun ls hl => ?_)
                        refine lv_iload hx hb dX2_readMemberHead_233 (lv_at hl 0 rfl) ?_
                        refine lv_if_eq (tgt := 245) hx hb dX2_readMemberHead_235 (by decide) (fun c_ => absurd c_ (by decide)) (fun c_ => ?_)
                        refine lv_aload_n hx hb dX2_readMemberHead_238 rfl (lv_at hl 6 rfl) ?_
                        refine g_getk (C := RX2) (T := TX2) (N := 16) hx hb hts (mc_ inX2) hown hK g rfl 0 (by decide) rfl (hts _ (List.mem_cons_of_mem _ t_416)) (fun _ h9 => h9) 8 rfl dX2_readMemberHead_239 ?_
                        refine g_callv (va_runV (As := []) (rest := []) ⟨hx, hb, hml, hown, hts⟩ (r_X8_next l dC dI L kd tys fr_410 H.size g.2.2.2.1 q0_ mq0_ kq0_) (cwV 0 hts (gV_ t_1131 t_1103 t_1104 t_184 t_1105) rfl rfl rfl (by decide +kernel) ⟨(Nat.le_of_ble_eq_true rfl), (Nat.le_of_ble_eq_true rfl)⟩) (pre3V g hK mq0_ kq0_ (by decide) (q := (RX8, TX8, 10)) rfl) rfl rfl hl.1 rfl (lv_room (Nat.le_of_ble_eq_true rfl)) dX2_readMemberHead_242 ⟨(Nat.le_of_ble_eq_true rfl), (Nat.le_of_ble_eq_true rfl)⟩) g hK (by decide) (by decide) (fx' := [(6, 3, a_321, .int x_396), (5, 4, q1_, .int x_398), (8, 8, q0_, .int x_400), (2, 6, a0_, .int 0), (9, 8, q3_, .int x_319), (2, 5, a0_, .ref a_321), (7, 3, q2_, .int x_322), (2, 0, a0_, .ref q0_), (2, 1, a0_, .ref q1_), (2, 3, a0_, .ref q2_), (2, 4, a0_, .ref q3_), (5, 1, q1_, .ref q5_)]) rfl (fun fr_415 H locs hp hMr_415 g => ?_)
                        obtain ⟨x_416, h_417, hF_418⟩ := hp
                        have g := g.more hF_418
                        have kb_1 : bd 1 1 (1 : Int32) := ⟨by decide, by decide⟩
                        obtain ⟨y_419, ey_419⟩ : ∃ z : Int32, z = v199_7 + 1 := ⟨_, rfl⟩
                        refine lv_iinc (v := y_419) (lv' := [(7, .int y_419), (6, .int 1), (5, .int (-1)), (4, .int r_7), (2, .long r_6), (1, .int r_5), (0, .ref a0_)]) hx hb dX2_readMemberHead_245 hl (k := 1) rfl (by rw [ey_419]; rfl) (by decide) rfl (fun ls hl => ?_)
                        have ty_419 := add_bd ey_419 b_383 kb_1 (by decide)
                        have b_420 : bd 1 4 y_419 := add_rg ty_419 b_383 kb_1 (by decide)
                        refine lv_goto (tgt := 199) hx hb dX2_readMemberHead_248 (by decide) ?_
                        have hl9 := lv_sub hl [0, 1, 2, 3, 4, 5, 6] (by rfl : lv_pick [(7, .int y_419), (6, .int 1), (5, .int (-1)), (4, .int r_7), (2, .long r_6), (1, .int r_5), (0, .ref a0_)] [0, 1, 2, 3, 4, 5, 6] = [(7, .int y_419), (6, .int 1), (5, .int (-1)), (4, .int r_7), (2, .long r_6), (1, .int r_5), (0, .ref a0_)])
                        have g9 := g.sub (fx' := [(8, 6, q0_, .int x_416), (2, 6, a0_, .int 0), (9, 8, q3_, .int x_319), (2, 5, a0_, .ref a_321), (7, 3, q2_, .int x_322), (2, 0, a0_, .ref q0_), (2, 1, a0_, .ref q1_), (2, 3, a0_, .ref q2_), (2, 4, a0_, .ref q3_), (5, 1, q1_, .ref q5_)]) [0, 4, 5, 6, 7, 8, 9, 10, 11, 12] rfl
                        exact ih199  y_419 1 x_416 (bd_sub b_420 (by decide)) (bd_sub kb_1 (by decide)) h_417 (by have h9_0 := b_420; unfold bd at h9_0; have h9_1 := bv199_6; unfold bd at h9_1; have h9_2 := bv199_7; unfold bd at h9_2; have h9_3 := bw199_8_6_q0_; unfold bd at h9_3; have h9_4 := h_417; unfold bd at h9_4; have h9_5 := kb_0; unfold bd at h9_5; have h9_6 := kb_1; unfold bd at h9_6; have h9_7 := kb_12; unfold bd at h9_7; have h9_8 := kb_3; unfold bd at h9_8; have h9_9 := kb_41; unfold bd at h9_9; have h9_10 := kb_44; unfold bd at h9_10; have h9_11 := kb_m1; unfold bd at h9_11; omega) _ _ _ _ g9  hl9
                    · have g := g.more hF_409
                      refine lv_aload_n hx hb dX2_readMemberHead_214 rfl (lv_at hl 6 rfl) ?_
                      refine g_getk (C := RX2) (T := TX2) (N := 16) hx hb hts (mc_ inX2) hown hK g rfl 0 (by decide) rfl (hts _ (List.mem_cons_of_mem _ t_416)) (fun _ h9 => h9) 6 rfl dX2_readMemberHead_215 ?_
                      refine g_calli (va_runV (As := []) (rest := []) ⟨hx, hb, hml, hown, hts⟩ (r_X8_kind l dC dI L kd tys fr_395 H.size g.2.2.2.1 q0_ mq0_ kq0_) (cwV 0 hts (gV_ t_1118 t_1119 t_1120 t_184 t_1121) rfl rfl rfl (by decide +kernel) ⟨(Nat.le_of_ble_eq_true rfl), (Nat.le_of_ble_eq_true rfl)⟩) (pre3V g hK mq0_ kq0_ (by decide) (q := (RX8, TX8, 10)) rfl) rfl rfl hl.1 rfl (lv_room (Nat.le_of_ble_eq_true rfl)) dX2_readMemberHead_218 ⟨(Nat.le_of_ble_eq_true rfl), (Nat.le_of_ble_eq_true rfl)⟩) g hK (by decide) (by decide) (fx' := [(8, 6, q0_, .int x_405), (8, 8, q0_, .int x_407), (2, 6, a0_, .int 0), (9, 8, q3_, .int x_319), (2, 5, a0_, .ref a_321), (7, 3, q2_, .int x_322), (2, 0, a0_, .ref q0_), (2, 1, a0_, .ref q1_), (2, 3, a0_, .ref q2_), (2, 4, a0_, .ref q3_), (5, 1, q1_, .ref q5_)]) rfl (fun r_421 fr_421 H locs hp hMr_421 g => ?_)
                      refine lv_bipush (v := 44) hx hb dX2_readMemberHead_221 (by decide) ?_
                      have kb_44 : bd 44 44 (44 : Int32) := ⟨by decide, by decide⟩
                      refine lv_icmp_ne (tgt := 230) hx hb dX2_readMemberHead_223 (by decide) (fun c_422 => ?_) (fun c_422 => ?_)
                      · have fc_422 := neq_f c_422
                        refine lv_iconst (v := 0) hx hb dX2_readMemberHead_230 (by decide) ?_
                        refine lv_istore (lv' := [(6, .int 0), (7, .int v199_7), (5, .int (-1)), (4, .int r_7), (2, .long r_6), (1, .int r_5), (0, .ref a0_)]) hx hb dX2_readMemberHead_231 hl (by decide) rfl (fun ls hl => ?_)
                        refine lv_iload hx hb dX2_readMemberHead_233 (lv_at hl 0 rfl) ?_
                        refine lv_if_eq (tgt := 245) hx hb dX2_readMemberHead_235 (by decide) (fun c_ => ?_) (fun c_ => absurd (by decide) c_)
                        have kb_1 : bd 1 1 (1 : Int32) := ⟨by decide, by decide⟩
                        obtain ⟨y_423, ey_423⟩ : ∃ z : Int32, z = v199_7 + 1 := ⟨_, rfl⟩
                        refine lv_iinc (v := y_423) (lv' := [(7, .int y_423), (6, .int 0), (5, .int (-1)), (4, .int r_7), (2, .long r_6), (1, .int r_5), (0, .ref a0_)]) hx hb dX2_readMemberHead_245 hl (k := 1) rfl (by rw [ey_423]; rfl) (by decide) rfl (fun ls hl => ?_)
                        have ty_423 := add_bd ey_423 b_383 kb_1 (by decide)
                        have b_424 : bd 1 4 y_423 := add_rg ty_423 b_383 kb_1 (by decide)
                        refine lv_goto (tgt := 199) hx hb dX2_readMemberHead_248 (by decide) ?_
                        have hl9 := lv_sub hl [0, 1, 2, 3, 4, 5, 6] (by rfl : lv_pick [(7, .int y_423), (6, .int 0), (5, .int (-1)), (4, .int r_7), (2, .long r_6), (1, .int r_5), (0, .ref a0_)] [0, 1, 2, 3, 4, 5, 6] = [(7, .int y_423), (6, .int 0), (5, .int (-1)), (4, .int r_7), (2, .long r_6), (1, .int r_5), (0, .ref a0_)])
                        have g9 := g.sub (fx' := [(8, 6, q0_, .int x_405), (2, 6, a0_, .int 0), (9, 8, q3_, .int x_319), (2, 5, a0_, .ref a_321), (7, 3, q2_, .int x_322), (2, 0, a0_, .ref q0_), (2, 1, a0_, .ref q1_), (2, 3, a0_, .ref q2_), (2, 4, a0_, .ref q3_), (5, 1, q1_, .ref q5_)]) [0, 2, 3, 4, 5, 6, 7, 8, 9, 10] rfl
                        exact ih199  y_423 0 x_405 (bd_sub b_424 (by decide)) (bd_sub kb_0 (by decide)) h_406 (by have h9_0 := b_424; unfold bd at h9_0; have h9_1 := bv199_6; unfold bd at h9_1; have h9_2 := bv199_7; unfold bd at h9_2; have h9_3 := bw199_8_6_q0_; unfold bd at h9_3; have h9_4 := h_406; unfold bd at h9_4; have h9_5 := kb_0; unfold bd at h9_5; have h9_6 := kb_1; unfold bd at h9_6; have h9_7 := kb_12; unfold bd at h9_7; have h9_8 := kb_3; unfold bd at h9_8; have h9_9 := kb_41; unfold bd at h9_9; have h9_10 := kb_44; unfold bd at h9_10; have h9_11 := kb_m1; unfold bd at h9_11; omega) _ _ _ _ g9  hl9
                      · have fc_422 := eq_f c_422
                        have b_425 : bd 44 44 r_421 := eqX fc_422 (bdT r_421) kb_44 (by decide)
                        refine lv_iconst (v := 1) hx hb dX2_readMemberHead_226 (by decide) ?_
                        refine lv_goto (tgt := 231) hx hb dX2_readMemberHead_227 (by decide) ?_
                        refine lv_istore (lv' := [(6, .int 1), (7, .int v199_7), (5, .int (-1)), (4, .int r_7), (2, .long r_6), (1, .int r_5), (0, .ref a0_)]) hx hb dX2_readMemberHead_231 hl (by decide) rfl (fun ls hl => ?_)
                        refine lv_iload hx hb dX2_readMemberHead_233 (lv_at hl 0 rfl) ?_
                        refine lv_if_eq (tgt := 245) hx hb dX2_readMemberHead_235 (by decide) (fun c_ => absurd c_ (by decide)) (fun c_ => ?_)
                        refine lv_aload_n hx hb dX2_readMemberHead_238 rfl (lv_at hl 6 rfl) ?_
                        refine g_getk (C := RX2) (T := TX2) (N := 16) hx hb hts (mc_ inX2) hown hK g rfl 0 (by decide) rfl (hts _ (List.mem_cons_of_mem _ t_416)) (fun _ h9 => h9) 6 rfl dX2_readMemberHead_239 ?_
                        refine g_callv (va_runV (As := []) (rest := []) ⟨hx, hb, hml, hown, hts⟩ (r_X8_next l dC dI L kd tys fr_421 H.size g.2.2.2.1 q0_ mq0_ kq0_) (cwV 0 hts (gV_ t_1131 t_1103 t_1104 t_184 t_1105) rfl rfl rfl (by decide +kernel) ⟨(Nat.le_of_ble_eq_true rfl), (Nat.le_of_ble_eq_true rfl)⟩) (pre3V g hK mq0_ kq0_ (by decide) (q := (RX8, TX8, 10)) rfl) rfl rfl hl.1 rfl (lv_room (Nat.le_of_ble_eq_true rfl)) dX2_readMemberHead_242 ⟨(Nat.le_of_ble_eq_true rfl), (Nat.le_of_ble_eq_true rfl)⟩) g hK (by decide) (by decide) (fx' := [(8, 8, q0_, .int x_407), (2, 6, a0_, .int 0), (9, 8, q3_, .int x_319), (2, 5, a0_, .ref a_321), (7, 3, q2_, .int x_322), (2, 0, a0_, .ref q0_), (2, 1, a0_, .ref q1_), (2, 3, a0_, .ref q2_), (2, 4, a0_, .ref q3_), (5, 1, q1_, .ref q5_)]) rfl (fun fr_426 H locs hp hMr_426 g => ?_)
                        obtain ⟨x_427, h_428, hF_429⟩ := hp
                        have g := g.more hF_429
                        have kb_1 : bd 1 1 (1 : Int32) := ⟨by decide, by decide⟩
                        obtain ⟨y_430, ey_430⟩ : ∃ z : Int32, z = v199_7 + 1 := ⟨_, rfl⟩
                        refine lv_iinc (v := y_430) (lv' := [(7, .int y_430), (6, .int 1), (5, .int (-1)), (4, .int r_7), (2, .long r_6), (1, .int r_5), (0, .ref a0_)]) hx hb dX2_readMemberHead_245 hl (k := 1) rfl (by rw [ey_430]; rfl) (by decide) rfl (fun ls hl => ?_)
                        have ty_430 := add_bd ey_430 b_383 kb_1 (by decide)
                        have b_431 : bd 1 4 y_430 := add_rg ty_430 b_383 kb_1 (by decide)
                        refine lv_goto (tgt := 199) hx hb dX2_readMemberHead_248 (by decide) ?_
                        have hl9 := lv_sub hl [0, 1, 2, 3, 4, 5, 6] (by rfl : lv_pick [(7, .int y_430), (6, .int 1), (5, .int (-1)), (4, .int r_7), (2, .long r_6), (1, .int r_5), (0, .ref a0_)] [0, 1, 2, 3, 4, 5, 6] = [(7, .int y_430), (6, .int 1), (5, .int (-1)), (4, .int r_7), (2, .long r_6), (1, .int r_5), (0, .ref a0_)])
                        have g9 := g.sub (fx' := [(8, 6, q0_, .int x_427), (2, 6, a0_, .int 0), (9, 8, q3_, .int x_319), (2, 5, a0_, .ref a_321), (7, 3, q2_, .int x_322), (2, 0, a0_, .ref q0_), (2, 1, a0_, .ref q1_), (2, 3, a0_, .ref q2_), (2, 4, a0_, .ref q3_), (5, 1, q1_, .ref q5_)]) [0, 2, 3, 4, 5, 6, 7, 8, 9, 10] rfl
                        exact ih199  y_430 1 x_427 (bd_sub b_431 (by decide)) (bd_sub kb_1 (by decide)) h_428 (by have h9_0 := b_431; unfold bd at h9_0; have h9_1 := bv199_6; unfold bd at h9_1; have h9_2 := bv199_7; unfold bd at h9_2; have h9_3 := bw199_8_6_q0_; unfold bd at h9_3; have h9_4 := h_428; unfold bd at h9_4; have h9_5 := kb_0; unfold bd at h9_5; have h9_6 := kb_1; unfold bd at h9_6; have h9_7 := kb_12; unfold bd at h9_7; have h9_8 := kb_3; unfold bd at h9_8; have h9_9 := kb_41; unfold bd at h9_9; have h9_10 := kb_44; unfold bd at h9_10; have h9_11 := kb_m1; unfold bd at h9_11; omega) _ _ _ _ g9  hl9
            have kb_0 : bd 0 0 (0 : Int32) := ⟨by decide, by decide⟩
            have kb_1 : bd 1 1 (1 : Int32) := ⟨by decide, by decide⟩
            have hl9 := lv_sub hl [0, 1, 2, 3, 4, 5, 6] (by rfl : lv_pick [(7, .int 0), (6, .int 1), (5, .int (-1)), (4, .int r_7), (2, .long r_6), (1, .int r_5), (0, .ref a0_)] [0, 1, 2, 3, 4, 5, 6] = [(7, .int 0), (6, .int 1), (5, .int (-1)), (4, .int r_7), (2, .long r_6), (1, .int r_5), (0, .ref a0_)])
            have g9 := g.sub (fx' := [(8, 6, q0_, .int x_333), (2, 6, a0_, .int 0), (9, 8, q3_, .int x_319), (2, 5, a0_, .ref a_321), (7, 3, q2_, .int x_322), (2, 0, a0_, .ref q0_), (2, 1, a0_, .ref q1_), (2, 3, a0_, .ref q2_), (2, 4, a0_, .ref q3_), (5, 1, q1_, .ref q5_)]) [0, 1, 2, 3, 4, 5, 6, 7, 8, 9] rfl
            exact loop_372 (11) 0 1 x_333 (bd_sub kb_0 (by decide)) (bd_sub kb_1 (by decide)) h_334 (by have h9_0 := h_334; unfold bd at h9_0; have h9_1 := kb_0; unfold bd at h9_1; have h9_2 := kb_1; unfold bd at h9_2; have h9_3 := kb_12; unfold bd at h9_3; have h9_4 := kb_3; unfold bd at h9_4; have h9_5 := kb_41; unfold bd at h9_5; have h9_6 := kb_m1; unfold bd at h9_6; omega) _ _ _ _ g9  hl9
      · have fc_316 := nlt_f c_316
        have b_432 : bd 12 12 x_315 := leR fc_316 kb_12 bx_315 (by decide)
        refine lv_aload_n hx hb dX2_readMemberHead_141 rfl (lv_at hl 4 rfl) ?_
        refine g_getk (C := RX2) (T := TX2) (N := 16) hx hb hts (mc_ inX2) hown hK g rfl 0 (by decide) rfl (hts _ (List.mem_cons_of_mem _ t_416)) (fun _ h9 => h9) 2 rfl dX2_readMemberHead_142 ?_
        refine lv_iconst (v := 4) hx hb dX2_readMemberHead_145 (by decide) ?_
        refine lv_iload_n hx hb dX2_readMemberHead_146 rfl (lv_at hl 3 rfl) ?_
        have kb_4 : bd 4 4 (4 : Int32) := ⟨by decide, by decide⟩
        refine g_callv (va_runV (As := [.int 4, .int r_5]) (rest := []) ⟨hx, hb, hml, hown, hts⟩ (r_X8_fail l dC dI L kd tys fr_312 H.size g.2.2.2.1 q0_ mq0_ kq0_ 4 kb_4 r_5) (cwV 2 hts (gV_ t_1122 t_1107 t_1108 t_184 t_1109) rfl rfl rfl (by decide +kernel) ⟨(Nat.le_of_ble_eq_true rfl), (Nat.le_of_ble_eq_true rfl)⟩) (pre3V g hK mq0_ kq0_ (by decide) (q := (RX8, TX8, 10)) rfl) rfl rfl hl.1 rfl (lv_room (Nat.le_of_ble_eq_true rfl)) dX2_readMemberHead_147 ⟨(Nat.le_of_ble_eq_true rfl), (Nat.le_of_ble_eq_true rfl)⟩) g hK (by decide) (by decide) (fx' := [(9, 8, q3_, .int x_315), (2, 0, a0_, .ref q0_), (2, 1, a0_, .ref q1_), (2, 3, a0_, .ref q2_), (2, 4, a0_, .ref q3_), (2, 5, a0_, .ref q4_), (5, 1, q1_, .ref q5_)]) rfl (fun fr_433 H locs hp hMr_433 g => ?_)
        obtain ⟨x_434, h_435, hF_436⟩ := hp
        have g := g.more hF_436
        refine lv_goto (tgt := 161) hx hb dX2_readMemberHead_150 (by decide) ?_
        refine lv_aload_n hx hb dX2_readMemberHead_161 rfl (lv_at hl 4 rfl) ?_
        refine g_getk (C := RX2) (T := TX2) (N := 16) hx hb hts (mc_ inX2) hown hK g rfl 0 (by decide) rfl (hts _ (List.mem_cons_of_mem _ t_416)) (fun _ h9 => h9) 3 rfl dX2_readMemberHead_162 ?_
        have kb_1201 : bd 1201 1201 (1201 : Int32) := ⟨by decide, by decide⟩
        refine g_callv (va_runV (As := []) (rest := []) ⟨hx, hb, hml, hown, hts⟩ (r_X8_next_2 l dC dI L kd tys fr_433 H.size g.2.2.2.1 q0_ mq0_ kq0_ 1201 kb_1201 (g.fcts [0] rfl)) (cwV 0 hts (gV_ t_1131 t_1103 t_1104 t_184 t_1105) rfl rfl rfl (by decide +kernel) ⟨(Nat.le_of_ble_eq_true rfl), (Nat.le_of_ble_eq_true rfl)⟩) (pre3V g hK mq0_ kq0_ (by decide) (q := (RX8, TX8, 10)) rfl) rfl rfl hl.1 rfl (lv_room (Nat.le_of_ble_eq_true rfl)) dX2_readMemberHead_165 ⟨(Nat.le_of_ble_eq_true rfl), (Nat.le_of_ble_eq_true rfl)⟩) g hK (by decide) (by decide) (fx' := [(8, 6, q0_, .int 1201), (8, 8, q0_, .int x_434), (9, 8, q3_, .int x_315), (2, 0, a0_, .ref q0_), (2, 1, a0_, .ref q1_), (2, 3, a0_, .ref q2_), (2, 4, a0_, .ref q3_), (2, 5, a0_, .ref q4_), (5, 1, q1_, .ref q5_)]) rfl (fun fr_437 H locs hp hMr_437 g => ?_)
        refine lv_aload_n hx hb dX2_readMemberHead_168 rfl (lv_at hl 4 rfl) ?_
        refine g_getk (C := RX2) (T := TX2) (N := 16) hx hb hts (mc_ inX2) hown hK g rfl 0 (by decide) rfl (hts _ (List.mem_cons_of_mem _ t_416)) (fun _ h9 => h9) 3 rfl dX2_readMemberHead_169 ?_
        refine lv_bipush (v := 40) hx hb dX2_readMemberHead_172 (by decide) ?_
        refine g_callv (va_runV (As := [.int 40]) (rest := []) ⟨hx, hb, hml, hown, hts⟩ (r_X8_take_2 l dC dI L kd tys fr_437 H.size g.2.2.2.1 q0_ mq0_ kq0_ 40 1201 kb_1201 x_434 h_435 (g.fcts [0, 1] rfl)) (cwV 1 hts (gV_ t_1098 t_1099 t_1100 t_184 t_1101) rfl rfl rfl (by decide +kernel) ⟨(Nat.le_of_ble_eq_true rfl), (Nat.le_of_ble_eq_true rfl)⟩) (pre3V g hK mq0_ kq0_ (by decide) (q := (RX8, TX8, 10)) rfl) rfl rfl hl.1 rfl (lv_room (Nat.le_of_ble_eq_true rfl)) dX2_readMemberHead_174 ⟨(Nat.le_of_ble_eq_true rfl), (Nat.le_of_ble_eq_true rfl)⟩) g hK (by decide) (by decide) (fx' := [(8, 8, q0_, .int x_434), (9, 8, q3_, .int x_315), (2, 0, a0_, .ref q0_), (2, 1, a0_, .ref q1_), (2, 3, a0_, .ref q2_), (2, 4, a0_, .ref q3_), (2, 5, a0_, .ref q4_), (5, 1, q1_, .ref q5_)]) rfl (fun fr_438 H locs hp hMr_438 g => ?_)
        obtain ⟨x_439, h_440, hF_441⟩ := hp
        have g := g.more hF_441
        refine lv_aload_n hx hb dX2_readMemberHead_177 rfl (lv_at hl 4 rfl) ?_
        refine g_getk (C := RX2) (T := TX2) (N := 16) hx hb hts (mc_ inX2) hown hK g rfl 0 (by decide) rfl (hts _ (List.mem_cons_of_mem _ t_416)) (fun _ h9 => h9) 3 rfl dX2_readMemberHead_178 ?_
        refine g_calli (va_runV (As := []) (rest := []) ⟨hx, hb, hml, hown, hts⟩ (r_X8_kind_2 l dC dI L kd tys fr_438 H.size g.2.2.2.1 q0_ mq0_ kq0_ x_439 h_440 (g.fcts [0] rfl)) (cwV 0 hts (gV_ t_1118 t_1119 t_1120 t_184 t_1121) rfl rfl rfl (by decide +kernel) ⟨(Nat.le_of_ble_eq_true rfl), (Nat.le_of_ble_eq_true rfl)⟩) (pre3V g hK mq0_ kq0_ (by decide) (q := (RX8, TX8, 10)) rfl) rfl rfl hl.1 rfl (lv_room (Nat.le_of_ble_eq_true rfl)) dX2_readMemberHead_181 ⟨(Nat.le_of_ble_eq_true rfl), (Nat.le_of_ble_eq_true rfl)⟩) g hK (by decide) (by decide) (fx' := [(8, 6, q0_, .int x_439), (8, 8, q0_, .int x_434), (9, 8, q3_, .int x_315), (2, 0, a0_, .ref q0_), (2, 1, a0_, .ref q1_), (2, 3, a0_, .ref q2_), (2, 4, a0_, .ref q3_), (2, 5, a0_, .ref q4_), (5, 1, q1_, .ref q5_)]) rfl (fun r_442 fr_442 H locs hp hMr_442 g => ?_)
        obtain ⟨h_443, -⟩ := hp
        obtain rfl : r_442 = 0 := h_443
        refine lv_bipush (v := 41) hx hb dX2_readMemberHead_184 (by decide) ?_
        refine lv_icmp_eq (tgt := 193) hx hb dX2_readMemberHead_186 (by decide) (fun c_ => absurd c_ (by decide)) (fun c_ => ?_)
        refine lv_iconst (v := 1) hx hb dX2_readMemberHead_189 (by decide) ?_
        refine lv_goto (tgt := 194) hx hb dX2_readMemberHead_190 (by decide) ?_
        refine lv_istore (lv' := [(6, .int 1), (5, .int (-1)), (4, .int r_7), (2, .long r_6), (1, .int r_5), (0, .ref a0_)]) hx hb dX2_readMemberHead_194 hl (by decide) rfl (fun ls hl => ?_)
        refine lv_iconst (v := 0) hx hb dX2_readMemberHead_196 (by decide) ?_
        refine lv_istore (lv' := [(7, .int 0), (6, .int 1), (5, .int (-1)), (4, .int r_7), (2, .long r_6), (1, .int r_5), (0, .ref a0_)]) hx hb dX2_readMemberHead_197 hl (by decide) rfl (fun ls hl => ?_)
        have loop_444 : ∀ (n : Nat) (v199_7 : Int32) (v199_6 : Int32) (w199_8_6_q0_ : Int32), bd 0 4 v199_7 → bd 0 1 v199_6 → bd 1201 1201 w199_8_6_q0_ → (4 - v199_7.toInt < (n : Int)) → ∀ (f : Nat → va_E) (H : Heap) (locs : List Loc) (ls : Array Slot), G3 (dC, dI) L kd tys s f0 [(2, 5), (2, 6), (5, 4), (6, 0), (6, 1), (6, 2), (6, 3), (6, 6), (6, 7), (6, 8), (6, 9), (6, 10), (6, 11), (6, 12), (7, 3), (8, 6), (8, 8), (8, 9), (9, 8)] [132, 134, 135, 156] f H locs [(8, 6, q0_, .int w199_8_6_q0_), (8, 8, q0_, .int x_434), (9, 8, q3_, .int x_315), (2, 0, a0_, .ref q0_), (2, 1, a0_, .ref q1_), (2, 3, a0_, .ref q2_), (2, 4, a0_, .ref q3_), (2, 5, a0_, .ref q4_), (5, 1, q1_, .ref q5_)] → lv_has ls 8 [(7, .int v199_7), (6, .int v199_6), (5, .int (-1)), (4, .int r_7), (2, .long r_6), (1, .int r_5), (0, .ref a0_)] → W p l e ({ frames := 3, cells := 0, slots := 0, locals := 72 } : Room) s m [.ref a0_].toArray below meth c H locs 0 0 Q (F0 m 199 ls []) := by
          intro n199
          induction n199 with
          | zero =>
            intro v199_7 v199_6 w199_8_6_q0_ bv199_7 bv199_6 bw199_8_6_q0_ hm199 f H locs ls g  hl
            exact absurd hm199 (by have h9_v199_7 := bv199_7; unfold bd at h9_v199_7; have h9_v199_6 := bv199_6; unfold bd at h9_v199_6; have h9_w199_8_6_q0_ := bw199_8_6_q0_; unfold bd at h9_w199_8_6_q0_; omega)
          | succ n199 ih199 =>
            intro v199_7 v199_6 w199_8_6_q0_ bv199_7 bv199_6 bw199_8_6_q0_ hm199 f H locs ls g  hl
            refine lv_iload hx hb dX2_readMemberHead_199 (lv_at hl 0 rfl) ?_
            refine lv_iconst (v := 3) hx hb dX2_readMemberHead_201 (by decide) ?_
            refine lv_icmp_gt (tgt := 251) hx hb dX2_readMemberHead_202 (by decide) (fun c_445 => ?_) (fun c_445 => ?_)
            · have fc_445 := lt_f c_445
              have b_446 : bd 4 4 v199_7 := ltR fc_445 kb_3 bv199_7 (by decide)
              refine lv_aload_n hx hb dX2_readMemberHead_251 rfl (lv_at hl 6 rfl) ?_
              refine g_getk (C := RX2) (T := TX2) (N := 16) hx hb hts (mc_ inX2) hown hK g rfl 0 (by decide) rfl (hts _ (List.mem_cons_of_mem _ t_416)) (fun _ h9 => h9) 3 rfl dX2_readMemberHead_252 ?_
              refine g_calli (va_runV (As := []) (rest := []) ⟨hx, hb, hml, hown, hts⟩ (r_X8_place l dC dI L kd tys f H.size g.2.2.2.1 q0_ mq0_ kq0_) (cwV 0 hts (gV_ t_1110 t_1111 t_1112 t_184 t_1113) rfl rfl rfl (by decide +kernel) ⟨(Nat.le_of_ble_eq_true rfl), (Nat.le_of_ble_eq_true rfl)⟩) (pre3V g hK mq0_ kq0_ (by decide) (q := (RX8, TX8, 10)) rfl) rfl rfl hl.1 rfl (lv_room (Nat.le_of_ble_eq_true rfl)) dX2_readMemberHead_255 ⟨(Nat.le_of_ble_eq_true rfl), (Nat.le_of_ble_eq_true rfl)⟩) g hK (by decide) (by decide) (fx' := [(8, 6, q0_, .int w199_8_6_q0_), (8, 8, q0_, .int x_434), (9, 8, q3_, .int x_315), (2, 0, a0_, .ref q0_), (2, 1, a0_, .ref q1_), (2, 3, a0_, .ref q2_), (2, 4, a0_, .ref q3_), (2, 5, a0_, .ref q4_), (5, 1, q1_, .ref q5_)]) rfl (fun r_447 fr_447 H locs hp hMr_447 g => ?_)
              refine lv_istore (lv' := [(7, .int r_447), (6, .int v199_6), (5, .int (-1)), (4, .int r_7), (2, .long r_6), (1, .int r_5), (0, .ref a0_)]) hx hb dX2_readMemberHead_258 hl (by decide) rfl (fun ls hl => ?_)
              refine lv_aload_n hx hb dX2_readMemberHead_260 rfl (lv_at hl 6 rfl) ?_
              refine g_getk (C := RX2) (T := TX2) (N := 16) hx hb hts (mc_ inX2) hown hK g rfl 0 (by decide) rfl (hts _ (List.mem_cons_of_mem _ t_416)) (fun _ h9 => h9) 3 rfl dX2_readMemberHead_261 ?_
              refine lv_bipush (v := 41) hx hb dX2_readMemberHead_264 (by decide) ?_
              refine g_callv (va_runV (As := [.int 41]) (rest := []) ⟨hx, hb, hml, hown, hts⟩ (r_X8_take_2 l dC dI L kd tys fr_447 H.size g.2.2.2.1 q0_ mq0_ kq0_ 41 w199_8_6_q0_ bw199_8_6_q0_ x_434 h_435 (g.fcts [0, 1] rfl)) (cwV 1 hts (gV_ t_1098 t_1099 t_1100 t_184 t_1101) rfl rfl rfl (by decide +kernel) ⟨(Nat.le_of_ble_eq_true rfl), (Nat.le_of_ble_eq_true rfl)⟩) (pre3V g hK mq0_ kq0_ (by decide) (q := (RX8, TX8, 10)) rfl) rfl rfl hl.1 rfl (lv_room (Nat.le_of_ble_eq_true rfl)) dX2_readMemberHead_266 ⟨(Nat.le_of_ble_eq_true rfl), (Nat.le_of_ble_eq_true rfl)⟩) g hK (by decide) (by decide) (fx' := [(8, 8, q0_, .int x_434), (9, 8, q3_, .int x_315), (2, 0, a0_, .ref q0_), (2, 1, a0_, .ref q1_), (2, 3, a0_, .ref q2_), (2, 4, a0_, .ref q3_), (2, 5, a0_, .ref q4_), (5, 1, q1_, .ref q5_)]) rfl (fun fr_448 H locs hp hMr_448 g => ?_)
              obtain ⟨x_449, h_450, hF_451⟩ := hp
              have g := g.more hF_451
              refine lv_iload hx hb dX2_readMemberHead_269 (lv_at hl 2 rfl) ?_
              refine lv_iconst (v := (-1)) hx hb dX2_readMemberHead_271 (by decide) ?_
              refine lv_icmp_eq (tgt := 308) hx hb dX2_readMemberHead_272 (by decide) (fun c_ => ?_) (fun c_ => absurd (by decide) c_)
              subst hQ
              exact W.vret hx hb hr (fun t ht hW => ⟨⟨_, rfl, Or.inl ⟨x_449, h_450, x_434, h_435, q4_, ⟨mq4_, kq4_⟩, (g.fcts [0, 1, 7] rfl)⟩, q3_of g hK ht hW⟩, g.2.2.1.F ht⟩) g.2.2.1.2.2 dX2_readMemberHead_308
            · have fc_445 := nlt_f c_445
              have b_452 : bd 0 3 v199_7 := leL fc_445 bv199_7 kb_3 (by decide)
              refine lv_iload hx hb dX2_readMemberHead_205 (lv_at hl 1 rfl) ?_
              have kb_0 : bd 0 0 (0 : Int32) := ⟨by decide, by decide⟩
              refine lv_if_eq (tgt := 251) hx hb dX2_readMemberHead_207 (by decide) (fun c_453 => ?_) (fun c_453 => ?_)
              · have fc_453 := eq_f c_453
                have b_454 : bd 0 0 v199_6 := eqX fc_453 bv199_6 kb_0 (by decide)
                refine lv_aload_n hx hb dX2_readMemberHead_251 rfl (lv_at hl 6 rfl) ?_
                refine g_getk (C := RX2) (T := TX2) (N := 16) hx hb hts (mc_ inX2) hown hK g rfl 0 (by decide) rfl (hts _ (List.mem_cons_of_mem _ t_416)) (fun _ h9 => h9) 3 rfl dX2_readMemberHead_252 ?_
                refine g_calli (va_runV (As := []) (rest := []) ⟨hx, hb, hml, hown, hts⟩ (r_X8_place l dC dI L kd tys f H.size g.2.2.2.1 q0_ mq0_ kq0_) (cwV 0 hts (gV_ t_1110 t_1111 t_1112 t_184 t_1113) rfl rfl rfl (by decide +kernel) ⟨(Nat.le_of_ble_eq_true rfl), (Nat.le_of_ble_eq_true rfl)⟩) (pre3V g hK mq0_ kq0_ (by decide) (q := (RX8, TX8, 10)) rfl) rfl rfl hl.1 rfl (lv_room (Nat.le_of_ble_eq_true rfl)) dX2_readMemberHead_255 ⟨(Nat.le_of_ble_eq_true rfl), (Nat.le_of_ble_eq_true rfl)⟩) g hK (by decide) (by decide) (fx' := [(8, 6, q0_, .int w199_8_6_q0_), (8, 8, q0_, .int x_434), (9, 8, q3_, .int x_315), (2, 0, a0_, .ref q0_), (2, 1, a0_, .ref q1_), (2, 3, a0_, .ref q2_), (2, 4, a0_, .ref q3_), (2, 5, a0_, .ref q4_), (5, 1, q1_, .ref q5_)]) rfl (fun r_455 fr_455 H locs hp hMr_455 g => ?_)
                refine lv_istore (lv' := [(7, .int r_455), (6, .int v199_6), (5, .int (-1)), (4, .int r_7), (2, .long r_6), (1, .int r_5), (0, .ref a0_)]) hx hb dX2_readMemberHead_258 hl (by decide) rfl (fun ls hl => ?_)
                refine lv_aload_n hx hb dX2_readMemberHead_260 rfl (lv_at hl 6 rfl) ?_
                refine g_getk (C := RX2) (T := TX2) (N := 16) hx hb hts (mc_ inX2) hown hK g rfl 0 (by decide) rfl (hts _ (List.mem_cons_of_mem _ t_416)) (fun _ h9 => h9) 3 rfl dX2_readMemberHead_261 ?_
                refine lv_bipush (v := 41) hx hb dX2_readMemberHead_264 (by decide) ?_
                refine g_callv (va_runV (As := [.int 41]) (rest := []) ⟨hx, hb, hml, hown, hts⟩ (r_X8_take_2 l dC dI L kd tys fr_455 H.size g.2.2.2.1 q0_ mq0_ kq0_ 41 w199_8_6_q0_ bw199_8_6_q0_ x_434 h_435 (g.fcts [0, 1] rfl)) (cwV 1 hts (gV_ t_1098 t_1099 t_1100 t_184 t_1101) rfl rfl rfl (by decide +kernel) ⟨(Nat.le_of_ble_eq_true rfl), (Nat.le_of_ble_eq_true rfl)⟩) (pre3V g hK mq0_ kq0_ (by decide) (q := (RX8, TX8, 10)) rfl) rfl rfl hl.1 rfl (lv_room (Nat.le_of_ble_eq_true rfl)) dX2_readMemberHead_266 ⟨(Nat.le_of_ble_eq_true rfl), (Nat.le_of_ble_eq_true rfl)⟩) g hK (by decide) (by decide) (fx' := [(8, 8, q0_, .int x_434), (9, 8, q3_, .int x_315), (2, 0, a0_, .ref q0_), (2, 1, a0_, .ref q1_), (2, 3, a0_, .ref q2_), (2, 4, a0_, .ref q3_), (2, 5, a0_, .ref q4_), (5, 1, q1_, .ref q5_)]) rfl (fun fr_456 H locs hp hMr_456 g => ?_)
                obtain ⟨x_457, h_458, hF_459⟩ := hp
                have g := g.more hF_459
                refine lv_iload hx hb dX2_readMemberHead_269 (lv_at hl 2 rfl) ?_
                refine lv_iconst (v := (-1)) hx hb dX2_readMemberHead_271 (by decide) ?_
                refine lv_icmp_eq (tgt := 308) hx hb dX2_readMemberHead_272 (by decide) (fun c_ => ?_) (fun c_ => absurd (by decide) c_)
                subst hQ
                exact W.vret hx hb hr (fun t ht hW => ⟨⟨_, rfl, Or.inl ⟨x_457, h_458, x_434, h_435, q4_, ⟨mq4_, kq4_⟩, (g.fcts [0, 1, 7] rfl)⟩, q3_of g hK ht hW⟩, g.2.2.1.F ht⟩) g.2.2.1.2.2 dX2_readMemberHead_308
              · have fc_453 := neq_f c_453
                have b_460 : bd 1 1 v199_6 := neX fc_453 bv199_6 kb_0 (by decide)
                refine lv_aload_n hx hb dX2_readMemberHead_210 rfl (lv_at hl 6 rfl) ?_
                refine g_callv (va_runV (As := []) (rest := []) ⟨hx, hb, hml, hown, hts⟩ (r_X2_readParam_2 l dC dI L kd tys f H.size g.2.2.2.1 a0_ ma0_ ka0_ q0_ mq0_ kq0_ q1_ mq1_ kq1_ q4_ mq4_ kq4_ q5_ mq5_ kq5_ w199_8_6_q0_ bw199_8_6_q0_ x_434 h_435 (g.fcts [3, 4, 7, 8, 0, 1] rfl)) (cwV 0 hts (gV_ t_1313 t_1315 t_34 t_183 t_1316) rfl rfl rfl (by decide +kernel) ⟨(Nat.le_of_ble_eq_true rfl), (Nat.le_of_ble_eq_true rfl)⟩) (pre3V g hK ma0_ ka0_ (by decide) (q := (RX2, TX2, 16)) rfl) rfl rfl hl.1 rfl (lv_room (Nat.le_of_ble_eq_true rfl)) dX2_readMemberHead_211 ⟨(Nat.le_of_ble_eq_true rfl), (Nat.le_of_ble_eq_true rfl)⟩) g hK (by decide) (by decide) (fx' := [(8, 8, q0_, .int x_434), (9, 8, q3_, .int x_315), (2, 0, a0_, .ref q0_), (2, 1, a0_, .ref q1_), (2, 3, a0_, .ref q2_), (2, 4, a0_, .ref q3_), (2, 5, a0_, .ref q4_), (5, 1, q1_, .ref q5_)]) rfl (fun fr_461 H locs hp hMr_461 g => ?_)
                have hF_462 := hp
                have g := g.more hF_462
                refine lv_aload_n hx hb dX2_readMemberHead_214 rfl (lv_at hl 6 rfl) ?_
                refine g_getk (C := RX2) (T := TX2) (N := 16) hx hb hts (mc_ inX2) hown hK g rfl 0 (by decide) rfl (hts _ (List.mem_cons_of_mem _ t_416)) (fun _ h9 => h9) 3 rfl dX2_readMemberHead_215 ?_
                refine g_calli (va_runV (As := []) (rest := []) ⟨hx, hb, hml, hown, hts⟩ (r_X8_kind_2 l dC dI L kd tys fr_461 H.size g.2.2.2.1 q0_ mq0_ kq0_ 1201 kb_1201 (g.fcts [0] rfl)) (cwV 0 hts (gV_ t_1118 t_1119 t_1120 t_184 t_1121) rfl rfl rfl (by decide +kernel) ⟨(Nat.le_of_ble_eq_true rfl), (Nat.le_of_ble_eq_true rfl)⟩) (pre3V g hK mq0_ kq0_ (by decide) (q := (RX8, TX8, 10)) rfl) rfl rfl hl.1 rfl (lv_room (Nat.le_of_ble_eq_true rfl)) dX2_readMemberHead_218 ⟨(Nat.le_of_ble_eq_true rfl), (Nat.le_of_ble_eq_true rfl)⟩) g hK (by decide) (by decide) (fx' := [(8, 6, q0_, .int 1201), (8, 8, q0_, .int x_434), (9, 8, q3_, .int x_315), (2, 0, a0_, .ref q0_), (2, 1, a0_, .ref q1_), (2, 3, a0_, .ref q2_), (2, 4, a0_, .ref q3_), (2, 5, a0_, .ref q4_), (5, 1, q1_, .ref q5_)]) rfl (fun r_463 fr_463 H locs hp hMr_463 g => ?_)
                obtain ⟨h_464, -⟩ := hp
                obtain rfl : r_463 = 0 := h_464
                refine lv_bipush (v := 44) hx hb dX2_readMemberHead_221 (by decide) ?_
                refine lv_icmp_ne (tgt := 230) hx hb dX2_readMemberHead_223 (by decide) (fun c_ => ?_) (fun c_ => absurd c_ (by decide))
                refine lv_iconst (v := 0) hx hb dX2_readMemberHead_230 (by decide) ?_
                refine lv_istore (lv' := [(6, .int 0), (7, .int v199_7), (5, .int (-1)), (4, .int r_7), (2, .long r_6), (1, .int r_5), (0, .ref a0_)]) hx hb dX2_readMemberHead_231 hl (by decide) rfl (fun ls hl => ?_)
                refine lv_iload hx hb dX2_readMemberHead_233 (lv_at hl 0 rfl) ?_
                refine lv_if_eq (tgt := 245) hx hb dX2_readMemberHead_235 (by decide) (fun c_ => ?_) (fun c_ => absurd (by decide) c_)
                have kb_1 : bd 1 1 (1 : Int32) := ⟨by decide, by decide⟩
                obtain ⟨y_465, ey_465⟩ : ∃ z : Int32, z = v199_7 + 1 := ⟨_, rfl⟩
                refine lv_iinc (v := y_465) (lv' := [(7, .int y_465), (6, .int 0), (5, .int (-1)), (4, .int r_7), (2, .long r_6), (1, .int r_5), (0, .ref a0_)]) hx hb dX2_readMemberHead_245 hl (k := 1) rfl (by rw [ey_465]; rfl) (by decide) rfl (fun ls hl => ?_)
                have ty_465 := add_bd ey_465 b_452 kb_1 (by decide)
                have b_466 : bd 1 4 y_465 := add_rg ty_465 b_452 kb_1 (by decide)
                refine lv_goto (tgt := 199) hx hb dX2_readMemberHead_248 (by decide) ?_
                have hl9 := lv_sub hl [0, 1, 2, 3, 4, 5, 6] (by rfl : lv_pick [(7, .int y_465), (6, .int 0), (5, .int (-1)), (4, .int r_7), (2, .long r_6), (1, .int r_5), (0, .ref a0_)] [0, 1, 2, 3, 4, 5, 6] = [(7, .int y_465), (6, .int 0), (5, .int (-1)), (4, .int r_7), (2, .long r_6), (1, .int r_5), (0, .ref a0_)])
                have g9 := g.sub (fx' := [(8, 6, q0_, .int 1201), (8, 8, q0_, .int x_434), (9, 8, q3_, .int x_315), (2, 0, a0_, .ref q0_), (2, 1, a0_, .ref q1_), (2, 3, a0_, .ref q2_), (2, 4, a0_, .ref q3_), (2, 5, a0_, .ref q4_), (5, 1, q1_, .ref q5_)]) [0, 1, 2, 3, 4, 5, 6, 7, 8] rfl
                exact ih199  y_465 0 1201 (bd_sub b_466 (by decide)) (bd_sub kb_0 (by decide)) kb_1201 (by have h9_0 := b_466; unfold bd at h9_0; have h9_1 := bv199_6; unfold bd at h9_1; have h9_2 := bv199_7; unfold bd at h9_2; have h9_3 := bw199_8_6_q0_; unfold bd at h9_3; have h9_4 := kb_0; unfold bd at h9_4; have h9_5 := kb_1; unfold bd at h9_5; have h9_6 := kb_12; unfold bd at h9_6; have h9_7 := kb_1201; unfold bd at h9_7; have h9_8 := kb_3; unfold bd at h9_8; have h9_9 := kb_4; unfold bd at h9_9; have h9_10 := kb_m1; unfold bd at h9_10; omega) _ _ _ _ g9  hl9
        have kb_0 : bd 0 0 (0 : Int32) := ⟨by decide, by decide⟩
        have kb_1 : bd 1 1 (1 : Int32) := ⟨by decide, by decide⟩
        have hl9 := lv_sub hl [0, 1, 2, 3, 4, 5, 6] (by rfl : lv_pick [(7, .int 0), (6, .int 1), (5, .int (-1)), (4, .int r_7), (2, .long r_6), (1, .int r_5), (0, .ref a0_)] [0, 1, 2, 3, 4, 5, 6] = [(7, .int 0), (6, .int 1), (5, .int (-1)), (4, .int r_7), (2, .long r_6), (1, .int r_5), (0, .ref a0_)])
        have g9 := g.sub (fx' := [(8, 6, q0_, .int x_439), (8, 8, q0_, .int x_434), (9, 8, q3_, .int x_315), (2, 0, a0_, .ref q0_), (2, 1, a0_, .ref q1_), (2, 3, a0_, .ref q2_), (2, 4, a0_, .ref q3_), (2, 5, a0_, .ref q4_), (5, 1, q1_, .ref q5_)]) [0, 1, 2, 3, 4, 5, 6, 7, 8] rfl
        exact loop_444 (11) 0 1 x_439 (bd_sub kb_0 (by decide)) (bd_sub kb_1 (by decide)) h_440 (by have h9_0 := h_440; unfold bd at h9_0; have h9_1 := kb_0; unfold bd at h9_1; have h9_2 := kb_1; unfold bd at h9_2; have h9_3 := kb_12; unfold bd at h9_3; have h9_4 := kb_1201; unfold bd at h9_4; have h9_5 := kb_3; unfold bd at h9_5; have h9_6 := kb_4; unfold bd at h9_6; have h9_7 := kb_m1; unfold bd at h9_7; omega) _ _ _ _ g9  hl9
    · have fc_313 := neq_f c_313
      refine lv_aload_n hx hb dX2_readMemberHead_70 rfl (lv_at hl 4 rfl) ?_
      refine g_getk (C := RX2) (T := TX2) (N := 16) hx hb hts (mc_ inX2) hown hK g rfl 0 (by decide) rfl (hts _ (List.mem_cons_of_mem _ t_416)) (fun _ h9 => h9) 1 rfl dX2_readMemberHead_71 ?_
      refine lv_iconst (v := 1) hx hb dX2_readMemberHead_74 (by decide) ?_
      refine lv_iload_n hx hb dX2_readMemberHead_75 rfl (lv_at hl 3 rfl) ?_
      have kb_1 : bd 1 1 (1 : Int32) := ⟨by decide, by decide⟩
      refine g_callv (va_runV (As := [.int 1, .int r_5]) (rest := []) ⟨hx, hb, hml, hown, hts⟩ (r_X8_fail_7 l dC dI L kd tys fr_312 H.size g.2.2.2.1 q0_ mq0_ kq0_ 1 kb_1 r_5) (cwV 2 hts (gV_ t_1122 t_1107 t_1108 t_184 t_1109) rfl rfl rfl (by decide +kernel) ⟨(Nat.le_of_ble_eq_true rfl), (Nat.le_of_ble_eq_true rfl)⟩) (pre3V g hK mq0_ kq0_ (by decide) (q := (RX8, TX8, 10)) rfl) rfl rfl hl.1 rfl (lv_room (Nat.le_of_ble_eq_true rfl)) dX2_readMemberHead_76 ⟨(Nat.le_of_ble_eq_true rfl), (Nat.le_of_ble_eq_true rfl)⟩) g hK (by decide) (by decide) (fx' := [(2, 0, a0_, .ref q0_), (2, 1, a0_, .ref q1_), (2, 3, a0_, .ref q2_), (2, 4, a0_, .ref q3_), (2, 5, a0_, .ref q4_), (5, 1, q1_, .ref q5_)]) rfl (fun fr_467 H locs hp hMr_467 g => ?_)
      obtain ⟨x_468, h_469, hF_470⟩ := hp
      have g := g.more hF_470
      refine lv_goto (tgt := 161) hx hb dX2_readMemberHead_79 (by decide) ?_
      refine lv_aload_n hx hb dX2_readMemberHead_161 rfl (lv_at hl 4 rfl) ?_
      refine g_getk (C := RX2) (T := TX2) (N := 16) hx hb hts (mc_ inX2) hown hK g rfl 0 (by decide) rfl (hts _ (List.mem_cons_of_mem _ t_416)) (fun _ h9 => h9) 2 rfl dX2_readMemberHead_162 ?_
      have kb_1201 : bd 1201 1201 (1201 : Int32) := ⟨by decide, by decide⟩
      refine g_callv (va_runV (As := []) (rest := []) ⟨hx, hb, hml, hown, hts⟩ (r_X8_next_2 l dC dI L kd tys fr_467 H.size g.2.2.2.1 q0_ mq0_ kq0_ 1201 kb_1201 (g.fcts [0] rfl)) (cwV 0 hts (gV_ t_1131 t_1103 t_1104 t_184 t_1105) rfl rfl rfl (by decide +kernel) ⟨(Nat.le_of_ble_eq_true rfl), (Nat.le_of_ble_eq_true rfl)⟩) (pre3V g hK mq0_ kq0_ (by decide) (q := (RX8, TX8, 10)) rfl) rfl rfl hl.1 rfl (lv_room (Nat.le_of_ble_eq_true rfl)) dX2_readMemberHead_165 ⟨(Nat.le_of_ble_eq_true rfl), (Nat.le_of_ble_eq_true rfl)⟩) g hK (by decide) (by decide) (fx' := [(8, 6, q0_, .int 1201), (8, 8, q0_, .int x_468), (2, 0, a0_, .ref q0_), (2, 1, a0_, .ref q1_), (2, 3, a0_, .ref q2_), (2, 4, a0_, .ref q3_), (2, 5, a0_, .ref q4_), (5, 1, q1_, .ref q5_)]) rfl (fun fr_471 H locs hp hMr_471 g => ?_)
      refine lv_aload_n hx hb dX2_readMemberHead_168 rfl (lv_at hl 4 rfl) ?_
      refine g_getk (C := RX2) (T := TX2) (N := 16) hx hb hts (mc_ inX2) hown hK g rfl 0 (by decide) rfl (hts _ (List.mem_cons_of_mem _ t_416)) (fun _ h9 => h9) 2 rfl dX2_readMemberHead_169 ?_
      refine lv_bipush (v := 40) hx hb dX2_readMemberHead_172 (by decide) ?_
      refine g_callv (va_runV (As := [.int 40]) (rest := []) ⟨hx, hb, hml, hown, hts⟩ (r_X8_take_2 l dC dI L kd tys fr_471 H.size g.2.2.2.1 q0_ mq0_ kq0_ 40 1201 kb_1201 x_468 h_469 (g.fcts [0, 1] rfl)) (cwV 1 hts (gV_ t_1098 t_1099 t_1100 t_184 t_1101) rfl rfl rfl (by decide +kernel) ⟨(Nat.le_of_ble_eq_true rfl), (Nat.le_of_ble_eq_true rfl)⟩) (pre3V g hK mq0_ kq0_ (by decide) (q := (RX8, TX8, 10)) rfl) rfl rfl hl.1 rfl (lv_room (Nat.le_of_ble_eq_true rfl)) dX2_readMemberHead_174 ⟨(Nat.le_of_ble_eq_true rfl), (Nat.le_of_ble_eq_true rfl)⟩) g hK (by decide) (by decide) (fx' := [(8, 8, q0_, .int x_468), (2, 0, a0_, .ref q0_), (2, 1, a0_, .ref q1_), (2, 3, a0_, .ref q2_), (2, 4, a0_, .ref q3_), (2, 5, a0_, .ref q4_), (5, 1, q1_, .ref q5_)]) rfl (fun fr_472 H locs hp hMr_472 g => ?_)
      obtain ⟨x_473, h_474, hF_475⟩ := hp
      have g := g.more hF_475
      refine lv_aload_n hx hb dX2_readMemberHead_177 rfl (lv_at hl 4 rfl) ?_
      refine g_getk (C := RX2) (T := TX2) (N := 16) hx hb hts (mc_ inX2) hown hK g rfl 0 (by decide) rfl (hts _ (List.mem_cons_of_mem _ t_416)) (fun _ h9 => h9) 2 rfl dX2_readMemberHead_178 ?_
      refine g_calli (va_runV (As := []) (rest := []) ⟨hx, hb, hml, hown, hts⟩ (r_X8_kind_2 l dC dI L kd tys fr_472 H.size g.2.2.2.1 q0_ mq0_ kq0_ x_473 h_474 (g.fcts [0] rfl)) (cwV 0 hts (gV_ t_1118 t_1119 t_1120 t_184 t_1121) rfl rfl rfl (by decide +kernel) ⟨(Nat.le_of_ble_eq_true rfl), (Nat.le_of_ble_eq_true rfl)⟩) (pre3V g hK mq0_ kq0_ (by decide) (q := (RX8, TX8, 10)) rfl) rfl rfl hl.1 rfl (lv_room (Nat.le_of_ble_eq_true rfl)) dX2_readMemberHead_181 ⟨(Nat.le_of_ble_eq_true rfl), (Nat.le_of_ble_eq_true rfl)⟩) g hK (by decide) (by decide) (fx' := [(8, 6, q0_, .int x_473), (8, 8, q0_, .int x_468), (2, 0, a0_, .ref q0_), (2, 1, a0_, .ref q1_), (2, 3, a0_, .ref q2_), (2, 4, a0_, .ref q3_), (2, 5, a0_, .ref q4_), (5, 1, q1_, .ref q5_)]) rfl (fun r_476 fr_476 H locs hp hMr_476 g => ?_)
      obtain ⟨h_477, -⟩ := hp
      obtain rfl : r_476 = 0 := h_477
      refine lv_bipush (v := 41) hx hb dX2_readMemberHead_184 (by decide) ?_
      refine lv_icmp_eq (tgt := 193) hx hb dX2_readMemberHead_186 (by decide) (fun c_ => absurd c_ (by decide)) (fun c_ => ?_)
      refine lv_iconst (v := 1) hx hb dX2_readMemberHead_189 (by decide) ?_
      refine lv_goto (tgt := 194) hx hb dX2_readMemberHead_190 (by decide) ?_
      refine lv_istore (lv' := [(6, .int 1), (5, .int (-1)), (4, .int r_7), (2, .long r_6), (1, .int r_5), (0, .ref a0_)]) hx hb dX2_readMemberHead_194 hl (by decide) rfl (fun ls hl => ?_)
      refine lv_iconst (v := 0) hx hb dX2_readMemberHead_196 (by decide) ?_
      refine lv_istore (lv' := [(7, .int 0), (6, .int 1), (5, .int (-1)), (4, .int r_7), (2, .long r_6), (1, .int r_5), (0, .ref a0_)]) hx hb dX2_readMemberHead_197 hl (by decide) rfl (fun ls hl => ?_)
      have loop_478 : ∀ (n : Nat) (v199_7 : Int32) (v199_6 : Int32) (w199_8_6_q0_ : Int32), bd 0 4 v199_7 → bd 0 1 v199_6 → bd 1201 1201 w199_8_6_q0_ → (4 - v199_7.toInt < (n : Int)) → ∀ (f : Nat → va_E) (H : Heap) (locs : List Loc) (ls : Array Slot), G3 (dC, dI) L kd tys s f0 [(2, 5), (2, 6), (5, 4), (6, 0), (6, 1), (6, 2), (6, 3), (6, 6), (6, 7), (6, 8), (6, 9), (6, 10), (6, 11), (6, 12), (7, 3), (8, 6), (8, 8), (8, 9), (9, 8)] [132, 134, 135, 156] f H locs [(8, 6, q0_, .int w199_8_6_q0_), (8, 8, q0_, .int x_468), (2, 0, a0_, .ref q0_), (2, 1, a0_, .ref q1_), (2, 3, a0_, .ref q2_), (2, 4, a0_, .ref q3_), (2, 5, a0_, .ref q4_), (5, 1, q1_, .ref q5_)] → lv_has ls 8 [(7, .int v199_7), (6, .int v199_6), (5, .int (-1)), (4, .int r_7), (2, .long r_6), (1, .int r_5), (0, .ref a0_)] → W p l e ({ frames := 3, cells := 0, slots := 0, locals := 72 } : Room) s m [.ref a0_].toArray below meth c H locs 0 0 Q (F0 m 199 ls []) := by
        intro n199
        induction n199 with
        | zero =>
          intro v199_7 v199_6 w199_8_6_q0_ bv199_7 bv199_6 bw199_8_6_q0_ hm199 f H locs ls g  hl
          exact absurd hm199 (by have h9_v199_7 := bv199_7; unfold bd at h9_v199_7; have h9_v199_6 := bv199_6; unfold bd at h9_v199_6; have h9_w199_8_6_q0_ := bw199_8_6_q0_; unfold bd at h9_w199_8_6_q0_; omega)
        | succ n199 ih199 =>
          intro v199_7 v199_6 w199_8_6_q0_ bv199_7 bv199_6 bw199_8_6_q0_ hm199 f H locs ls g  hl
          refine lv_iload hx hb dX2_readMemberHead_199 (lv_at hl 0 rfl) ?_
          refine lv_iconst (v := 3) hx hb dX2_readMemberHead_201 (by decide) ?_
          refine lv_icmp_gt (tgt := 251) hx hb dX2_readMemberHead_202 (by decide) (fun c_479 => ?_) (fun c_479 => ?_)
          · have fc_479 := lt_f c_479
            have b_480 : bd 4 4 v199_7 := ltR fc_479 kb_3 bv199_7 (by decide)
            refine lv_aload_n hx hb dX2_readMemberHead_251 rfl (lv_at hl 6 rfl) ?_
            refine g_getk (C := RX2) (T := TX2) (N := 16) hx hb hts (mc_ inX2) hown hK g rfl 0 (by decide) rfl (hts _ (List.mem_cons_of_mem _ t_416)) (fun _ h9 => h9) 2 rfl dX2_readMemberHead_252 ?_
            refine g_calli (va_runV (As := []) (rest := []) ⟨hx, hb, hml, hown, hts⟩ (r_X8_place l dC dI L kd tys f H.size g.2.2.2.1 q0_ mq0_ kq0_) (cwV 0 hts (gV_ t_1110 t_1111 t_1112 t_184 t_1113) rfl rfl rfl (by decide +kernel) ⟨(Nat.le_of_ble_eq_true rfl), (Nat.le_of_ble_eq_true rfl)⟩) (pre3V g hK mq0_ kq0_ (by decide) (q := (RX8, TX8, 10)) rfl) rfl rfl hl.1 rfl (lv_room (Nat.le_of_ble_eq_true rfl)) dX2_readMemberHead_255 ⟨(Nat.le_of_ble_eq_true rfl), (Nat.le_of_ble_eq_true rfl)⟩) g hK (by decide) (by decide) (fx' := [(8, 6, q0_, .int w199_8_6_q0_), (8, 8, q0_, .int x_468), (2, 0, a0_, .ref q0_), (2, 1, a0_, .ref q1_), (2, 3, a0_, .ref q2_), (2, 4, a0_, .ref q3_), (2, 5, a0_, .ref q4_), (5, 1, q1_, .ref q5_)]) rfl (fun r_481 fr_481 H locs hp hMr_481 g => ?_)
            refine lv_istore (lv' := [(7, .int r_481), (6, .int v199_6), (5, .int (-1)), (4, .int r_7), (2, .long r_6), (1, .int r_5), (0, .ref a0_)]) hx hb dX2_readMemberHead_258 hl (by decide) rfl (fun ls hl => ?_)
            refine lv_aload_n hx hb dX2_readMemberHead_260 rfl (lv_at hl 6 rfl) ?_
            refine g_getk (C := RX2) (T := TX2) (N := 16) hx hb hts (mc_ inX2) hown hK g rfl 0 (by decide) rfl (hts _ (List.mem_cons_of_mem _ t_416)) (fun _ h9 => h9) 2 rfl dX2_readMemberHead_261 ?_
            refine lv_bipush (v := 41) hx hb dX2_readMemberHead_264 (by decide) ?_
            refine g_callv (va_runV (As := [.int 41]) (rest := []) ⟨hx, hb, hml, hown, hts⟩ (r_X8_take_2 l dC dI L kd tys fr_481 H.size g.2.2.2.1 q0_ mq0_ kq0_ 41 w199_8_6_q0_ bw199_8_6_q0_ x_468 h_469 (g.fcts [0, 1] rfl)) (cwV 1 hts (gV_ t_1098 t_1099 t_1100 t_184 t_1101) rfl rfl rfl (by decide +kernel) ⟨(Nat.le_of_ble_eq_true rfl), (Nat.le_of_ble_eq_true rfl)⟩) (pre3V g hK mq0_ kq0_ (by decide) (q := (RX8, TX8, 10)) rfl) rfl rfl hl.1 rfl (lv_room (Nat.le_of_ble_eq_true rfl)) dX2_readMemberHead_266 ⟨(Nat.le_of_ble_eq_true rfl), (Nat.le_of_ble_eq_true rfl)⟩) g hK (by decide) (by decide) (fx' := [(8, 8, q0_, .int x_468), (2, 0, a0_, .ref q0_), (2, 1, a0_, .ref q1_), (2, 3, a0_, .ref q2_), (2, 4, a0_, .ref q3_), (2, 5, a0_, .ref q4_), (5, 1, q1_, .ref q5_)]) rfl (fun fr_482 H locs hp hMr_482 g => ?_)
            obtain ⟨x_483, h_484, hF_485⟩ := hp
            have g := g.more hF_485
            refine lv_iload hx hb dX2_readMemberHead_269 (lv_at hl 2 rfl) ?_
            refine lv_iconst (v := (-1)) hx hb dX2_readMemberHead_271 (by decide) ?_
            refine lv_icmp_eq (tgt := 308) hx hb dX2_readMemberHead_272 (by decide) (fun c_ => ?_) (fun c_ => absurd (by decide) c_)
            subst hQ
            exact W.vret hx hb hr (fun t ht hW => ⟨⟨_, rfl, Or.inl ⟨x_483, h_484, x_468, h_469, q4_, ⟨mq4_, kq4_⟩, (g.fcts [0, 1, 6] rfl)⟩, q3_of g hK ht hW⟩, g.2.2.1.F ht⟩) g.2.2.1.2.2 dX2_readMemberHead_308
          · have fc_479 := nlt_f c_479
            have b_486 : bd 0 3 v199_7 := leL fc_479 bv199_7 kb_3 (by decide)
            refine lv_iload hx hb dX2_readMemberHead_205 (lv_at hl 1 rfl) ?_
            have kb_0 : bd 0 0 (0 : Int32) := ⟨by decide, by decide⟩
            refine lv_if_eq (tgt := 251) hx hb dX2_readMemberHead_207 (by decide) (fun c_487 => ?_) (fun c_487 => ?_)
            · have fc_487 := eq_f c_487
              have b_488 : bd 0 0 v199_6 := eqX fc_487 bv199_6 kb_0 (by decide)
              refine lv_aload_n hx hb dX2_readMemberHead_251 rfl (lv_at hl 6 rfl) ?_
              refine g_getk (C := RX2) (T := TX2) (N := 16) hx hb hts (mc_ inX2) hown hK g rfl 0 (by decide) rfl (hts _ (List.mem_cons_of_mem _ t_416)) (fun _ h9 => h9) 2 rfl dX2_readMemberHead_252 ?_
              refine g_calli (va_runV (As := []) (rest := []) ⟨hx, hb, hml, hown, hts⟩ (r_X8_place l dC dI L kd tys f H.size g.2.2.2.1 q0_ mq0_ kq0_) (cwV 0 hts (gV_ t_1110 t_1111 t_1112 t_184 t_1113) rfl rfl rfl (by decide +kernel) ⟨(Nat.le_of_ble_eq_true rfl), (Nat.le_of_ble_eq_true rfl)⟩) (pre3V g hK mq0_ kq0_ (by decide) (q := (RX8, TX8, 10)) rfl) rfl rfl hl.1 rfl (lv_room (Nat.le_of_ble_eq_true rfl)) dX2_readMemberHead_255 ⟨(Nat.le_of_ble_eq_true rfl), (Nat.le_of_ble_eq_true rfl)⟩) g hK (by decide) (by decide) (fx' := [(8, 6, q0_, .int w199_8_6_q0_), (8, 8, q0_, .int x_468), (2, 0, a0_, .ref q0_), (2, 1, a0_, .ref q1_), (2, 3, a0_, .ref q2_), (2, 4, a0_, .ref q3_), (2, 5, a0_, .ref q4_), (5, 1, q1_, .ref q5_)]) rfl (fun r_489 fr_489 H locs hp hMr_489 g => ?_)
              refine lv_istore (lv' := [(7, .int r_489), (6, .int v199_6), (5, .int (-1)), (4, .int r_7), (2, .long r_6), (1, .int r_5), (0, .ref a0_)]) hx hb dX2_readMemberHead_258 hl (by decide) rfl (fun ls hl => ?_)
              refine lv_aload_n hx hb dX2_readMemberHead_260 rfl (lv_at hl 6 rfl) ?_
              refine g_getk (C := RX2) (T := TX2) (N := 16) hx hb hts (mc_ inX2) hown hK g rfl 0 (by decide) rfl (hts _ (List.mem_cons_of_mem _ t_416)) (fun _ h9 => h9) 2 rfl dX2_readMemberHead_261 ?_
              refine lv_bipush (v := 41) hx hb dX2_readMemberHead_264 (by decide) ?_
              refine g_callv (va_runV (As := [.int 41]) (rest := []) ⟨hx, hb, hml, hown, hts⟩ (r_X8_take_2 l dC dI L kd tys fr_489 H.size g.2.2.2.1 q0_ mq0_ kq0_ 41 w199_8_6_q0_ bw199_8_6_q0_ x_468 h_469 (g.fcts [0, 1] rfl)) (cwV 1 hts (gV_ t_1098 t_1099 t_1100 t_184 t_1101) rfl rfl rfl (by decide +kernel) ⟨(Nat.le_of_ble_eq_true rfl), (Nat.le_of_ble_eq_true rfl)⟩) (pre3V g hK mq0_ kq0_ (by decide) (q := (RX8, TX8, 10)) rfl) rfl rfl hl.1 rfl (lv_room (Nat.le_of_ble_eq_true rfl)) dX2_readMemberHead_266 ⟨(Nat.le_of_ble_eq_true rfl), (Nat.le_of_ble_eq_true rfl)⟩) g hK (by decide) (by decide) (fx' := [(8, 8, q0_, .int x_468), (2, 0, a0_, .ref q0_), (2, 1, a0_, .ref q1_), (2, 3, a0_, .ref q2_), (2, 4, a0_, .ref q3_), (2, 5, a0_, .ref q4_), (5, 1, q1_, .ref q5_)]) rfl (fun fr_490 H locs hp hMr_490 g => ?_)
              obtain ⟨x_491, h_492, hF_493⟩ := hp
              have g := g.more hF_493
              refine lv_iload hx hb dX2_readMemberHead_269 (lv_at hl 2 rfl) ?_
              refine lv_iconst (v := (-1)) hx hb dX2_readMemberHead_271 (by decide) ?_
              refine lv_icmp_eq (tgt := 308) hx hb dX2_readMemberHead_272 (by decide) (fun c_ => ?_) (fun c_ => absurd (by decide) c_)
              subst hQ
              exact W.vret hx hb hr (fun t ht hW => ⟨⟨_, rfl, Or.inl ⟨x_491, h_492, x_468, h_469, q4_, ⟨mq4_, kq4_⟩, (g.fcts [0, 1, 6] rfl)⟩, q3_of g hK ht hW⟩, g.2.2.1.F ht⟩) g.2.2.1.2.2 dX2_readMemberHead_308
            · have fc_487 := neq_f c_487
              have b_494 : bd 1 1 v199_6 := neX fc_487 bv199_6 kb_0 (by decide)
              refine lv_aload_n hx hb dX2_readMemberHead_210 rfl (lv_at hl 6 rfl) ?_
              refine g_callv (va_runV (As := []) (rest := []) ⟨hx, hb, hml, hown, hts⟩ (r_X2_readParam_2 l dC dI L kd tys f H.size g.2.2.2.1 a0_ ma0_ ka0_ q0_ mq0_ kq0_ q1_ mq1_ kq1_ q4_ mq4_ kq4_ q5_ mq5_ kq5_ w199_8_6_q0_ bw199_8_6_q0_ x_468 h_469 (g.fcts [2, 3, 6, 7, 0, 1] rfl)) (cwV 0 hts (gV_ t_1313 t_1315 t_34 t_183 t_1316) rfl rfl rfl (by decide +kernel) ⟨(Nat.le_of_ble_eq_true rfl), (Nat.le_of_ble_eq_true rfl)⟩) (pre3V g hK ma0_ ka0_ (by decide) (q := (RX2, TX2, 16)) rfl) rfl rfl hl.1 rfl (lv_room (Nat.le_of_ble_eq_true rfl)) dX2_readMemberHead_211 ⟨(Nat.le_of_ble_eq_true rfl), (Nat.le_of_ble_eq_true rfl)⟩) g hK (by decide) (by decide) (fx' := [(8, 8, q0_, .int x_468), (2, 0, a0_, .ref q0_), (2, 1, a0_, .ref q1_), (2, 3, a0_, .ref q2_), (2, 4, a0_, .ref q3_), (2, 5, a0_, .ref q4_), (5, 1, q1_, .ref q5_)]) rfl (fun fr_495 H locs hp hMr_495 g => ?_)
              have hF_496 := hp
              have g := g.more hF_496
              refine lv_aload_n hx hb dX2_readMemberHead_214 rfl (lv_at hl 6 rfl) ?_
              refine g_getk (C := RX2) (T := TX2) (N := 16) hx hb hts (mc_ inX2) hown hK g rfl 0 (by decide) rfl (hts _ (List.mem_cons_of_mem _ t_416)) (fun _ h9 => h9) 2 rfl dX2_readMemberHead_215 ?_
              refine g_calli (va_runV (As := []) (rest := []) ⟨hx, hb, hml, hown, hts⟩ (r_X8_kind_2 l dC dI L kd tys fr_495 H.size g.2.2.2.1 q0_ mq0_ kq0_ 1201 kb_1201 (g.fcts [0] rfl)) (cwV 0 hts (gV_ t_1118 t_1119 t_1120 t_184 t_1121) rfl rfl rfl (by decide +kernel) ⟨(Nat.le_of_ble_eq_true rfl), (Nat.le_of_ble_eq_true rfl)⟩) (pre3V g hK mq0_ kq0_ (by decide) (q := (RX8, TX8, 10)) rfl) rfl rfl hl.1 rfl (lv_room (Nat.le_of_ble_eq_true rfl)) dX2_readMemberHead_218 ⟨(Nat.le_of_ble_eq_true rfl), (Nat.le_of_ble_eq_true rfl)⟩) g hK (by decide) (by decide) (fx' := [(8, 6, q0_, .int 1201), (8, 8, q0_, .int x_468), (2, 0, a0_, .ref q0_), (2, 1, a0_, .ref q1_), (2, 3, a0_, .ref q2_), (2, 4, a0_, .ref q3_), (2, 5, a0_, .ref q4_), (5, 1, q1_, .ref q5_)]) rfl (fun r_497 fr_497 H locs hp hMr_497 g => ?_)
              obtain ⟨h_498, -⟩ := hp
              obtain rfl : r_497 = 0 := h_498
              refine lv_bipush (v := 44) hx hb dX2_readMemberHead_221 (by decide) ?_
              refine lv_icmp_ne (tgt := 230) hx hb dX2_readMemberHead_223 (by decide) (fun c_ => ?_) (fun c_ => absurd c_ (by decide))
              refine lv_iconst (v := 0) hx hb dX2_readMemberHead_230 (by decide) ?_
              refine lv_istore (lv' := [(6, .int 0), (7, .int v199_7), (5, .int (-1)), (4, .int r_7), (2, .long r_6), (1, .int r_5), (0, .ref a0_)]) hx hb dX2_readMemberHead_231 hl (by decide) rfl (fun ls hl => ?_)
              refine lv_iload hx hb dX2_readMemberHead_233 (lv_at hl 0 rfl) ?_
              refine lv_if_eq (tgt := 245) hx hb dX2_readMemberHead_235 (by decide) (fun c_ => ?_) (fun c_ => absurd (by decide) c_)
              obtain ⟨y_499, ey_499⟩ : ∃ z : Int32, z = v199_7 + 1 := ⟨_, rfl⟩
              refine lv_iinc (v := y_499) (lv' := [(7, .int y_499), (6, .int 0), (5, .int (-1)), (4, .int r_7), (2, .long r_6), (1, .int r_5), (0, .ref a0_)]) hx hb dX2_readMemberHead_245 hl (k := 1) rfl (by rw [ey_499]; rfl) (by decide) rfl (fun ls hl => ?_)
              have ty_499 := add_bd ey_499 b_486 kb_1 (by decide)
              have b_500 : bd 1 4 y_499 := add_rg ty_499 b_486 kb_1 (by decide)
              refine lv_goto (tgt := 199) hx hb dX2_readMemberHead_248 (by decide) ?_
              have hl9 := lv_sub hl [0, 1, 2, 3, 4, 5, 6] (by rfl : lv_pick [(7, .int y_499), (6, .int 0), (5, .int (-1)), (4, .int r_7), (2, .long r_6), (1, .int r_5), (0, .ref a0_)] [0, 1, 2, 3, 4, 5, 6] = [(7, .int y_499), (6, .int 0), (5, .int (-1)), (4, .int r_7), (2, .long r_6), (1, .int r_5), (0, .ref a0_)])
              have g9 := g.sub (fx' := [(8, 6, q0_, .int 1201), (8, 8, q0_, .int x_468), (2, 0, a0_, .ref q0_), (2, 1, a0_, .ref q1_), (2, 3, a0_, .ref q2_), (2, 4, a0_, .ref q3_), (2, 5, a0_, .ref q4_), (5, 1, q1_, .ref q5_)]) [0, 1, 2, 3, 4, 5, 6, 7] rfl
              exact ih199  y_499 0 1201 (bd_sub b_500 (by decide)) (bd_sub kb_0 (by decide)) kb_1201 (by have h9_0 := b_500; unfold bd at h9_0; have h9_1 := bv199_6; unfold bd at h9_1; have h9_2 := bv199_7; unfold bd at h9_2; have h9_3 := bw199_8_6_q0_; unfold bd at h9_3; have h9_4 := kb_0; unfold bd at h9_4; have h9_5 := kb_1; unfold bd at h9_5; have h9_6 := kb_1201; unfold bd at h9_6; have h9_7 := kb_3; unfold bd at h9_7; have h9_8 := kb_m1; unfold bd at h9_8; omega) _ _ _ _ g9  hl9
      have kb_0 : bd 0 0 (0 : Int32) := ⟨by decide, by decide⟩
      have hl9 := lv_sub hl [0, 1, 2, 3, 4, 5, 6] (by rfl : lv_pick [(7, .int 0), (6, .int 1), (5, .int (-1)), (4, .int r_7), (2, .long r_6), (1, .int r_5), (0, .ref a0_)] [0, 1, 2, 3, 4, 5, 6] = [(7, .int 0), (6, .int 1), (5, .int (-1)), (4, .int r_7), (2, .long r_6), (1, .int r_5), (0, .ref a0_)])
      have g9 := g.sub (fx' := [(8, 6, q0_, .int x_473), (8, 8, q0_, .int x_468), (2, 0, a0_, .ref q0_), (2, 1, a0_, .ref q1_), (2, 3, a0_, .ref q2_), (2, 4, a0_, .ref q3_), (2, 5, a0_, .ref q4_), (5, 1, q1_, .ref q5_)]) [0, 1, 2, 3, 4, 5, 6, 7] rfl
      exact loop_478 (11) 0 1 x_473 (bd_sub kb_0 (by decide)) (bd_sub kb_1 (by decide)) h_474 (by have h9_0 := h_474; unfold bd at h9_0; have h9_1 := kb_0; unfold bd at h9_1; have h9_2 := kb_1; unfold bd at h9_2; have h9_3 := kb_1201; unfold bd at h9_3; have h9_4 := kb_3; unfold bd at h9_4; have h9_5 := kb_m1; unfold bd at h9_5; omega) _ _ _ _ g9  hl9
